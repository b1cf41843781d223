/-! The reference's trial of a way, and its choice, with weights. -/
section TV
variable {kd ar cn : Nat → Nat} {ch : Nat → Nat → Nat} {Y : Nat → Nat → Nat × Nat × Nat} {R : Nat → List Nat} {p1 : Nat}
theorem sm_add3x (a : Nat → Nat) : ∀ n, sm (fun i => a i + (if 0 < i then 3 else 0)) n = sm a n + 3 * (n - 1) := by
  intro n
  induction n with
  | zero => rfl
  | succ n ih =>
    show sm (fun i => a i + (if 0 < i then 3 else 0)) n + (a n + (if 0 < n then 3 else 0)) = sm a n + a n + 3 * (n + 1 - 1)
    rw [ih]
    by_cases z : 0 < n
    · rw [if_pos z]; omega
    · rw [if_neg z]; omega
theorem gm_2 {s : Nat → Nat} : gm 2 s 4 = s 3 := by
  show (if pcn 3 = 2 ∧ gm 2 s 3 < s 3 then s 3 else gm 2 s 3) = s 3
  have e : gm 2 s 3 = 0 := rfl
  rw [e]
  by_cases z : 0 < s 3
  · rw [if_pos ⟨rfl, z⟩]
  · rw [if_neg (fun y => z y.2)]; omega
theorem gm_1 {s : Nat → Nat} : gm 1 s 4 = max (s 1) (s 2) := by
  have e : gm 1 s 4 = gm 1 s 3 := rfl
  have e2 : gm 1 s 2 = s 1 := by
    show (if pcn 1 = 1 ∧ 0 < s 1 then s 1 else 0) = s 1
    by_cases z : 0 < s 1
    · rw [if_pos ⟨rfl, z⟩]
    · rw [if_neg (fun y => z y.2)]; omega
  rw [e]
  show (if pcn 2 = 1 ∧ gm 1 s 2 < s 2 then s 2 else gm 1 s 2) = _
  rw [e2]
  by_cases z : s 1 < s 2
  · rw [if_pos ⟨rfl, z⟩]; omega
  · rw [if_neg (fun y => z y.2)]; omega

theorem tvL_13 : (tL cn ch (xL Y) p1) 13 = (Y (ch p1 0) 2).2.1 + (Y (ch p1 1) 0).2.1 + 0 := by
  show 0 + (Y (ch p1 0) 2).2.1 + (Y (ch p1 1) 0).2.1 = _
  omega
theorem tvG_13 : (tG kd ar cn ch (xG Y) R p1) 13 = (Y (ch p1 0) 2).2.2 + (Y (ch p1 1) 0).2.2 := by
  show 0 + (Y (ch p1 0) 2).2.2 + (Y (ch p1 1) 0).2.2 = _
  omega
theorem tvL_14 : (tL cn ch (xL Y) p1) 14 = (Y (ch p1 1) 2).2.1 + (Y (ch p1 0) 0).2.1 + 0 := by
  show 0 + (Y (ch p1 1) 2).2.1 + (Y (ch p1 0) 0).2.1 = _
  omega
theorem tvG_14 : (tG kd ar cn ch (xG Y) R p1) 14 = (Y (ch p1 1) 2).2.2 + (Y (ch p1 0) 0).2.2 := by
  show 0 + (Y (ch p1 1) 2).2.2 + (Y (ch p1 0) 0).2.2 = _
  omega
theorem tvL_21 : (tL cn ch (xL Y) p1) 21 = (Y (ch p1 0) 2).2.1 + (Y (ch p1 1) 2).2.1 + 0 := by
  show 0 + (Y (ch p1 0) 2).2.1 + (Y (ch p1 1) 2).2.1 = _
  omega
theorem tvG_21 : (tG kd ar cn ch (xG Y) R p1) 21 = (Y (ch p1 0) 2).2.2 + (Y (ch p1 1) 2).2.2 := by
  show 0 + (Y (ch p1 0) 2).2.2 + (Y (ch p1 1) 2).2.2 = _
  omega
theorem tvL_4 : (tL cn ch (xL Y) p1) 4 = (Y (ch p1 0) 1).2.1 + (Y (ch p1 1) 1).2.1 + 3 := by
  show 0 + (Y (ch p1 0) 1).2.1 + (Y (ch p1 1) 1).2.1 + 3 = _
  omega
theorem tvG_4 : (tG kd ar cn ch (xG Y) R p1) 4 = max (Y (ch p1 0) 1).2.2 ((R (ch p1 0)).length + (Y (ch p1 1) 1).2.2) := rfl
theorem tvL_5 : (tL cn ch (xL Y) p1) 5 = (Y (ch p1 0) 1).2.1 + (Y (ch p1 1) 0).2.1 + 3 := by
  show 0 + (Y (ch p1 0) 1).2.1 + (Y (ch p1 1) 0).2.1 + 3 = _
  omega
theorem tvG_5 : (tG kd ar cn ch (xG Y) R p1) 5 = 1 + max (Y (ch p1 0) 1).2.2 (Y (ch p1 1) 0).2.2 := rfl
theorem tvL_6 : (tL cn ch (xL Y) p1) 6 = (Y (ch p1 0) 0).2.1 + (Y (ch p1 1) 1).2.1 + 3 := by
  show 0 + (Y (ch p1 0) 0).2.1 + (Y (ch p1 1) 1).2.1 + 3 = _
  omega
theorem tvG_6 : (tG kd ar cn ch (xG Y) R p1) 6 = 1 + max (Y (ch p1 0) 0).2.2 (Y (ch p1 1) 1).2.2 := rfl
theorem tvL_15 : (tL cn ch (xL Y) p1) 15 = (Y (ch p1 0) 1).2.1 + (Y (ch p1 1) 0).2.1 + 3 := by
  show 0 + (Y (ch p1 0) 1).2.1 + (Y (ch p1 1) 0).2.1 + 3 = _
  omega
theorem tvG_15 : (tG kd ar cn ch (xG Y) R p1) 15 = max (Y (ch p1 0) 1).2.2 ((R (ch p1 0)).length + (Y (ch p1 1) 0).2.2) := rfl
theorem tvL_16 : (tL cn ch (xL Y) p1) 16 = (Y (ch p1 1) 1).2.1 + (Y (ch p1 0) 0).2.1 + 3 := by
  show 0 + (Y (ch p1 1) 1).2.1 + (Y (ch p1 0) 0).2.1 + 3 = _
  omega
theorem tvG_16 : (tG kd ar cn ch (xG Y) R p1) 16 = max (Y (ch p1 1) 1).2.2 ((R (ch p1 1)).length + (Y (ch p1 0) 0).2.2) := rfl
theorem tvL_17 : (tL cn ch (xL Y) p1) 17 = (Y (ch p1 0) 0).2.1 + (Y (ch p1 1) 0).2.1 + 3 := by
  show 0 + (Y (ch p1 0) 0).2.1 + (Y (ch p1 1) 0).2.1 + 3 = _
  omega
theorem tvG_17 : (tG kd ar cn ch (xG Y) R p1) 17 = 1 + max (Y (ch p1 0) 0).2.2 (Y (ch p1 1) 0).2.2 := rfl
theorem tvL_22 : (tL cn ch (xL Y) p1) 22 = (Y (ch p1 0) 1).2.1 + (Y (ch p1 1) 2).2.1 + 2 := by
  show 0 + (Y (ch p1 0) 1).2.1 + (Y (ch p1 1) 2).2.1 + 2 = _
  omega
theorem tvG_22 : (tG kd ar cn ch (xG Y) R p1) 22 = max (Y (ch p1 0) 1).2.2 ((R (ch p1 0)).length + (Y (ch p1 1) 2).2.2) := rfl
theorem tvL_23 : (tL cn ch (xL Y) p1) 23 = (Y (ch p1 0) 2).2.1 + (Y (ch p1 1) 2).2.1 + 3 := by
  show 0 + (Y (ch p1 0) 2).2.1 + (Y (ch p1 1) 2).2.1 + 3 = _
  omega
theorem tvG_23 : (tG kd ar cn ch (xG Y) R p1) 23 = 1 + max (Y (ch p1 0) 2).2.2 (Y (ch p1 1) 2).2.2 := rfl
theorem tvL_23a (h : cn p1 = 2) (w : Nat) (hw : w = 2 ∨ w = 3) : (tL cn ch (xL Y) p1) w = (Y (ch p1 0) 1).2.1 + (Y (ch p1 1) 1).2.1 + 3 := by
  rw [tL_asd (by omega), h, if_neg (by omega)]
  show 0 + (Y (ch p1 0) 1).2.1 + (Y (ch p1 1) 1).2.1 + 3 + 0 = _
  omega
theorem tvG_2 (h : cn p1 = 2) (hk : kd p1 = 5) : (tG kd ar cn ch (xG Y) R p1) 2 = (Y (ch p1 0) 1).2.2 + (Y (ch p1 1) 1).2.2 := by
  have e : (tG kd ar cn ch (xG Y) R p1) 2 = gm (cnu (kd p1) (ar p1)) (sel (fun i => (Y (ch p1 i) 1).2.2) (fun i => (R (ch p1 i)).length) (cn p1)) (2 ^ cn p1) := rfl
  rw [e, h, hk]
  refine gm_2.trans ?_
  show 0 + (Y (ch p1 0) 1).2.2 + (Y (ch p1 1) 1).2.2 = _
  omega
theorem tvG_3 (h : cn p1 = 2) (hk : kd p1 = 6) : (tG kd ar cn ch (xG Y) R p1) 3 = max ((Y (ch p1 0) 1).2.2 + (R (ch p1 1)).length) ((R (ch p1 0)).length + (Y (ch p1 1) 1).2.2) := by
  have e : (tG kd ar cn ch (xG Y) R p1) 3 = gm (cnu (kd p1) (ar p1)) (sel (fun i => (Y (ch p1 i) 1).2.2) (fun i => (R (ch p1 i)).length) (cn p1)) (2 ^ cn p1) := rfl
  rw [e, h, hk]
  refine gm_1.trans ?_
  show max (0 + (Y (ch p1 0) 1).2.2 + (R (ch p1 1)).length) (0 + (R (ch p1 0)).length + (Y (ch p1 1) 1).2.2) = _
  rw [Nat.zero_add, Nat.zero_add]
theorem tvL_7 : (tL cn ch (xL Y) p1) 7 = 1 + sm (fun i => (Y (ch p1 i) 1).2.1 + (if 0 < i then 3 else 0)) (cn p1) := by
  have e : sm (fun i => xL Y (ch p1 i) 1) (cn p1) = sm (fun i => (Y (ch p1 i) 1).2.1) (cn p1) := rfl
  rw [tL_asd (by omega), if_pos rfl, sm_add3x (fun i => (Y (ch p1 i) 1).2.1), e]
  omega
theorem tvG_7 (hk : kd p1 = 7) : (tG kd ar cn ch (xG Y) R p1) 7 = gm (ar p1) (sel (fun i => (Y (ch p1 i) 1).2.2) (fun i => (R (ch p1 i)).length) (cn p1)) (2 ^ cn p1) := by
  have e : (tG kd ar cn ch (xG Y) R p1) 7 = gm (cnu (kd p1) (ar p1)) (sel (fun i => (Y (ch p1 i) 1).2.2) (fun i => (R (ch p1 i)).length) (cn p1)) (2 ^ cn p1) := rfl
  rw [e, hk]; rfl
theorem tvL_18 : (tL cn ch (xL Y) p1) 18 = sm (fun i => if i + 1 < cn p1 then (Y (ch p1 i) 2).2.1 else (Y (ch p1 i) 0).2.1) (cn p1) := by
  show sm (fun i => (Y (ch p1 i) (if i + 1 < cn p1 then 2 else 0)).2.1) (cn p1) = _
  exact sm_congr _ (fun i _ => by split <;> rfl)
theorem tvG_18 : (tG kd ar cn ch (xG Y) R p1) 18 = sm (fun i => if i + 1 < cn p1 then (Y (ch p1 i) 2).2.2 else (Y (ch p1 i) 0).2.2) (cn p1) := by
  show sm (fun i => (Y (ch p1 i) (if i + 1 < cn p1 then 2 else 0)).2.2) (cn p1) = _
  exact sm_congr _ (fun i _ => by split <;> rfl)
theorem tvG_l1 (h : kd p1 = 1) : (tG kd ar cn ch (xG Y) R p1) 1 = 9 := by
  show (if kd p1 = 1 then 9 else if kd p1 = 2 then 5 else 0) = 9
  rw [if_pos h]
theorem tvG_l11 (h : kd p1 = 2) : (tG kd ar cn ch (xG Y) R p1) 11 = 5 := by
  show (if kd p1 = 1 then 9 else if kd p1 = 2 then 5 else 0) = 5
  rw [if_neg (by omega), if_pos h]
theorem tvG_l12 (h : kd p1 = 3 ∨ kd p1 = 4) : (tG kd ar cn ch (xG Y) R p1) 12 = 0 := by
  show (if kd p1 = 1 then 9 else if kd p1 = 2 then 5 else 0) = 0
  rw [if_neg (by omega), if_neg (by omega)]
end TV
/-- the ways that are tried fit the part -/
theorem app_wok {k a n w : Nat} (hk : 1 ≤ k ∧ k ≤ 7) (hw : ways w) (h : app k a n w) : ∃ j, j < 3 ∧ wok k a n j w := by
  have c : (w = 1 ∧ k = 1) ∨ (w = 2 ∧ k = 5) ∨ w = 8 ∨ (w = 11 ∧ k = 2) ∨ (w = 12 ∧ (k = 3 ∨ k = 4)) ∨ (w = 13 ∧ k = 5) ∨ (w = 14 ∧ k = 5) ∨ (w = 18 ∧ k = 7 ∧ a = n) ∨ (w = 7 ∧ k = 7) ∨ (w = 21 ∧ k = 5) ∨ w = 24 ∨ (k = 6 ∧ (w = 3 ∨ w = 4 ∨ w = 5 ∨ w = 6 ∨ w = 15 ∨ w = 16 ∨ w = 17 ∨ w = 22 ∨ w = 23)) := h
  rcases c with ⟨rfl, rfl⟩ | ⟨rfl, rfl⟩ | rfl | ⟨rfl, rfl⟩ | ⟨rfl, c⟩ | ⟨rfl, rfl⟩ | ⟨rfl, rfl⟩ | ⟨rfl, rfl, c⟩ | ⟨rfl, rfl⟩ | ⟨rfl, rfl⟩ | rfl | ⟨rfl, c⟩
  · exact ⟨0, by decide, by simp [wok]⟩
  · exact ⟨0, by decide, by simp [wok]⟩
  · exact ⟨1, by decide, by simp [wok]⟩
  · exact ⟨0, by decide, by simp [wok]⟩
  · exact ⟨0, by decide, by simp [wok, c]⟩
  · exact ⟨0, by decide, by simp [wok]⟩
  · exact ⟨0, by decide, by simp [wok]⟩
  · exact ⟨0, by decide, by simp [wok, c]⟩
  · exact ⟨0, by decide, by simp [wok]⟩
  · exact ⟨2, by decide, by simp [wok]⟩
  · exact ⟨2, by decide, by simp [wok]⟩
  · rcases c with rfl | rfl | rfl | rfl | rfl | rfl | rfl | rfl | rfl
    · exact ⟨0, by decide, by simp [wok]⟩
    · exact ⟨0, by decide, by simp [wok]⟩
    · exact ⟨0, by decide, by simp [wok]⟩
    · exact ⟨0, by decide, by simp [wok]⟩
    · exact ⟨0, by decide, by simp [wok]⟩
    · exact ⟨0, by decide, by simp [wok]⟩
    · exact ⟨0, by decide, by simp [wok]⟩
    · exact ⟨2, by decide, by simp [wok]⟩
    · exact ⟨2, by decide, by simp [wok]⟩
/-- words and weight of a way that fits: positive, small -/
theorem tv_rg {P : Nat} {kd ar cn lf : Nat → Nat} {ch : Nat → Nat → Nat} {Y : Nat → Nat → Nat × Nat × Nat} {R : Nat → List Nat} {p1 j w : Nat} (W : tW P kd ar cn lf ch) (hB : ∀ q, q < P → xB lf Y R q) (hp : p1 < P) (hw : wok (kd p1) (ar p1) (cn p1) j w) : 1 ≤ (tL cn ch (xL Y) p1) w ∧ (tL cn ch (xL Y) p1) w ≤ 900 ∧ (tG kd ar cn ch (xG Y) R p1) w ≤ 900 := by
  obtain ⟨⟨l1, l2, k1, k7, r9⟩, kl, kb⟩ := W.2.2 p1 hp
  have hc : ∀ i, i < ct cn w p1 → cp ch w p1 i < P := fun i hi => by
    rcases cp_in W hp hw hi with ⟨-, e, -⟩ | ⟨-, -, e⟩ <;> omega
  have hn4 : ct cn w p1 ≤ 4 ∧ (ct cn w p1 = 0 → rul w = 1) := by
    by_cases h8 : w = 8 ∨ w = 24
    · rcases h8 with rfl | rfl <;> exact ⟨show 1 ≤ 4 by decide, fun z => absurd (show (1 : Nat) = 0 from z) (by decide)⟩
    · rcases ct_cn W hp hw h8 with ⟨e, e2, -⟩ | ⟨e, e2, e3⟩
      · exact ⟨by omega, fun _ => e2⟩
      · have := (kb e3).2.1
        exact ⟨by omega, fun z => by omega⟩
  have bc : ∀ i, i < ct cn w p1 → bd Y R (cp ch w p1 i) := fun i hi => (hB _ (hc i hi)).bd ⟨(W.2.2 _ (hc i hi)).1.1, (W.2.2 _ (hc i hi)).1.2.1⟩
  refine ⟨tL_pos (fun i hi => ((bc i hi).1 _ (cj_lt cn w p1 i)).1) hn4.2, ?_, ?_⟩
  · have s1 : sm (fun i => xL Y (cp ch w p1 i) (cj cn w p1 i)) (ct cn w p1) ≤ sm (fun _ => 100) (ct cn w p1) := sm_le _ (fun i hi => ((bc i hi).1 _ (cj_lt cn w p1 i)).2.1)
    rw [sm_const] at s1
    unfold tL cwm
    have : (if w = 7 then 1 else 0) ≤ 1 := by split <;> decide
    repeat' split
    all_goals omega
  · have z := tG_le (R := R) W hp hw (G := xG Y) (fun c a b j hj => by
      have z := (hB c b).1 j hj
      have y := (hB c b).2.1
      have x := (W.2.2 c b).1.1
      have : (if j = 0 then 0 else 1) ≤ 1 := by split <;> decide
      show (Y c j).2.2 + 2 ≤ _ ∧ _
      omega) (fun _ => by
      have z := ((hB p1 hp).1 0 (by decide)).2.2
      rw [if_pos rfl] at z
      exact z)
    have : (if j = 0 then 0 else 1) ≤ 1 := by split <;> decide
    omega
section SaXMTry
variable {l : Launch} {D : va_G} {ca : Nat → ClassId}
set_option maxRecDepth 100000 in
set_option maxHeartbeats 20000000 in
theorem x_MO_tries (u : ab_S) (P : Nat) (kd ar cn lf : Nat → Nat) (ch : Nat → Nat → Nat) (Y : Nat → Nat → Nat × Nat × Nat) (R : Nat → List Nat) (W : tW P kd ar cn lf ch) (hB : ∀ q, q < P → xB lf Y R q) (T : tR P kd ar cn ch u) (p1 w : Nat) (h : mR u.2.1) (hp : p1 < P) (hw : ways w) (hl : ∀ c, p1 < c → c < P → m3 Y R u c) (hO : w = 8 ∨ w = 24 → lw u (3 * p1) (Y p1 0).2.1 (Y p1 0).2.2) : ab_C false l D ca y_MO_tries b_MO_tries 6 (some FieldType.boolean) 3 ab_nQ u [ab_O 17 0, ab_I (nI p1), ab_I (nI w)] (fun u' v => gP [18, 19] u u' ∧ ∃ b : Int32, ((b = 1 ∧ app (kd p1) (ar p1) (cn p1) w ∧ u'.1 17 0 18 = nI ((tL cn ch (xL Y) p1) w) ∧ u'.1 17 0 19 = nI ((tG kd ar cn ch (xG Y) R p1) w)) ∨ (b = 0 ∧ ¬ app (kd p1) (ar p1) (cn p1) w)) ∧ v = some (ab_I b)) := by
  refine ab_C.of (by decide) (Nat.le_of_ble_eq_true rfl) ?_
  intro p e s m args below meth c ad X hZ hr0 hlk
  have P0 : gP [18, 19] u u := gP.rf h
  have hP19 := W.2.1
  obtain ⟨ek, ea, ec, ech⟩ := T.2 p1 hp
  obtain ⟨k0, k7⟩ : 1 ≤ kd p1 ∧ kd p1 ≤ 7 := W.k17 hp
  have yes : ∀ (u1 : ab_S), gP [18, 19] u u1 → app (kd p1) (ar p1) (cn p1) w → u1.1 17 0 18 = nI ((tL cn ch (xL Y) p1) w) → u1.1 17 0 19 = nI ((tG kd ar cn ch (xG Y) R p1) w) → ab_J p l e (ab_rm 3 0 0) s m args below meth c (MQ below (ab_Q D ca ad ab_nQ s.heap.size (fun u' v => gP [18, 19] u u' ∧ ∃ b : Int32, ((b = 1 ∧ app (kd p1) (ar p1) (cn p1) w ∧ u'.1 17 0 18 = nI ((tL cn ch (xL Y) p1) w) ∧ u'.1 17 0 19 = nI ((tG kd ar cn ch (xG Y) R p1) w)) ∨ (b = 0 ∧ ¬ app (kd p1) (ar p1) (cn p1) w)) ∧ v = some (ab_I b))) args s 0 0 (ab_A ad ab_nQ s.heap.size)) D ca (ab_A ad ab_nQ s.heap.size) s.heap 6 0 0 ad ab_nQ u1 319 [(0, ab_O 17 0), (1, ab_I (nI p1))] [] := by
    intro u1 P1 ha e1 e2
    obtain ⟨j, hj, wk⟩ := app_wok ⟨k0, k7⟩ hw ha
    have z := tv_rg W hB hp wk
    refine ab_aload_n X 0 d_MO_tries_319 rfl rfl ?_
    refine ab_gI X fl_MO_66 d_MO_tries_320 (by first | assumption | decide | (show _ < 124; omega) | (show _ < 61; omega) | (show _ < 20; omega)) (e1) ?_
    refine ab_if_le X 330 d_MO_tries_323 rfl (fun hb => absurd hb ((nI_nle (by omega) (by omega)))) (fun _ => ?_)
    refine ab_iconst (v := 1) X d_MO_tries_326 (by decide) ?_
    refine ab_goto X 331 d_MO_tries_327 rfl ?_
    exact ab_retz X hr0 hlk (Or.inr rfl) d_MO_tries_331 ⟨P1, 1, Or.inl ⟨rfl, ha, e1, e2⟩, rfl⟩
  have no : ∀ (u1 : ab_S), gP [18, 19] u u1 → ¬ app (kd p1) (ar p1) (cn p1) w → u1.1 17 0 18 = 0 → ab_J p l e (ab_rm 3 0 0) s m args below meth c (MQ below (ab_Q D ca ad ab_nQ s.heap.size (fun u' v => gP [18, 19] u u' ∧ ∃ b : Int32, ((b = 1 ∧ app (kd p1) (ar p1) (cn p1) w ∧ u'.1 17 0 18 = nI ((tL cn ch (xL Y) p1) w) ∧ u'.1 17 0 19 = nI ((tG kd ar cn ch (xG Y) R p1) w)) ∨ (b = 0 ∧ ¬ app (kd p1) (ar p1) (cn p1) w)) ∧ v = some (ab_I b))) args s 0 0 (ab_A ad ab_nQ s.heap.size)) D ca (ab_A ad ab_nQ s.heap.size) s.heap 6 0 0 ad ab_nQ u1 319 [(0, ab_O 17 0), (1, ab_I (nI p1))] [] := by
    intro u1 P1 ha e1
    refine ab_aload_n X 0 d_MO_tries_319 rfl rfl ?_
    refine ab_gI X fl_MO_66 d_MO_tries_320 (by first | assumption | decide | (show _ < 124; omega) | (show _ < 61; omega) | (show _ < 20; omega)) (e1) ?_
    refine ab_if_le X 330 d_MO_tries_323 rfl (fun _ => ?_) (fun hb => absurd ((by decide)) hb)
    refine ab_iconst (v := 0) X d_MO_tries_330 (by decide) ?_
    exact ab_retz X hr0 hlk (Or.inl rfl) d_MO_tries_331 ⟨P1, 0, Or.inr ⟨rfl, ha⟩, rfl⟩
  have cbd : ∀ c, c < P → bd Y R c := fun c hc => (hB c hc).bd ⟨(W.2.2 c hc).1.1, (W.2.2 c hc).1.2.1⟩
  have c2 : kd p1 = 5 ∨ kd p1 = 6 → cn p1 = 2 := fun z => ((W.2.2 p1 hp).2.2 (by omega)).2.2.1 (by omega)
  rcases hw with rfl | rfl | rfl | rfl | rfl | rfl | rfl | rfl | rfl | rfl | rfl | rfl | rfl | rfl | rfl | rfl | rfl | rfl | rfl | rfl
  ·
    refine ab_aload_n X 0 d_MO_tries_0 rfl rfl ?_
    refine ab_gR X fl_MO_33 d_MO_tries_1 (by first | assumption | decide | (show _ < 124; omega) | (show _ < 61; omega) | (show _ < 20; omega)) (P0.1.mo7) ?_
    refine ab_iload_n X 1 d_MO_tries_4 rfl rfl ?_
    refine ab_iald X (p1) ⟨rfl, rfl⟩ d_MO_tries_5 (by first | assumption | decide | (show _ < 124; omega) | (show _ < 61; omega) | (show _ < 20; omega)) (rfl) (show p1 < 40 by omega) (ab_ln_lt _ _) ?_
    refine ab_top ek ?_
    refine ab_istore_n3 X 0 1 2 d_MO_tries_6 rfl (by decide) rfl rfl rfl rfl rfl rfl ?_
    refine ab_aload_n X 1 d_MO_tries_7 rfl rfl ?_
    refine ab_gR X fl_MO_42 d_MO_tries_8 (by first | assumption | decide | (show _ < 124; omega) | (show _ < 61; omega) | (show _ < 20; omega)) (P0.1.mo10) ?_
    refine ab_iconst (v := 4) X d_MO_tries_11 (by decide) ?_
    refine ab_iload_n X 2 d_MO_tries_12 rfl rfl ?_
    refine ab_imul X d_MO_tries_13 ?_
    refine ab_iald X (4 * p1) ⟨rfl, rfl⟩ d_MO_tries_14 (by first | assumption | decide | (show _ < 124; omega) | (show _ < 61; omega) | (show _ < 20; omega)) (nI_4m p1) (show 4 * p1 < 160 by omega) (ab_ln_lt _ _) ?_
    refine ab_istore4 X 0 1 2 3 d_MO_tries_15 (by decide) rfl rfl rfl rfl rfl rfl rfl rfl ?_
    refine ab_aload_n X 2 d_MO_tries_17 rfl rfl ?_
    refine ab_gR X fl_MO_42 d_MO_tries_18 (by first | assumption | decide | (show _ < 124; omega) | (show _ < 61; omega) | (show _ < 20; omega)) (P0.1.mo10) ?_
    refine ab_iconst (v := 4) X d_MO_tries_21 (by decide) ?_
    refine ab_iload_n X 3 d_MO_tries_22 rfl rfl ?_
    refine ab_imul X d_MO_tries_23 ?_
    refine ab_iconst (v := 1) X d_MO_tries_24 (by decide) ?_
    refine ab_iadd X d_MO_tries_25 ?_
    refine ab_iald X (4 * p1 + 1) ⟨rfl, rfl⟩ d_MO_tries_26 (by first | assumption | decide | (show _ < 124; omega) | (show _ < 61; omega) | (show _ < 20; omega)) (nI_4b p1) (show 4 * p1 + 1 < 160 by omega) (ab_ln_lt _ _) ?_
    refine ab_istore5 X 0 1 2 3 4 d_MO_tries_27 (by decide) rfl rfl rfl rfl rfl rfl rfl rfl rfl rfl ?_
    refine ab_aload_n X 3 d_MO_tries_29 rfl rfl ?_
    refine ab_iconst (v := 0) X d_MO_tries_30 (by decide) ?_
    refine ab_putI X fp_MO_66 d_MO_tries_31 (by first | assumption | decide | (show _ < 124; omega) | (show _ < 61; omega) | (show _ < 20; omega)) rfl rfl ?_
    refine ab_gen (fun u31 e31 => ?_)
    have P31 : gP [18, 19] u u31 := by rw [e31]; exact P0.ui rfl (by decide)
    have t31 : u31.1 17 0 18 = 0 := by rw [e31]; simp [ab_up]
    have L31 : ∀ c, p1 < c → c < P → m3 Y R u31 c := fun c a b => (hl c a b).fr P31 (by decide) (by decide) (by decide)
    have T31 := T.fr P31 (by decide) (by decide) (by decide) (by decide) (by decide)
    refine ab_iload_n X 5 d_MO_tries_34 rfl rfl ?_
    refine ab_iconst (v := 1) X d_MO_tries_35 (by decide) ?_
    refine ab_icmp_ne X 51 d_MO_tries_36 rfl (fun hb => absurd ((by decide)) hb) (fun _ => ?_)
    refine ab_iload_n X 2 d_MO_tries_39 rfl rfl ?_
    refine ab_iconst (v := 1) X d_MO_tries_40 (by decide) ?_
    refine ab_icmp_ne X 51 d_MO_tries_41 rfl (fun h41 => ?_) (fun h41 => ?_)
    ·
      have hkc : ¬ kd p1 = 1 := fun z => h41 (by rw [z]; rfl)
      refine ab_iload_n X 5 d_MO_tries_51 rfl rfl ?_
      refine ab_iconst (v := 2) X d_MO_tries_52 (by decide) ?_
      refine ab_icmp_ne X 76 d_MO_tries_53 rfl (fun _ => ?_) (fun hb => absurd hb ((by decide)))
      refine ab_iload_n X 5 d_MO_tries_76 rfl rfl ?_
      refine ab_bipush (v := 8) X d_MO_tries_77 (by decide) ?_
      refine ab_icmp_ne X 108 d_MO_tries_79 rfl (fun _ => ?_) (fun hb => absurd hb ((by decide)))
      refine ab_iload_n X 5 d_MO_tries_108 rfl rfl ?_
      refine ab_bipush (v := 11) X d_MO_tries_109 (by decide) ?_
      refine ab_icmp_ne X 125 d_MO_tries_111 rfl (fun _ => ?_) (fun hb => absurd hb ((by decide)))
      refine ab_iload_n X 5 d_MO_tries_125 rfl rfl ?_
      refine ab_bipush (v := 12) X d_MO_tries_126 (by decide) ?_
      refine ab_icmp_ne X 147 d_MO_tries_128 rfl (fun _ => ?_) (fun hb => absurd hb ((by decide)))
      refine ab_iload_n X 5 d_MO_tries_147 rfl rfl ?_
      refine ab_bipush (v := 13) X d_MO_tries_148 (by decide) ?_
      refine ab_icmp_ne X 173 d_MO_tries_150 rfl (fun _ => ?_) (fun hb => absurd hb ((by decide)))
      refine ab_iload_n X 5 d_MO_tries_173 rfl rfl ?_
      refine ab_bipush (v := 14) X d_MO_tries_174 (by decide) ?_
      refine ab_icmp_ne X 199 d_MO_tries_176 rfl (fun _ => ?_) (fun hb => absurd hb ((by decide)))
      refine ab_iload_n X 5 d_MO_tries_199 rfl rfl ?_
      refine ab_bipush (v := 18) X d_MO_tries_200 (by decide) ?_
      refine ab_icmp_ne X 231 d_MO_tries_202 rfl (fun _ => ?_) (fun hb => absurd hb ((by decide)))
      refine ab_iload_n X 5 d_MO_tries_231 rfl rfl ?_
      refine ab_bipush (v := 7) X d_MO_tries_232 (by decide) ?_
      refine ab_icmp_ne X 248 d_MO_tries_234 rfl (fun _ => ?_) (fun hb => absurd hb ((by decide)))
      refine ab_iload_n X 5 d_MO_tries_248 rfl rfl ?_
      refine ab_bipush (v := 21) X d_MO_tries_249 (by decide) ?_
      refine ab_icmp_ne X 274 d_MO_tries_251 rfl (fun _ => ?_) (fun hb => absurd hb ((by decide)))
      refine ab_iload_n X 5 d_MO_tries_274 rfl rfl ?_
      refine ab_bipush (v := 24) X d_MO_tries_275 (by decide) ?_
      refine ab_icmp_ne X 304 d_MO_tries_277 rfl (fun _ => ?_) (fun hb => absurd hb ((by decide)))
      refine ab_iload_n X 2 d_MO_tries_304 rfl rfl ?_
      refine ab_bipush (v := 6) X d_MO_tries_305 (by decide) ?_
      refine ab_icmp_ne X 319 d_MO_tries_307 rfl (fun h307 => ?_) (fun h307 => ?_)
      ·
        have hk6 : ¬ kd p1 = 6 := fun z => h307 (by rw [z]; rfl)
        refine ab_lv (List.forall_mem_cons.mpr ⟨List.mem_of_getElem? (i := 3) rfl, List.forall_mem_cons.mpr ⟨List.mem_of_getElem? (i := 4) rfl, fun _ h => absurd h List.not_mem_nil⟩⟩) ?_
        first | exact yes _ P31 (by unfold app; omega) (a48.trans rfl) (by rw [tvG_l1 hkc]; exact b48.trans rfl) | exact no _ P31 (by unfold app; omega) t31
      ·
        have hk6 : kd p1 = 6 := (nI_eq (b := 6) (by omega) (by omega)).mp h307
        refine ab_aload_n X 3 d_MO_tries_310 rfl rfl ?_
        refine ab_iload X 1 d_MO_tries_311 rfl ?_
        refine ab_iload X 0 d_MO_tries_313 rfl ?_
        refine ab_iload_n X 5 d_MO_tries_315 rfl rfl ?_
        refine ab_callV (as := [ab_I _, ab_I _, ab_I (nI 1)]) X (fun h => by cases h) (t_MO_triesOr1 u31 _ _) lk_MO_218 d_MO_tries_316 rfl rfl (by first | assumption | decide | (show _ < 124; omega) | (show _ < 61; omega) | (show _ < 20; omega)) ⟨by first | exact Nat.le_of_ble_eq_true rfl | (simp only [ab_rm]; omega), by first | exact Nat.le_of_ble_eq_true rfl | (simp only [ab_rm]; omega)⟩ ⟨by first | exact Nat.le_of_ble_eq_true rfl | (simp only [ab_rm]; omega), by first | exact Nat.le_of_ble_eq_true rfl | (simp only [ab_rm]; omega)⟩ (Nat.le_of_ble_eq_true rfl) (fun u316 r316 h316 => ?_)
        obtain ⟨e316, rfl⟩ := h316
        subst u316
        refine ab_lv (List.forall_mem_cons.mpr ⟨List.mem_of_getElem? (i := 3) rfl, List.forall_mem_cons.mpr ⟨List.mem_of_getElem? (i := 4) rfl, fun _ h => absurd h List.not_mem_nil⟩⟩) ?_
        first | exact yes _ P31 (by unfold app; omega) (a48.trans rfl) (by rw [tvG_l1 hkc]; exact b48.trans rfl) | exact no _ P31 (by unfold app; omega) t31
    ·
      have hkc : kd p1 = 1 := (nI_eq (b := 1) (by omega) (by omega)).mp h41
      refine ab_aload_n X 3 d_MO_tries_44 rfl rfl ?_
      refine ab_iconst (v := 1) X d_MO_tries_45 (by decide) ?_
      refine ab_bipush (v := 9) X d_MO_tries_46 (by decide) ?_
      refine ab_callV (as := [ab_I 1, ab_I _]) X (fun h => by cases h) (x_MO_is u31 1 _ P31.1) lk_MO_188 d_MO_tries_48 rfl rfl (by first | assumption | decide | (show _ < 124; omega) | (show _ < 61; omega) | (show _ < 20; omega)) ⟨by first | exact Nat.le_of_ble_eq_true rfl | (simp only [ab_rm]; omega), by first | exact Nat.le_of_ble_eq_true rfl | (simp only [ab_rm]; omega)⟩ ⟨by first | exact Nat.le_of_ble_eq_true rfl | (simp only [ab_rm]; omega), by first | exact Nat.le_of_ble_eq_true rfl | (simp only [ab_rm]; omega)⟩ (Nat.le_of_ble_eq_true rfl) (fun u48 r48 h48 => ?_)
      obtain ⟨⟨q48, a48, b48⟩, rfl⟩ := h48
      have P48 := P31.trans q48 (by decide)
      refine ab_iload_n X 5 d_MO_tries_51 rfl rfl ?_
      refine ab_iconst (v := 2) X d_MO_tries_52 (by decide) ?_
      refine ab_icmp_ne X 76 d_MO_tries_53 rfl (fun _ => ?_) (fun hb => absurd hb ((by decide)))
      refine ab_iload_n X 5 d_MO_tries_76 rfl rfl ?_
      refine ab_bipush (v := 8) X d_MO_tries_77 (by decide) ?_
      refine ab_icmp_ne X 108 d_MO_tries_79 rfl (fun _ => ?_) (fun hb => absurd hb ((by decide)))
      refine ab_iload_n X 5 d_MO_tries_108 rfl rfl ?_
      refine ab_bipush (v := 11) X d_MO_tries_109 (by decide) ?_
      refine ab_icmp_ne X 125 d_MO_tries_111 rfl (fun _ => ?_) (fun hb => absurd hb ((by decide)))
      refine ab_iload_n X 5 d_MO_tries_125 rfl rfl ?_
      refine ab_bipush (v := 12) X d_MO_tries_126 (by decide) ?_
      refine ab_icmp_ne X 147 d_MO_tries_128 rfl (fun _ => ?_) (fun hb => absurd hb ((by decide)))
      refine ab_iload_n X 5 d_MO_tries_147 rfl rfl ?_
      refine ab_bipush (v := 13) X d_MO_tries_148 (by decide) ?_
      refine ab_icmp_ne X 173 d_MO_tries_150 rfl (fun _ => ?_) (fun hb => absurd hb ((by decide)))
      refine ab_iload_n X 5 d_MO_tries_173 rfl rfl ?_
      refine ab_bipush (v := 14) X d_MO_tries_174 (by decide) ?_
      refine ab_icmp_ne X 199 d_MO_tries_176 rfl (fun _ => ?_) (fun hb => absurd hb ((by decide)))
      refine ab_iload_n X 5 d_MO_tries_199 rfl rfl ?_
      refine ab_bipush (v := 18) X d_MO_tries_200 (by decide) ?_
      refine ab_icmp_ne X 231 d_MO_tries_202 rfl (fun _ => ?_) (fun hb => absurd hb ((by decide)))
      refine ab_iload_n X 5 d_MO_tries_231 rfl rfl ?_
      refine ab_bipush (v := 7) X d_MO_tries_232 (by decide) ?_
      refine ab_icmp_ne X 248 d_MO_tries_234 rfl (fun _ => ?_) (fun hb => absurd hb ((by decide)))
      refine ab_iload_n X 5 d_MO_tries_248 rfl rfl ?_
      refine ab_bipush (v := 21) X d_MO_tries_249 (by decide) ?_
      refine ab_icmp_ne X 274 d_MO_tries_251 rfl (fun _ => ?_) (fun hb => absurd hb ((by decide)))
      refine ab_iload_n X 5 d_MO_tries_274 rfl rfl ?_
      refine ab_bipush (v := 24) X d_MO_tries_275 (by decide) ?_
      refine ab_icmp_ne X 304 d_MO_tries_277 rfl (fun _ => ?_) (fun hb => absurd hb ((by decide)))
      refine ab_iload_n X 2 d_MO_tries_304 rfl rfl ?_
      refine ab_bipush (v := 6) X d_MO_tries_305 (by decide) ?_
      refine ab_icmp_ne X 319 d_MO_tries_307 rfl (fun h307 => ?_) (fun h307 => ?_)
      ·
        have hk6 : ¬ kd p1 = 6 := fun z => h307 (by rw [z]; rfl)
        refine ab_lv (List.forall_mem_cons.mpr ⟨List.mem_of_getElem? (i := 3) rfl, List.forall_mem_cons.mpr ⟨List.mem_of_getElem? (i := 4) rfl, fun _ h => absurd h List.not_mem_nil⟩⟩) ?_
        first | exact yes _ P48 (by unfold app; omega) (a48.trans rfl) (by rw [tvG_l1 hkc]; exact b48.trans rfl) | exact no _ P48 (by unfold app; omega) t31
      ·
        have hk6 : kd p1 = 6 := (nI_eq (b := 6) (by omega) (by omega)).mp h307
        refine ab_aload_n X 3 d_MO_tries_310 rfl rfl ?_
        refine ab_iload X 1 d_MO_tries_311 rfl ?_
        refine ab_iload X 0 d_MO_tries_313 rfl ?_
        refine ab_iload_n X 5 d_MO_tries_315 rfl rfl ?_
        refine ab_callV (as := [ab_I _, ab_I _, ab_I (nI 1)]) X (fun h => by cases h) (t_MO_triesOr1 u48 _ _) lk_MO_218 d_MO_tries_316 rfl rfl (by first | assumption | decide | (show _ < 124; omega) | (show _ < 61; omega) | (show _ < 20; omega)) ⟨by first | exact Nat.le_of_ble_eq_true rfl | (simp only [ab_rm]; omega), by first | exact Nat.le_of_ble_eq_true rfl | (simp only [ab_rm]; omega)⟩ ⟨by first | exact Nat.le_of_ble_eq_true rfl | (simp only [ab_rm]; omega), by first | exact Nat.le_of_ble_eq_true rfl | (simp only [ab_rm]; omega)⟩ (Nat.le_of_ble_eq_true rfl) (fun u316 r316 h316 => ?_)
        obtain ⟨e316, rfl⟩ := h316
        subst u316
        refine ab_lv (List.forall_mem_cons.mpr ⟨List.mem_of_getElem? (i := 3) rfl, List.forall_mem_cons.mpr ⟨List.mem_of_getElem? (i := 4) rfl, fun _ h => absurd h List.not_mem_nil⟩⟩) ?_
        first | exact yes _ P48 (by unfold app; omega) (a48.trans rfl) (by rw [tvG_l1 hkc]; exact b48.trans rfl) | exact no _ P48 (by unfold app; omega) t31
  ·
    refine ab_aload_n X 0 d_MO_tries_0 rfl rfl ?_
    refine ab_gR X fl_MO_33 d_MO_tries_1 (by first | assumption | decide | (show _ < 124; omega) | (show _ < 61; omega) | (show _ < 20; omega)) (P0.1.mo7) ?_
    refine ab_iload_n X 1 d_MO_tries_4 rfl rfl ?_
    refine ab_iald X (p1) ⟨rfl, rfl⟩ d_MO_tries_5 (by first | assumption | decide | (show _ < 124; omega) | (show _ < 61; omega) | (show _ < 20; omega)) (rfl) (show p1 < 40 by omega) (ab_ln_lt _ _) ?_
    refine ab_top ek ?_
    refine ab_istore_n3 X 0 1 2 d_MO_tries_6 rfl (by decide) rfl rfl rfl rfl rfl rfl ?_
    refine ab_aload_n X 1 d_MO_tries_7 rfl rfl ?_
    refine ab_gR X fl_MO_42 d_MO_tries_8 (by first | assumption | decide | (show _ < 124; omega) | (show _ < 61; omega) | (show _ < 20; omega)) (P0.1.mo10) ?_
    refine ab_iconst (v := 4) X d_MO_tries_11 (by decide) ?_
    refine ab_iload_n X 2 d_MO_tries_12 rfl rfl ?_
    refine ab_imul X d_MO_tries_13 ?_
    refine ab_iald X (4 * p1) ⟨rfl, rfl⟩ d_MO_tries_14 (by first | assumption | decide | (show _ < 124; omega) | (show _ < 61; omega) | (show _ < 20; omega)) (nI_4m p1) (show 4 * p1 < 160 by omega) (ab_ln_lt _ _) ?_
    refine ab_istore4 X 0 1 2 3 d_MO_tries_15 (by decide) rfl rfl rfl rfl rfl rfl rfl rfl ?_
    refine ab_aload_n X 2 d_MO_tries_17 rfl rfl ?_
    refine ab_gR X fl_MO_42 d_MO_tries_18 (by first | assumption | decide | (show _ < 124; omega) | (show _ < 61; omega) | (show _ < 20; omega)) (P0.1.mo10) ?_
    refine ab_iconst (v := 4) X d_MO_tries_21 (by decide) ?_
    refine ab_iload_n X 3 d_MO_tries_22 rfl rfl ?_
    refine ab_imul X d_MO_tries_23 ?_
    refine ab_iconst (v := 1) X d_MO_tries_24 (by decide) ?_
    refine ab_iadd X d_MO_tries_25 ?_
    refine ab_iald X (4 * p1 + 1) ⟨rfl, rfl⟩ d_MO_tries_26 (by first | assumption | decide | (show _ < 124; omega) | (show _ < 61; omega) | (show _ < 20; omega)) (nI_4b p1) (show 4 * p1 + 1 < 160 by omega) (ab_ln_lt _ _) ?_
    refine ab_istore5 X 0 1 2 3 4 d_MO_tries_27 (by decide) rfl rfl rfl rfl rfl rfl rfl rfl rfl rfl ?_
    refine ab_aload_n X 3 d_MO_tries_29 rfl rfl ?_
    refine ab_iconst (v := 0) X d_MO_tries_30 (by decide) ?_
    refine ab_putI X fp_MO_66 d_MO_tries_31 (by first | assumption | decide | (show _ < 124; omega) | (show _ < 61; omega) | (show _ < 20; omega)) rfl rfl ?_
    refine ab_gen (fun u31 e31 => ?_)
    have P31 : gP [18, 19] u u31 := by rw [e31]; exact P0.ui rfl (by decide)
    have t31 : u31.1 17 0 18 = 0 := by rw [e31]; simp [ab_up]
    have L31 : ∀ c, p1 < c → c < P → m3 Y R u31 c := fun c a b => (hl c a b).fr P31 (by decide) (by decide) (by decide)
    have T31 := T.fr P31 (by decide) (by decide) (by decide) (by decide) (by decide)
    refine ab_iload_n X 5 d_MO_tries_34 rfl rfl ?_
    refine ab_iconst (v := 1) X d_MO_tries_35 (by decide) ?_
    refine ab_icmp_ne X 51 d_MO_tries_36 rfl (fun _ => ?_) (fun hb => absurd hb ((by decide)))
    refine ab_iload_n X 5 d_MO_tries_51 rfl rfl ?_
    refine ab_iconst (v := 2) X d_MO_tries_52 (by decide) ?_
    refine ab_icmp_ne X 76 d_MO_tries_53 rfl (fun hb => absurd ((by decide)) hb) (fun _ => ?_)
    refine ab_iload_n X 2 d_MO_tries_56 rfl rfl ?_
    refine ab_iconst (v := 5) X d_MO_tries_57 (by decide) ?_
    refine ab_icmp_ne X 76 d_MO_tries_58 rfl (fun h58 => ?_) (fun h58 => ?_)
    ·
      have hk5 : ¬ kd p1 = 5 := fun z => h58 (by rw [z]; rfl)
      refine ab_iload_n X 5 d_MO_tries_76 rfl rfl ?_
      refine ab_bipush (v := 8) X d_MO_tries_77 (by decide) ?_
      refine ab_icmp_ne X 108 d_MO_tries_79 rfl (fun _ => ?_) (fun hb => absurd hb ((by decide)))
      refine ab_iload_n X 5 d_MO_tries_108 rfl rfl ?_
      refine ab_bipush (v := 11) X d_MO_tries_109 (by decide) ?_
      refine ab_icmp_ne X 125 d_MO_tries_111 rfl (fun _ => ?_) (fun hb => absurd hb ((by decide)))
      refine ab_iload_n X 5 d_MO_tries_125 rfl rfl ?_
      refine ab_bipush (v := 12) X d_MO_tries_126 (by decide) ?_
      refine ab_icmp_ne X 147 d_MO_tries_128 rfl (fun _ => ?_) (fun hb => absurd hb ((by decide)))
      refine ab_iload_n X 5 d_MO_tries_147 rfl rfl ?_
      refine ab_bipush (v := 13) X d_MO_tries_148 (by decide) ?_
      refine ab_icmp_ne X 173 d_MO_tries_150 rfl (fun _ => ?_) (fun hb => absurd hb ((by decide)))
      refine ab_iload_n X 5 d_MO_tries_173 rfl rfl ?_
      refine ab_bipush (v := 14) X d_MO_tries_174 (by decide) ?_
      refine ab_icmp_ne X 199 d_MO_tries_176 rfl (fun _ => ?_) (fun hb => absurd hb ((by decide)))
      refine ab_iload_n X 5 d_MO_tries_199 rfl rfl ?_
      refine ab_bipush (v := 18) X d_MO_tries_200 (by decide) ?_
      refine ab_icmp_ne X 231 d_MO_tries_202 rfl (fun _ => ?_) (fun hb => absurd hb ((by decide)))
      refine ab_iload_n X 5 d_MO_tries_231 rfl rfl ?_
      refine ab_bipush (v := 7) X d_MO_tries_232 (by decide) ?_
      refine ab_icmp_ne X 248 d_MO_tries_234 rfl (fun _ => ?_) (fun hb => absurd hb ((by decide)))
      refine ab_iload_n X 5 d_MO_tries_248 rfl rfl ?_
      refine ab_bipush (v := 21) X d_MO_tries_249 (by decide) ?_
      refine ab_icmp_ne X 274 d_MO_tries_251 rfl (fun _ => ?_) (fun hb => absurd hb ((by decide)))
      refine ab_iload_n X 5 d_MO_tries_274 rfl rfl ?_
      refine ab_bipush (v := 24) X d_MO_tries_275 (by decide) ?_
      refine ab_icmp_ne X 304 d_MO_tries_277 rfl (fun _ => ?_) (fun hb => absurd hb ((by decide)))
      refine ab_iload_n X 2 d_MO_tries_304 rfl rfl ?_
      refine ab_bipush (v := 6) X d_MO_tries_305 (by decide) ?_
      refine ab_icmp_ne X 319 d_MO_tries_307 rfl (fun h307 => ?_) (fun h307 => ?_)
      ·
        have hk6 : ¬ kd p1 = 6 := fun z => h307 (by rw [z]; rfl)
        refine ab_lv (List.forall_mem_cons.mpr ⟨List.mem_of_getElem? (i := 3) rfl, List.forall_mem_cons.mpr ⟨List.mem_of_getElem? (i := 4) rfl, fun _ h => absurd h List.not_mem_nil⟩⟩) ?_
        first | exact yes _ P31 (by unfold app; omega) (by rw [tvL_23a (c2 (by omega)) 2 (by omega)]; exact a73) (by rw [tvG_2 (c2 (by omega)) hk5]; exact b73) | exact no _ P31 (by unfold app; omega) t31
      ·
        have hk6 : kd p1 = 6 := (nI_eq (b := 6) (by omega) (by omega)).mp h307
        refine ab_aload_n X 3 d_MO_tries_310 rfl rfl ?_
        refine ab_iload X 1 d_MO_tries_311 rfl ?_
        refine ab_iload X 0 d_MO_tries_313 rfl ?_
        refine ab_iload_n X 5 d_MO_tries_315 rfl rfl ?_
        refine ab_callV (as := [ab_I _, ab_I _, ab_I (nI 2)]) X (fun h => by cases h) (t_MO_triesOr2 u31 _ _) lk_MO_218 d_MO_tries_316 rfl rfl (by first | assumption | decide | (show _ < 124; omega) | (show _ < 61; omega) | (show _ < 20; omega)) ⟨by first | exact Nat.le_of_ble_eq_true rfl | (simp only [ab_rm]; omega), by first | exact Nat.le_of_ble_eq_true rfl | (simp only [ab_rm]; omega)⟩ ⟨by first | exact Nat.le_of_ble_eq_true rfl | (simp only [ab_rm]; omega), by first | exact Nat.le_of_ble_eq_true rfl | (simp only [ab_rm]; omega)⟩ (Nat.le_of_ble_eq_true rfl) (fun u316 r316 h316 => ?_)
        obtain ⟨e316, rfl⟩ := h316
        subst u316
        refine ab_lv (List.forall_mem_cons.mpr ⟨List.mem_of_getElem? (i := 3) rfl, List.forall_mem_cons.mpr ⟨List.mem_of_getElem? (i := 4) rfl, fun _ h => absurd h List.not_mem_nil⟩⟩) ?_
        first | exact yes _ P31 (by unfold app; omega) (by rw [tvL_23a (c2 (by omega)) 2 (by omega)]; exact a73) (by rw [tvG_2 (c2 (by omega)) hk5]; exact b73) | exact no _ P31 (by unfold app; omega) t31
    ·
      have hk5 : kd p1 = 5 := (nI_eq (b := 5) (by omega) (by omega)).mp h58
      obtain ⟨x, y, ex, ey, x1, x2, y1, y2, -, -, -, hx, hy⟩ := W.two T hp (Or.inl hk5)
      rw [ex, ey]
      subst hx hy
      refine ab_aload_n X 3 d_MO_tries_61 rfl rfl ?_
      refine ab_iload X 1 d_MO_tries_62 rfl ?_
      refine ab_callS (as := [ab_I (nI (ch p1 0))]) X (fun h => by cases h) (t_MO_d u31 (ch p1 0)) ls_MO_195 d_MO_tries_64 rfl rfl ⟨by first | exact Nat.le_of_ble_eq_true rfl | (simp only [ab_rm]; omega), by first | exact Nat.le_of_ble_eq_true rfl | (simp only [ab_rm]; omega)⟩ ⟨by first | exact Nat.le_of_ble_eq_true rfl | (simp only [ab_rm]; omega), by first | exact Nat.le_of_ble_eq_true rfl | (simp only [ab_rm]; omega)⟩ (Nat.le_of_ble_eq_true rfl) (fun u64 r64 h64 => ?_)
      obtain ⟨e64, rfl⟩ := h64
      subst u64
      refine ab_iload X 0 d_MO_tries_67 rfl ?_
      refine ab_callS (as := [ab_I (nI (ch p1 1))]) X (fun h => by cases h) (t_MO_d u31 (ch p1 1)) ls_MO_195 d_MO_tries_69 rfl rfl ⟨by first | exact Nat.le_of_ble_eq_true rfl | (simp only [ab_rm]; omega), by first | exact Nat.le_of_ble_eq_true rfl | (simp only [ab_rm]; omega)⟩ ⟨by first | exact Nat.le_of_ble_eq_true rfl | (simp only [ab_rm]; omega), by first | exact Nat.le_of_ble_eq_true rfl | (simp only [ab_rm]; omega)⟩ (Nat.le_of_ble_eq_true rfl) (fun u69 r69 h69 => ?_)
      obtain ⟨e69, rfl⟩ := h69
      subst u69
      refine ab_iconst (v := 3) X d_MO_tries_72 (by decide) ?_
      refine ab_callV (as := [ab_I (nI (3 * ch p1 0 + 1)), ab_I (nI (3 * ch p1 1 + 1)), ab_I (nI 3)]) X (fun h => by cases h) (x_MO_both u31 (3 * ch p1 0 + 1) (3 * ch p1 1 + 1) 3 _ _ _ _ P31.1 (by omega) (by omega) (L31 _ x1 x2).1.2.1 (L31 _ y1 y2).1.2.1) lk_MO_207 d_MO_tries_73 rfl rfl (by first | assumption | decide | (show _ < 124; omega) | (show _ < 61; omega) | (show _ < 20; omega)) ⟨by first | exact Nat.le_of_ble_eq_true rfl | (simp only [ab_rm]; omega), by first | exact Nat.le_of_ble_eq_true rfl | (simp only [ab_rm]; omega)⟩ ⟨by first | exact Nat.le_of_ble_eq_true rfl | (simp only [ab_rm]; omega), by first | exact Nat.le_of_ble_eq_true rfl | (simp only [ab_rm]; omega)⟩ (Nat.le_of_ble_eq_true rfl) (fun u73 r73 h73 => ?_)
      obtain ⟨⟨q73, a73, b73⟩, rfl⟩ := h73
      have P73 := P31.trans q73 (by decide)
      refine ab_iload_n X 5 d_MO_tries_76 rfl rfl ?_
      refine ab_bipush (v := 8) X d_MO_tries_77 (by decide) ?_
      refine ab_icmp_ne X 108 d_MO_tries_79 rfl (fun _ => ?_) (fun hb => absurd hb ((by decide)))
      refine ab_iload_n X 5 d_MO_tries_108 rfl rfl ?_
      refine ab_bipush (v := 11) X d_MO_tries_109 (by decide) ?_
      refine ab_icmp_ne X 125 d_MO_tries_111 rfl (fun _ => ?_) (fun hb => absurd hb ((by decide)))
      refine ab_iload_n X 5 d_MO_tries_125 rfl rfl ?_
      refine ab_bipush (v := 12) X d_MO_tries_126 (by decide) ?_
      refine ab_icmp_ne X 147 d_MO_tries_128 rfl (fun _ => ?_) (fun hb => absurd hb ((by decide)))
      refine ab_iload_n X 5 d_MO_tries_147 rfl rfl ?_
      refine ab_bipush (v := 13) X d_MO_tries_148 (by decide) ?_
      refine ab_icmp_ne X 173 d_MO_tries_150 rfl (fun _ => ?_) (fun hb => absurd hb ((by decide)))
      refine ab_iload_n X 5 d_MO_tries_173 rfl rfl ?_
      refine ab_bipush (v := 14) X d_MO_tries_174 (by decide) ?_
      refine ab_icmp_ne X 199 d_MO_tries_176 rfl (fun _ => ?_) (fun hb => absurd hb ((by decide)))
      refine ab_iload_n X 5 d_MO_tries_199 rfl rfl ?_
      refine ab_bipush (v := 18) X d_MO_tries_200 (by decide) ?_
      refine ab_icmp_ne X 231 d_MO_tries_202 rfl (fun _ => ?_) (fun hb => absurd hb ((by decide)))
      refine ab_iload_n X 5 d_MO_tries_231 rfl rfl ?_
      refine ab_bipush (v := 7) X d_MO_tries_232 (by decide) ?_
      refine ab_icmp_ne X 248 d_MO_tries_234 rfl (fun _ => ?_) (fun hb => absurd hb ((by decide)))
      refine ab_iload_n X 5 d_MO_tries_248 rfl rfl ?_
      refine ab_bipush (v := 21) X d_MO_tries_249 (by decide) ?_
      refine ab_icmp_ne X 274 d_MO_tries_251 rfl (fun _ => ?_) (fun hb => absurd hb ((by decide)))
      refine ab_iload_n X 5 d_MO_tries_274 rfl rfl ?_
      refine ab_bipush (v := 24) X d_MO_tries_275 (by decide) ?_
      refine ab_icmp_ne X 304 d_MO_tries_277 rfl (fun _ => ?_) (fun hb => absurd hb ((by decide)))
      refine ab_iload_n X 2 d_MO_tries_304 rfl rfl ?_
      refine ab_bipush (v := 6) X d_MO_tries_305 (by decide) ?_
      refine ab_icmp_ne X 319 d_MO_tries_307 rfl (fun h307 => ?_) (fun h307 => ?_)
      ·
        have hk6 : ¬ kd p1 = 6 := fun z => h307 (by rw [z]; rfl)
        refine ab_lv (List.forall_mem_cons.mpr ⟨List.mem_of_getElem? (i := 3) rfl, List.forall_mem_cons.mpr ⟨List.mem_of_getElem? (i := 4) rfl, fun _ h => absurd h List.not_mem_nil⟩⟩) ?_
        first | exact yes _ P73 (by unfold app; omega) (by rw [tvL_23a (c2 (by omega)) 2 (by omega)]; exact a73) (by rw [tvG_2 (c2 (by omega)) hk5]; exact b73) | exact no _ P73 (by unfold app; omega) t31
      ·
        have hk6 : kd p1 = 6 := (nI_eq (b := 6) (by omega) (by omega)).mp h307
        refine ab_aload_n X 3 d_MO_tries_310 rfl rfl ?_
        refine ab_iload X 1 d_MO_tries_311 rfl ?_
        refine ab_iload X 0 d_MO_tries_313 rfl ?_
        refine ab_iload_n X 5 d_MO_tries_315 rfl rfl ?_
        refine ab_callV (as := [ab_I _, ab_I _, ab_I (nI 2)]) X (fun h => by cases h) (t_MO_triesOr2 u73 _ _) lk_MO_218 d_MO_tries_316 rfl rfl (by first | assumption | decide | (show _ < 124; omega) | (show _ < 61; omega) | (show _ < 20; omega)) ⟨by first | exact Nat.le_of_ble_eq_true rfl | (simp only [ab_rm]; omega), by first | exact Nat.le_of_ble_eq_true rfl | (simp only [ab_rm]; omega)⟩ ⟨by first | exact Nat.le_of_ble_eq_true rfl | (simp only [ab_rm]; omega), by first | exact Nat.le_of_ble_eq_true rfl | (simp only [ab_rm]; omega)⟩ (Nat.le_of_ble_eq_true rfl) (fun u316 r316 h316 => ?_)
        obtain ⟨e316, rfl⟩ := h316
        subst u316
        refine ab_lv (List.forall_mem_cons.mpr ⟨List.mem_of_getElem? (i := 3) rfl, List.forall_mem_cons.mpr ⟨List.mem_of_getElem? (i := 4) rfl, fun _ h => absurd h List.not_mem_nil⟩⟩) ?_
        first | exact yes _ P73 (by unfold app; omega) (by rw [tvL_23a (c2 (by omega)) 2 (by omega)]; exact a73) (by rw [tvG_2 (c2 (by omega)) hk5]; exact b73) | exact no _ P73 (by unfold app; omega) t31
  ·
    refine ab_aload_n X 0 d_MO_tries_0 rfl rfl ?_
    refine ab_gR X fl_MO_33 d_MO_tries_1 (by first | assumption | decide | (show _ < 124; omega) | (show _ < 61; omega) | (show _ < 20; omega)) (P0.1.mo7) ?_
    refine ab_iload_n X 1 d_MO_tries_4 rfl rfl ?_
    refine ab_iald X (p1) ⟨rfl, rfl⟩ d_MO_tries_5 (by first | assumption | decide | (show _ < 124; omega) | (show _ < 61; omega) | (show _ < 20; omega)) (rfl) (show p1 < 40 by omega) (ab_ln_lt _ _) ?_
    refine ab_top ek ?_
    refine ab_istore_n3 X 0 1 2 d_MO_tries_6 rfl (by decide) rfl rfl rfl rfl rfl rfl ?_
    refine ab_aload_n X 1 d_MO_tries_7 rfl rfl ?_
    refine ab_gR X fl_MO_42 d_MO_tries_8 (by first | assumption | decide | (show _ < 124; omega) | (show _ < 61; omega) | (show _ < 20; omega)) (P0.1.mo10) ?_
    refine ab_iconst (v := 4) X d_MO_tries_11 (by decide) ?_
    refine ab_iload_n X 2 d_MO_tries_12 rfl rfl ?_
    refine ab_imul X d_MO_tries_13 ?_
    refine ab_iald X (4 * p1) ⟨rfl, rfl⟩ d_MO_tries_14 (by first | assumption | decide | (show _ < 124; omega) | (show _ < 61; omega) | (show _ < 20; omega)) (nI_4m p1) (show 4 * p1 < 160 by omega) (ab_ln_lt _ _) ?_
    refine ab_istore4 X 0 1 2 3 d_MO_tries_15 (by decide) rfl rfl rfl rfl rfl rfl rfl rfl ?_
    refine ab_aload_n X 2 d_MO_tries_17 rfl rfl ?_
    refine ab_gR X fl_MO_42 d_MO_tries_18 (by first | assumption | decide | (show _ < 124; omega) | (show _ < 61; omega) | (show _ < 20; omega)) (P0.1.mo10) ?_
    refine ab_iconst (v := 4) X d_MO_tries_21 (by decide) ?_
    refine ab_iload_n X 3 d_MO_tries_22 rfl rfl ?_
    refine ab_imul X d_MO_tries_23 ?_
    refine ab_iconst (v := 1) X d_MO_tries_24 (by decide) ?_
    refine ab_iadd X d_MO_tries_25 ?_
    refine ab_iald X (4 * p1 + 1) ⟨rfl, rfl⟩ d_MO_tries_26 (by first | assumption | decide | (show _ < 124; omega) | (show _ < 61; omega) | (show _ < 20; omega)) (nI_4b p1) (show 4 * p1 + 1 < 160 by omega) (ab_ln_lt _ _) ?_
    refine ab_istore5 X 0 1 2 3 4 d_MO_tries_27 (by decide) rfl rfl rfl rfl rfl rfl rfl rfl rfl rfl ?_
    refine ab_aload_n X 3 d_MO_tries_29 rfl rfl ?_
    refine ab_iconst (v := 0) X d_MO_tries_30 (by decide) ?_
    refine ab_putI X fp_MO_66 d_MO_tries_31 (by first | assumption | decide | (show _ < 124; omega) | (show _ < 61; omega) | (show _ < 20; omega)) rfl rfl ?_
    refine ab_gen (fun u31 e31 => ?_)
    have P31 : gP [18, 19] u u31 := by rw [e31]; exact P0.ui rfl (by decide)
    have t31 : u31.1 17 0 18 = 0 := by rw [e31]; simp [ab_up]
    have L31 : ∀ c, p1 < c → c < P → m3 Y R u31 c := fun c a b => (hl c a b).fr P31 (by decide) (by decide) (by decide)
    have T31 := T.fr P31 (by decide) (by decide) (by decide) (by decide) (by decide)
    refine ab_iload_n X 5 d_MO_tries_34 rfl rfl ?_
    refine ab_iconst (v := 1) X d_MO_tries_35 (by decide) ?_
    refine ab_icmp_ne X 51 d_MO_tries_36 rfl (fun _ => ?_) (fun hb => absurd hb ((by decide)))
    refine ab_iload_n X 5 d_MO_tries_51 rfl rfl ?_
    refine ab_iconst (v := 2) X d_MO_tries_52 (by decide) ?_
    refine ab_icmp_ne X 76 d_MO_tries_53 rfl (fun _ => ?_) (fun hb => absurd hb ((by decide)))
    refine ab_iload_n X 5 d_MO_tries_76 rfl rfl ?_
    refine ab_bipush (v := 8) X d_MO_tries_77 (by decide) ?_
    refine ab_icmp_ne X 108 d_MO_tries_79 rfl (fun _ => ?_) (fun hb => absurd hb ((by decide)))
    refine ab_iload_n X 5 d_MO_tries_108 rfl rfl ?_
    refine ab_bipush (v := 11) X d_MO_tries_109 (by decide) ?_
    refine ab_icmp_ne X 125 d_MO_tries_111 rfl (fun _ => ?_) (fun hb => absurd hb ((by decide)))
    refine ab_iload_n X 5 d_MO_tries_125 rfl rfl ?_
    refine ab_bipush (v := 12) X d_MO_tries_126 (by decide) ?_
    refine ab_icmp_ne X 147 d_MO_tries_128 rfl (fun _ => ?_) (fun hb => absurd hb ((by decide)))
    refine ab_iload_n X 5 d_MO_tries_147 rfl rfl ?_
    refine ab_bipush (v := 13) X d_MO_tries_148 (by decide) ?_
    refine ab_icmp_ne X 173 d_MO_tries_150 rfl (fun _ => ?_) (fun hb => absurd hb ((by decide)))
    refine ab_iload_n X 5 d_MO_tries_173 rfl rfl ?_
    refine ab_bipush (v := 14) X d_MO_tries_174 (by decide) ?_
    refine ab_icmp_ne X 199 d_MO_tries_176 rfl (fun _ => ?_) (fun hb => absurd hb ((by decide)))
    refine ab_iload_n X 5 d_MO_tries_199 rfl rfl ?_
    refine ab_bipush (v := 18) X d_MO_tries_200 (by decide) ?_
    refine ab_icmp_ne X 231 d_MO_tries_202 rfl (fun _ => ?_) (fun hb => absurd hb ((by decide)))
    refine ab_iload_n X 5 d_MO_tries_231 rfl rfl ?_
    refine ab_bipush (v := 7) X d_MO_tries_232 (by decide) ?_
    refine ab_icmp_ne X 248 d_MO_tries_234 rfl (fun _ => ?_) (fun hb => absurd hb ((by decide)))
    refine ab_iload_n X 5 d_MO_tries_248 rfl rfl ?_
    refine ab_bipush (v := 21) X d_MO_tries_249 (by decide) ?_
    refine ab_icmp_ne X 274 d_MO_tries_251 rfl (fun _ => ?_) (fun hb => absurd hb ((by decide)))
    refine ab_iload_n X 5 d_MO_tries_274 rfl rfl ?_
    refine ab_bipush (v := 24) X d_MO_tries_275 (by decide) ?_
    refine ab_icmp_ne X 304 d_MO_tries_277 rfl (fun _ => ?_) (fun hb => absurd hb ((by decide)))
    refine ab_iload_n X 2 d_MO_tries_304 rfl rfl ?_
    refine ab_bipush (v := 6) X d_MO_tries_305 (by decide) ?_
    refine ab_icmp_ne X 319 d_MO_tries_307 rfl (fun h307 => ?_) (fun h307 => ?_)
    ·
      have hk6 : ¬ kd p1 = 6 := fun z => h307 (by rw [z]; rfl)
      refine ab_lv (List.forall_mem_cons.mpr ⟨List.mem_of_getElem? (i := 3) rfl, List.forall_mem_cons.mpr ⟨List.mem_of_getElem? (i := 4) rfl, fun _ h => absurd h List.not_mem_nil⟩⟩) ?_
      first | exact yes _ P31 (by unfold app; omega) (by rw [tvL_23a (c2 (by omega)) 3 (by omega)]; exact a316) (by rw [tvG_3 (c2 (by omega)) hk6]; exact b316) | exact no _ P31 (by unfold app; omega) t31
    ·
      have hk6 : kd p1 = 6 := (nI_eq (b := 6) (by omega) (by omega)).mp h307
      obtain ⟨x, y, ex, ey, x1, x2, y1, y2, -, -, -, hx, hy⟩ := W.two T hp (Or.inr hk6)
      rw [ex, ey]
      subst hx hy
      refine ab_aload_n X 3 d_MO_tries_310 rfl rfl ?_
      refine ab_iload X 1 d_MO_tries_311 rfl ?_
      refine ab_iload X 0 d_MO_tries_313 rfl ?_
      refine ab_iload_n X 5 d_MO_tries_315 rfl rfl ?_
      refine ab_callV (as := [ab_I (nI (ch p1 0)), ab_I (nI (ch p1 1)), ab_I (nI 3)]) X (fun h => by cases h) (x_MO_triesOr3 u31 (ch p1 0) (ch p1 1) Y R P31.1 (by omega) (by omega) (L31 _ x1 x2) (L31 _ y1 y2) (cbd _ x2) (cbd _ y2)) lk_MO_218 d_MO_tries_316 rfl rfl (by first | assumption | decide | (show _ < 124; omega) | (show _ < 61; omega) | (show _ < 20; omega)) ⟨by first | exact Nat.le_of_ble_eq_true rfl | (simp only [ab_rm]; omega), by first | exact Nat.le_of_ble_eq_true rfl | (simp only [ab_rm]; omega)⟩ ⟨by first | exact Nat.le_of_ble_eq_true rfl | (simp only [ab_rm]; omega), by first | exact Nat.le_of_ble_eq_true rfl | (simp only [ab_rm]; omega)⟩ (Nat.le_of_ble_eq_true rfl) (fun u316 r316 h316 => ?_)
      obtain ⟨⟨q316, a316, b316⟩, rfl⟩ := h316
      have P316 := P31.trans q316 (by decide)
      refine ab_lv (List.forall_mem_cons.mpr ⟨List.mem_of_getElem? (i := 3) rfl, List.forall_mem_cons.mpr ⟨List.mem_of_getElem? (i := 4) rfl, fun _ h => absurd h List.not_mem_nil⟩⟩) ?_
      first | exact yes _ P316 (by unfold app; omega) (by rw [tvL_23a (c2 (by omega)) 3 (by omega)]; exact a316) (by rw [tvG_3 (c2 (by omega)) hk6]; exact b316) | exact no _ P316 (by unfold app; omega) t31
  ·
    refine ab_aload_n X 0 d_MO_tries_0 rfl rfl ?_
    refine ab_gR X fl_MO_33 d_MO_tries_1 (by first | assumption | decide | (show _ < 124; omega) | (show _ < 61; omega) | (show _ < 20; omega)) (P0.1.mo7) ?_
    refine ab_iload_n X 1 d_MO_tries_4 rfl rfl ?_
    refine ab_iald X (p1) ⟨rfl, rfl⟩ d_MO_tries_5 (by first | assumption | decide | (show _ < 124; omega) | (show _ < 61; omega) | (show _ < 20; omega)) (rfl) (show p1 < 40 by omega) (ab_ln_lt _ _) ?_
    refine ab_top ek ?_
    refine ab_istore_n3 X 0 1 2 d_MO_tries_6 rfl (by decide) rfl rfl rfl rfl rfl rfl ?_
    refine ab_aload_n X 1 d_MO_tries_7 rfl rfl ?_
    refine ab_gR X fl_MO_42 d_MO_tries_8 (by first | assumption | decide | (show _ < 124; omega) | (show _ < 61; omega) | (show _ < 20; omega)) (P0.1.mo10) ?_
    refine ab_iconst (v := 4) X d_MO_tries_11 (by decide) ?_
    refine ab_iload_n X 2 d_MO_tries_12 rfl rfl ?_
    refine ab_imul X d_MO_tries_13 ?_
    refine ab_iald X (4 * p1) ⟨rfl, rfl⟩ d_MO_tries_14 (by first | assumption | decide | (show _ < 124; omega) | (show _ < 61; omega) | (show _ < 20; omega)) (nI_4m p1) (show 4 * p1 < 160 by omega) (ab_ln_lt _ _) ?_
    refine ab_istore4 X 0 1 2 3 d_MO_tries_15 (by decide) rfl rfl rfl rfl rfl rfl rfl rfl ?_
    refine ab_aload_n X 2 d_MO_tries_17 rfl rfl ?_
    refine ab_gR X fl_MO_42 d_MO_tries_18 (by first | assumption | decide | (show _ < 124; omega) | (show _ < 61; omega) | (show _ < 20; omega)) (P0.1.mo10) ?_
    refine ab_iconst (v := 4) X d_MO_tries_21 (by decide) ?_
    refine ab_iload_n X 3 d_MO_tries_22 rfl rfl ?_
    refine ab_imul X d_MO_tries_23 ?_
    refine ab_iconst (v := 1) X d_MO_tries_24 (by decide) ?_
    refine ab_iadd X d_MO_tries_25 ?_
    refine ab_iald X (4 * p1 + 1) ⟨rfl, rfl⟩ d_MO_tries_26 (by first | assumption | decide | (show _ < 124; omega) | (show _ < 61; omega) | (show _ < 20; omega)) (nI_4b p1) (show 4 * p1 + 1 < 160 by omega) (ab_ln_lt _ _) ?_
    refine ab_istore5 X 0 1 2 3 4 d_MO_tries_27 (by decide) rfl rfl rfl rfl rfl rfl rfl rfl rfl rfl ?_
    refine ab_aload_n X 3 d_MO_tries_29 rfl rfl ?_
    refine ab_iconst (v := 0) X d_MO_tries_30 (by decide) ?_
    refine ab_putI X fp_MO_66 d_MO_tries_31 (by first | assumption | decide | (show _ < 124; omega) | (show _ < 61; omega) | (show _ < 20; omega)) rfl rfl ?_
    refine ab_gen (fun u31 e31 => ?_)
    have P31 : gP [18, 19] u u31 := by rw [e31]; exact P0.ui rfl (by decide)
    have t31 : u31.1 17 0 18 = 0 := by rw [e31]; simp [ab_up]
    have L31 : ∀ c, p1 < c → c < P → m3 Y R u31 c := fun c a b => (hl c a b).fr P31 (by decide) (by decide) (by decide)
    have T31 := T.fr P31 (by decide) (by decide) (by decide) (by decide) (by decide)
    refine ab_iload_n X 5 d_MO_tries_34 rfl rfl ?_
    refine ab_iconst (v := 1) X d_MO_tries_35 (by decide) ?_
    refine ab_icmp_ne X 51 d_MO_tries_36 rfl (fun _ => ?_) (fun hb => absurd hb ((by decide)))
    refine ab_iload_n X 5 d_MO_tries_51 rfl rfl ?_
    refine ab_iconst (v := 2) X d_MO_tries_52 (by decide) ?_
    refine ab_icmp_ne X 76 d_MO_tries_53 rfl (fun _ => ?_) (fun hb => absurd hb ((by decide)))
    refine ab_iload_n X 5 d_MO_tries_76 rfl rfl ?_
    refine ab_bipush (v := 8) X d_MO_tries_77 (by decide) ?_
    refine ab_icmp_ne X 108 d_MO_tries_79 rfl (fun _ => ?_) (fun hb => absurd hb ((by decide)))
    refine ab_iload_n X 5 d_MO_tries_108 rfl rfl ?_
    refine ab_bipush (v := 11) X d_MO_tries_109 (by decide) ?_
    refine ab_icmp_ne X 125 d_MO_tries_111 rfl (fun _ => ?_) (fun hb => absurd hb ((by decide)))
    refine ab_iload_n X 5 d_MO_tries_125 rfl rfl ?_
    refine ab_bipush (v := 12) X d_MO_tries_126 (by decide) ?_
    refine ab_icmp_ne X 147 d_MO_tries_128 rfl (fun _ => ?_) (fun hb => absurd hb ((by decide)))
    refine ab_iload_n X 5 d_MO_tries_147 rfl rfl ?_
    refine ab_bipush (v := 13) X d_MO_tries_148 (by decide) ?_
    refine ab_icmp_ne X 173 d_MO_tries_150 rfl (fun _ => ?_) (fun hb => absurd hb ((by decide)))
    refine ab_iload_n X 5 d_MO_tries_173 rfl rfl ?_
    refine ab_bipush (v := 14) X d_MO_tries_174 (by decide) ?_
    refine ab_icmp_ne X 199 d_MO_tries_176 rfl (fun _ => ?_) (fun hb => absurd hb ((by decide)))
    refine ab_iload_n X 5 d_MO_tries_199 rfl rfl ?_
    refine ab_bipush (v := 18) X d_MO_tries_200 (by decide) ?_
    refine ab_icmp_ne X 231 d_MO_tries_202 rfl (fun _ => ?_) (fun hb => absurd hb ((by decide)))
    refine ab_iload_n X 5 d_MO_tries_231 rfl rfl ?_
    refine ab_bipush (v := 7) X d_MO_tries_232 (by decide) ?_
    refine ab_icmp_ne X 248 d_MO_tries_234 rfl (fun _ => ?_) (fun hb => absurd hb ((by decide)))
    refine ab_iload_n X 5 d_MO_tries_248 rfl rfl ?_
    refine ab_bipush (v := 21) X d_MO_tries_249 (by decide) ?_
    refine ab_icmp_ne X 274 d_MO_tries_251 rfl (fun _ => ?_) (fun hb => absurd hb ((by decide)))
    refine ab_iload_n X 5 d_MO_tries_274 rfl rfl ?_
    refine ab_bipush (v := 24) X d_MO_tries_275 (by decide) ?_
    refine ab_icmp_ne X 304 d_MO_tries_277 rfl (fun _ => ?_) (fun hb => absurd hb ((by decide)))
    refine ab_iload_n X 2 d_MO_tries_304 rfl rfl ?_
    refine ab_bipush (v := 6) X d_MO_tries_305 (by decide) ?_
    refine ab_icmp_ne X 319 d_MO_tries_307 rfl (fun h307 => ?_) (fun h307 => ?_)
    ·
      have hk6 : ¬ kd p1 = 6 := fun z => h307 (by rw [z]; rfl)
      refine ab_lv (List.forall_mem_cons.mpr ⟨List.mem_of_getElem? (i := 3) rfl, List.forall_mem_cons.mpr ⟨List.mem_of_getElem? (i := 4) rfl, fun _ h => absurd h List.not_mem_nil⟩⟩) ?_
      first | exact yes _ P31 (by unfold app; omega) (by rw [tvL_4]; exact a316) (by rw [tvG_4]; exact b316) | exact no _ P31 (by unfold app; omega) t31
    ·
      have hk6 : kd p1 = 6 := (nI_eq (b := 6) (by omega) (by omega)).mp h307
      obtain ⟨x, y, ex, ey, x1, x2, y1, y2, -, -, -, hx, hy⟩ := W.two T hp (Or.inr hk6)
      rw [ex, ey]
      subst hx hy
      refine ab_aload_n X 3 d_MO_tries_310 rfl rfl ?_
      refine ab_iload X 1 d_MO_tries_311 rfl ?_
      refine ab_iload X 0 d_MO_tries_313 rfl ?_
      refine ab_iload_n X 5 d_MO_tries_315 rfl rfl ?_
      refine ab_callV (as := [ab_I (nI (ch p1 0)), ab_I (nI (ch p1 1)), ab_I (nI 4)]) X (fun h => by cases h) (x_MO_triesOr4 u31 (ch p1 0) (ch p1 1) Y R P31.1 (by omega) (by omega) (L31 _ x1 x2) (L31 _ y1 y2) (cbd _ x2) (cbd _ y2)) lk_MO_218 d_MO_tries_316 rfl rfl (by first | assumption | decide | (show _ < 124; omega) | (show _ < 61; omega) | (show _ < 20; omega)) ⟨by first | exact Nat.le_of_ble_eq_true rfl | (simp only [ab_rm]; omega), by first | exact Nat.le_of_ble_eq_true rfl | (simp only [ab_rm]; omega)⟩ ⟨by first | exact Nat.le_of_ble_eq_true rfl | (simp only [ab_rm]; omega), by first | exact Nat.le_of_ble_eq_true rfl | (simp only [ab_rm]; omega)⟩ (Nat.le_of_ble_eq_true rfl) (fun u316 r316 h316 => ?_)
      obtain ⟨⟨q316, a316, b316⟩, rfl⟩ := h316
      have P316 := P31.trans q316 (by decide)
      refine ab_lv (List.forall_mem_cons.mpr ⟨List.mem_of_getElem? (i := 3) rfl, List.forall_mem_cons.mpr ⟨List.mem_of_getElem? (i := 4) rfl, fun _ h => absurd h List.not_mem_nil⟩⟩) ?_
      first | exact yes _ P316 (by unfold app; omega) (by rw [tvL_4]; exact a316) (by rw [tvG_4]; exact b316) | exact no _ P316 (by unfold app; omega) t31
  ·
    refine ab_aload_n X 0 d_MO_tries_0 rfl rfl ?_
    refine ab_gR X fl_MO_33 d_MO_tries_1 (by first | assumption | decide | (show _ < 124; omega) | (show _ < 61; omega) | (show _ < 20; omega)) (P0.1.mo7) ?_
    refine ab_iload_n X 1 d_MO_tries_4 rfl rfl ?_
    refine ab_iald X (p1) ⟨rfl, rfl⟩ d_MO_tries_5 (by first | assumption | decide | (show _ < 124; omega) | (show _ < 61; omega) | (show _ < 20; omega)) (rfl) (show p1 < 40 by omega) (ab_ln_lt _ _) ?_
    refine ab_top ek ?_
    refine ab_istore_n3 X 0 1 2 d_MO_tries_6 rfl (by decide) rfl rfl rfl rfl rfl rfl ?_
    refine ab_aload_n X 1 d_MO_tries_7 rfl rfl ?_
    refine ab_gR X fl_MO_42 d_MO_tries_8 (by first | assumption | decide | (show _ < 124; omega) | (show _ < 61; omega) | (show _ < 20; omega)) (P0.1.mo10) ?_
    refine ab_iconst (v := 4) X d_MO_tries_11 (by decide) ?_
    refine ab_iload_n X 2 d_MO_tries_12 rfl rfl ?_
    refine ab_imul X d_MO_tries_13 ?_
    refine ab_iald X (4 * p1) ⟨rfl, rfl⟩ d_MO_tries_14 (by first | assumption | decide | (show _ < 124; omega) | (show _ < 61; omega) | (show _ < 20; omega)) (nI_4m p1) (show 4 * p1 < 160 by omega) (ab_ln_lt _ _) ?_
    refine ab_istore4 X 0 1 2 3 d_MO_tries_15 (by decide) rfl rfl rfl rfl rfl rfl rfl rfl ?_
    refine ab_aload_n X 2 d_MO_tries_17 rfl rfl ?_
    refine ab_gR X fl_MO_42 d_MO_tries_18 (by first | assumption | decide | (show _ < 124; omega) | (show _ < 61; omega) | (show _ < 20; omega)) (P0.1.mo10) ?_
    refine ab_iconst (v := 4) X d_MO_tries_21 (by decide) ?_
    refine ab_iload_n X 3 d_MO_tries_22 rfl rfl ?_
    refine ab_imul X d_MO_tries_23 ?_
    refine ab_iconst (v := 1) X d_MO_tries_24 (by decide) ?_
    refine ab_iadd X d_MO_tries_25 ?_
    refine ab_iald X (4 * p1 + 1) ⟨rfl, rfl⟩ d_MO_tries_26 (by first | assumption | decide | (show _ < 124; omega) | (show _ < 61; omega) | (show _ < 20; omega)) (nI_4b p1) (show 4 * p1 + 1 < 160 by omega) (ab_ln_lt _ _) ?_
    refine ab_istore5 X 0 1 2 3 4 d_MO_tries_27 (by decide) rfl rfl rfl rfl rfl rfl rfl rfl rfl rfl ?_
    refine ab_aload_n X 3 d_MO_tries_29 rfl rfl ?_
    refine ab_iconst (v := 0) X d_MO_tries_30 (by decide) ?_
    refine ab_putI X fp_MO_66 d_MO_tries_31 (by first | assumption | decide | (show _ < 124; omega) | (show _ < 61; omega) | (show _ < 20; omega)) rfl rfl ?_
    refine ab_gen (fun u31 e31 => ?_)
    have P31 : gP [18, 19] u u31 := by rw [e31]; exact P0.ui rfl (by decide)
    have t31 : u31.1 17 0 18 = 0 := by rw [e31]; simp [ab_up]
    have L31 : ∀ c, p1 < c → c < P → m3 Y R u31 c := fun c a b => (hl c a b).fr P31 (by decide) (by decide) (by decide)
    have T31 := T.fr P31 (by decide) (by decide) (by decide) (by decide) (by decide)
    refine ab_iload_n X 5 d_MO_tries_34 rfl rfl ?_
    refine ab_iconst (v := 1) X d_MO_tries_35 (by decide) ?_
    refine ab_icmp_ne X 51 d_MO_tries_36 rfl (fun _ => ?_) (fun hb => absurd hb ((by decide)))
    refine ab_iload_n X 5 d_MO_tries_51 rfl rfl ?_
    refine ab_iconst (v := 2) X d_MO_tries_52 (by decide) ?_
    refine ab_icmp_ne X 76 d_MO_tries_53 rfl (fun _ => ?_) (fun hb => absurd hb ((by decide)))
    refine ab_iload_n X 5 d_MO_tries_76 rfl rfl ?_
    refine ab_bipush (v := 8) X d_MO_tries_77 (by decide) ?_
    refine ab_icmp_ne X 108 d_MO_tries_79 rfl (fun _ => ?_) (fun hb => absurd hb ((by decide)))
    refine ab_iload_n X 5 d_MO_tries_108 rfl rfl ?_
    refine ab_bipush (v := 11) X d_MO_tries_109 (by decide) ?_
    refine ab_icmp_ne X 125 d_MO_tries_111 rfl (fun _ => ?_) (fun hb => absurd hb ((by decide)))
    refine ab_iload_n X 5 d_MO_tries_125 rfl rfl ?_
    refine ab_bipush (v := 12) X d_MO_tries_126 (by decide) ?_
    refine ab_icmp_ne X 147 d_MO_tries_128 rfl (fun _ => ?_) (fun hb => absurd hb ((by decide)))
    refine ab_iload_n X 5 d_MO_tries_147 rfl rfl ?_
    refine ab_bipush (v := 13) X d_MO_tries_148 (by decide) ?_
    refine ab_icmp_ne X 173 d_MO_tries_150 rfl (fun _ => ?_) (fun hb => absurd hb ((by decide)))
    refine ab_iload_n X 5 d_MO_tries_173 rfl rfl ?_
    refine ab_bipush (v := 14) X d_MO_tries_174 (by decide) ?_
    refine ab_icmp_ne X 199 d_MO_tries_176 rfl (fun _ => ?_) (fun hb => absurd hb ((by decide)))
    refine ab_iload_n X 5 d_MO_tries_199 rfl rfl ?_
    refine ab_bipush (v := 18) X d_MO_tries_200 (by decide) ?_
    refine ab_icmp_ne X 231 d_MO_tries_202 rfl (fun _ => ?_) (fun hb => absurd hb ((by decide)))
    refine ab_iload_n X 5 d_MO_tries_231 rfl rfl ?_
    refine ab_bipush (v := 7) X d_MO_tries_232 (by decide) ?_
    refine ab_icmp_ne X 248 d_MO_tries_234 rfl (fun _ => ?_) (fun hb => absurd hb ((by decide)))
    refine ab_iload_n X 5 d_MO_tries_248 rfl rfl ?_
    refine ab_bipush (v := 21) X d_MO_tries_249 (by decide) ?_
    refine ab_icmp_ne X 274 d_MO_tries_251 rfl (fun _ => ?_) (fun hb => absurd hb ((by decide)))
    refine ab_iload_n X 5 d_MO_tries_274 rfl rfl ?_
    refine ab_bipush (v := 24) X d_MO_tries_275 (by decide) ?_
    refine ab_icmp_ne X 304 d_MO_tries_277 rfl (fun _ => ?_) (fun hb => absurd hb ((by decide)))
    refine ab_iload_n X 2 d_MO_tries_304 rfl rfl ?_
    refine ab_bipush (v := 6) X d_MO_tries_305 (by decide) ?_
    refine ab_icmp_ne X 319 d_MO_tries_307 rfl (fun h307 => ?_) (fun h307 => ?_)
    ·
      have hk6 : ¬ kd p1 = 6 := fun z => h307 (by rw [z]; rfl)
      refine ab_lv (List.forall_mem_cons.mpr ⟨List.mem_of_getElem? (i := 3) rfl, List.forall_mem_cons.mpr ⟨List.mem_of_getElem? (i := 4) rfl, fun _ h => absurd h List.not_mem_nil⟩⟩) ?_
      first | exact yes _ P31 (by unfold app; omega) (by rw [tvL_5]; exact a316) (by rw [tvG_5]; exact b316) | exact no _ P31 (by unfold app; omega) t31
    ·
      have hk6 : kd p1 = 6 := (nI_eq (b := 6) (by omega) (by omega)).mp h307
      obtain ⟨x, y, ex, ey, x1, x2, y1, y2, -, -, -, hx, hy⟩ := W.two T hp (Or.inr hk6)
      rw [ex, ey]
      subst hx hy
      refine ab_aload_n X 3 d_MO_tries_310 rfl rfl ?_
      refine ab_iload X 1 d_MO_tries_311 rfl ?_
      refine ab_iload X 0 d_MO_tries_313 rfl ?_
      refine ab_iload_n X 5 d_MO_tries_315 rfl rfl ?_
      refine ab_callV (as := [ab_I (nI (ch p1 0)), ab_I (nI (ch p1 1)), ab_I (nI 5)]) X (fun h => by cases h) (x_MO_triesOr5 u31 (ch p1 0) (ch p1 1) Y R P31.1 (by omega) (by omega) (L31 _ x1 x2) (L31 _ y1 y2) (cbd _ x2) (cbd _ y2)) lk_MO_218 d_MO_tries_316 rfl rfl (by first | assumption | decide | (show _ < 124; omega) | (show _ < 61; omega) | (show _ < 20; omega)) ⟨by first | exact Nat.le_of_ble_eq_true rfl | (simp only [ab_rm]; omega), by first | exact Nat.le_of_ble_eq_true rfl | (simp only [ab_rm]; omega)⟩ ⟨by first | exact Nat.le_of_ble_eq_true rfl | (simp only [ab_rm]; omega), by first | exact Nat.le_of_ble_eq_true rfl | (simp only [ab_rm]; omega)⟩ (Nat.le_of_ble_eq_true rfl) (fun u316 r316 h316 => ?_)
      obtain ⟨⟨q316, a316, b316⟩, rfl⟩ := h316
      have P316 := P31.trans q316 (by decide)
      refine ab_lv (List.forall_mem_cons.mpr ⟨List.mem_of_getElem? (i := 3) rfl, List.forall_mem_cons.mpr ⟨List.mem_of_getElem? (i := 4) rfl, fun _ h => absurd h List.not_mem_nil⟩⟩) ?_
      first | exact yes _ P316 (by unfold app; omega) (by rw [tvL_5]; exact a316) (by rw [tvG_5]; exact b316) | exact no _ P316 (by unfold app; omega) t31
  ·
    refine ab_aload_n X 0 d_MO_tries_0 rfl rfl ?_
    refine ab_gR X fl_MO_33 d_MO_tries_1 (by first | assumption | decide | (show _ < 124; omega) | (show _ < 61; omega) | (show _ < 20; omega)) (P0.1.mo7) ?_
    refine ab_iload_n X 1 d_MO_tries_4 rfl rfl ?_
    refine ab_iald X (p1) ⟨rfl, rfl⟩ d_MO_tries_5 (by first | assumption | decide | (show _ < 124; omega) | (show _ < 61; omega) | (show _ < 20; omega)) (rfl) (show p1 < 40 by omega) (ab_ln_lt _ _) ?_
    refine ab_top ek ?_
    refine ab_istore_n3 X 0 1 2 d_MO_tries_6 rfl (by decide) rfl rfl rfl rfl rfl rfl ?_
    refine ab_aload_n X 1 d_MO_tries_7 rfl rfl ?_
    refine ab_gR X fl_MO_42 d_MO_tries_8 (by first | assumption | decide | (show _ < 124; omega) | (show _ < 61; omega) | (show _ < 20; omega)) (P0.1.mo10) ?_
    refine ab_iconst (v := 4) X d_MO_tries_11 (by decide) ?_
    refine ab_iload_n X 2 d_MO_tries_12 rfl rfl ?_
    refine ab_imul X d_MO_tries_13 ?_
    refine ab_iald X (4 * p1) ⟨rfl, rfl⟩ d_MO_tries_14 (by first | assumption | decide | (show _ < 124; omega) | (show _ < 61; omega) | (show _ < 20; omega)) (nI_4m p1) (show 4 * p1 < 160 by omega) (ab_ln_lt _ _) ?_
    refine ab_istore4 X 0 1 2 3 d_MO_tries_15 (by decide) rfl rfl rfl rfl rfl rfl rfl rfl ?_
    refine ab_aload_n X 2 d_MO_tries_17 rfl rfl ?_
    refine ab_gR X fl_MO_42 d_MO_tries_18 (by first | assumption | decide | (show _ < 124; omega) | (show _ < 61; omega) | (show _ < 20; omega)) (P0.1.mo10) ?_
    refine ab_iconst (v := 4) X d_MO_tries_21 (by decide) ?_
    refine ab_iload_n X 3 d_MO_tries_22 rfl rfl ?_
    refine ab_imul X d_MO_tries_23 ?_
    refine ab_iconst (v := 1) X d_MO_tries_24 (by decide) ?_
    refine ab_iadd X d_MO_tries_25 ?_
    refine ab_iald X (4 * p1 + 1) ⟨rfl, rfl⟩ d_MO_tries_26 (by first | assumption | decide | (show _ < 124; omega) | (show _ < 61; omega) | (show _ < 20; omega)) (nI_4b p1) (show 4 * p1 + 1 < 160 by omega) (ab_ln_lt _ _) ?_
    refine ab_istore5 X 0 1 2 3 4 d_MO_tries_27 (by decide) rfl rfl rfl rfl rfl rfl rfl rfl rfl rfl ?_
    refine ab_aload_n X 3 d_MO_tries_29 rfl rfl ?_
    refine ab_iconst (v := 0) X d_MO_tries_30 (by decide) ?_
    refine ab_putI X fp_MO_66 d_MO_tries_31 (by first | assumption | decide | (show _ < 124; omega) | (show _ < 61; omega) | (show _ < 20; omega)) rfl rfl ?_
    refine ab_gen (fun u31 e31 => ?_)
    have P31 : gP [18, 19] u u31 := by rw [e31]; exact P0.ui rfl (by decide)
    have t31 : u31.1 17 0 18 = 0 := by rw [e31]; simp [ab_up]
    have L31 : ∀ c, p1 < c → c < P → m3 Y R u31 c := fun c a b => (hl c a b).fr P31 (by decide) (by decide) (by decide)
    have T31 := T.fr P31 (by decide) (by decide) (by decide) (by decide) (by decide)
    refine ab_iload_n X 5 d_MO_tries_34 rfl rfl ?_
    refine ab_iconst (v := 1) X d_MO_tries_35 (by decide) ?_
    refine ab_icmp_ne X 51 d_MO_tries_36 rfl (fun _ => ?_) (fun hb => absurd hb ((by decide)))
    refine ab_iload_n X 5 d_MO_tries_51 rfl rfl ?_
    refine ab_iconst (v := 2) X d_MO_tries_52 (by decide) ?_
    refine ab_icmp_ne X 76 d_MO_tries_53 rfl (fun _ => ?_) (fun hb => absurd hb ((by decide)))
    refine ab_iload_n X 5 d_MO_tries_76 rfl rfl ?_
    refine ab_bipush (v := 8) X d_MO_tries_77 (by decide) ?_
    refine ab_icmp_ne X 108 d_MO_tries_79 rfl (fun _ => ?_) (fun hb => absurd hb ((by decide)))
    refine ab_iload_n X 5 d_MO_tries_108 rfl rfl ?_
    refine ab_bipush (v := 11) X d_MO_tries_109 (by decide) ?_
    refine ab_icmp_ne X 125 d_MO_tries_111 rfl (fun _ => ?_) (fun hb => absurd hb ((by decide)))
    refine ab_iload_n X 5 d_MO_tries_125 rfl rfl ?_
    refine ab_bipush (v := 12) X d_MO_tries_126 (by decide) ?_
    refine ab_icmp_ne X 147 d_MO_tries_128 rfl (fun _ => ?_) (fun hb => absurd hb ((by decide)))
    refine ab_iload_n X 5 d_MO_tries_147 rfl rfl ?_
    refine ab_bipush (v := 13) X d_MO_tries_148 (by decide) ?_
    refine ab_icmp_ne X 173 d_MO_tries_150 rfl (fun _ => ?_) (fun hb => absurd hb ((by decide)))
    refine ab_iload_n X 5 d_MO_tries_173 rfl rfl ?_
    refine ab_bipush (v := 14) X d_MO_tries_174 (by decide) ?_
    refine ab_icmp_ne X 199 d_MO_tries_176 rfl (fun _ => ?_) (fun hb => absurd hb ((by decide)))
    refine ab_iload_n X 5 d_MO_tries_199 rfl rfl ?_
    refine ab_bipush (v := 18) X d_MO_tries_200 (by decide) ?_
    refine ab_icmp_ne X 231 d_MO_tries_202 rfl (fun _ => ?_) (fun hb => absurd hb ((by decide)))
    refine ab_iload_n X 5 d_MO_tries_231 rfl rfl ?_
    refine ab_bipush (v := 7) X d_MO_tries_232 (by decide) ?_
    refine ab_icmp_ne X 248 d_MO_tries_234 rfl (fun _ => ?_) (fun hb => absurd hb ((by decide)))
    refine ab_iload_n X 5 d_MO_tries_248 rfl rfl ?_
    refine ab_bipush (v := 21) X d_MO_tries_249 (by decide) ?_
    refine ab_icmp_ne X 274 d_MO_tries_251 rfl (fun _ => ?_) (fun hb => absurd hb ((by decide)))
    refine ab_iload_n X 5 d_MO_tries_274 rfl rfl ?_
    refine ab_bipush (v := 24) X d_MO_tries_275 (by decide) ?_
    refine ab_icmp_ne X 304 d_MO_tries_277 rfl (fun _ => ?_) (fun hb => absurd hb ((by decide)))
    refine ab_iload_n X 2 d_MO_tries_304 rfl rfl ?_
    refine ab_bipush (v := 6) X d_MO_tries_305 (by decide) ?_
    refine ab_icmp_ne X 319 d_MO_tries_307 rfl (fun h307 => ?_) (fun h307 => ?_)
    ·
      have hk6 : ¬ kd p1 = 6 := fun z => h307 (by rw [z]; rfl)
      refine ab_lv (List.forall_mem_cons.mpr ⟨List.mem_of_getElem? (i := 3) rfl, List.forall_mem_cons.mpr ⟨List.mem_of_getElem? (i := 4) rfl, fun _ h => absurd h List.not_mem_nil⟩⟩) ?_
      first | exact yes _ P31 (by unfold app; omega) (by rw [tvL_6]; exact a316) (by rw [tvG_6]; exact b316) | exact no _ P31 (by unfold app; omega) t31
    ·
      have hk6 : kd p1 = 6 := (nI_eq (b := 6) (by omega) (by omega)).mp h307
      obtain ⟨x, y, ex, ey, x1, x2, y1, y2, -, -, -, hx, hy⟩ := W.two T hp (Or.inr hk6)
      rw [ex, ey]
      subst hx hy
      refine ab_aload_n X 3 d_MO_tries_310 rfl rfl ?_
      refine ab_iload X 1 d_MO_tries_311 rfl ?_
      refine ab_iload X 0 d_MO_tries_313 rfl ?_
      refine ab_iload_n X 5 d_MO_tries_315 rfl rfl ?_
      refine ab_callV (as := [ab_I (nI (ch p1 0)), ab_I (nI (ch p1 1)), ab_I (nI 6)]) X (fun h => by cases h) (x_MO_triesOr6 u31 (ch p1 0) (ch p1 1) Y R P31.1 (by omega) (by omega) (L31 _ x1 x2) (L31 _ y1 y2) (cbd _ x2) (cbd _ y2)) lk_MO_218 d_MO_tries_316 rfl rfl (by first | assumption | decide | (show _ < 124; omega) | (show _ < 61; omega) | (show _ < 20; omega)) ⟨by first | exact Nat.le_of_ble_eq_true rfl | (simp only [ab_rm]; omega), by first | exact Nat.le_of_ble_eq_true rfl | (simp only [ab_rm]; omega)⟩ ⟨by first | exact Nat.le_of_ble_eq_true rfl | (simp only [ab_rm]; omega), by first | exact Nat.le_of_ble_eq_true rfl | (simp only [ab_rm]; omega)⟩ (Nat.le_of_ble_eq_true rfl) (fun u316 r316 h316 => ?_)
      obtain ⟨⟨q316, a316, b316⟩, rfl⟩ := h316
      have P316 := P31.trans q316 (by decide)
      refine ab_lv (List.forall_mem_cons.mpr ⟨List.mem_of_getElem? (i := 3) rfl, List.forall_mem_cons.mpr ⟨List.mem_of_getElem? (i := 4) rfl, fun _ h => absurd h List.not_mem_nil⟩⟩) ?_
      first | exact yes _ P316 (by unfold app; omega) (by rw [tvL_6]; exact a316) (by rw [tvG_6]; exact b316) | exact no _ P316 (by unfold app; omega) t31
  ·
    refine ab_aload_n X 0 d_MO_tries_0 rfl rfl ?_
    refine ab_gR X fl_MO_33 d_MO_tries_1 (by first | assumption | decide | (show _ < 124; omega) | (show _ < 61; omega) | (show _ < 20; omega)) (P0.1.mo7) ?_
    refine ab_iload_n X 1 d_MO_tries_4 rfl rfl ?_
    refine ab_iald X (p1) ⟨rfl, rfl⟩ d_MO_tries_5 (by first | assumption | decide | (show _ < 124; omega) | (show _ < 61; omega) | (show _ < 20; omega)) (rfl) (show p1 < 40 by omega) (ab_ln_lt _ _) ?_
    refine ab_top ek ?_
    refine ab_istore_n3 X 0 1 2 d_MO_tries_6 rfl (by decide) rfl rfl rfl rfl rfl rfl ?_
    refine ab_aload_n X 1 d_MO_tries_7 rfl rfl ?_
    refine ab_gR X fl_MO_42 d_MO_tries_8 (by first | assumption | decide | (show _ < 124; omega) | (show _ < 61; omega) | (show _ < 20; omega)) (P0.1.mo10) ?_
    refine ab_iconst (v := 4) X d_MO_tries_11 (by decide) ?_
    refine ab_iload_n X 2 d_MO_tries_12 rfl rfl ?_
    refine ab_imul X d_MO_tries_13 ?_
    refine ab_iald X (4 * p1) ⟨rfl, rfl⟩ d_MO_tries_14 (by first | assumption | decide | (show _ < 124; omega) | (show _ < 61; omega) | (show _ < 20; omega)) (nI_4m p1) (show 4 * p1 < 160 by omega) (ab_ln_lt _ _) ?_
    refine ab_istore4 X 0 1 2 3 d_MO_tries_15 (by decide) rfl rfl rfl rfl rfl rfl rfl rfl ?_
    refine ab_aload_n X 2 d_MO_tries_17 rfl rfl ?_
    refine ab_gR X fl_MO_42 d_MO_tries_18 (by first | assumption | decide | (show _ < 124; omega) | (show _ < 61; omega) | (show _ < 20; omega)) (P0.1.mo10) ?_
    refine ab_iconst (v := 4) X d_MO_tries_21 (by decide) ?_
    refine ab_iload_n X 3 d_MO_tries_22 rfl rfl ?_
    refine ab_imul X d_MO_tries_23 ?_
    refine ab_iconst (v := 1) X d_MO_tries_24 (by decide) ?_
    refine ab_iadd X d_MO_tries_25 ?_
    refine ab_iald X (4 * p1 + 1) ⟨rfl, rfl⟩ d_MO_tries_26 (by first | assumption | decide | (show _ < 124; omega) | (show _ < 61; omega) | (show _ < 20; omega)) (nI_4b p1) (show 4 * p1 + 1 < 160 by omega) (ab_ln_lt _ _) ?_
    refine ab_istore5 X 0 1 2 3 4 d_MO_tries_27 (by decide) rfl rfl rfl rfl rfl rfl rfl rfl rfl rfl ?_
    refine ab_aload_n X 3 d_MO_tries_29 rfl rfl ?_
    refine ab_iconst (v := 0) X d_MO_tries_30 (by decide) ?_
    refine ab_putI X fp_MO_66 d_MO_tries_31 (by first | assumption | decide | (show _ < 124; omega) | (show _ < 61; omega) | (show _ < 20; omega)) rfl rfl ?_
    refine ab_gen (fun u31 e31 => ?_)
    have P31 : gP [18, 19] u u31 := by rw [e31]; exact P0.ui rfl (by decide)
    have t31 : u31.1 17 0 18 = 0 := by rw [e31]; simp [ab_up]
    have L31 : ∀ c, p1 < c → c < P → m3 Y R u31 c := fun c a b => (hl c a b).fr P31 (by decide) (by decide) (by decide)
    have T31 := T.fr P31 (by decide) (by decide) (by decide) (by decide) (by decide)
    refine ab_iload_n X 5 d_MO_tries_34 rfl rfl ?_
    refine ab_iconst (v := 1) X d_MO_tries_35 (by decide) ?_
    refine ab_icmp_ne X 51 d_MO_tries_36 rfl (fun _ => ?_) (fun hb => absurd hb ((by decide)))
    refine ab_iload_n X 5 d_MO_tries_51 rfl rfl ?_
    refine ab_iconst (v := 2) X d_MO_tries_52 (by decide) ?_
    refine ab_icmp_ne X 76 d_MO_tries_53 rfl (fun _ => ?_) (fun hb => absurd hb ((by decide)))
    refine ab_iload_n X 5 d_MO_tries_76 rfl rfl ?_
    refine ab_bipush (v := 8) X d_MO_tries_77 (by decide) ?_
    refine ab_icmp_ne X 108 d_MO_tries_79 rfl (fun _ => ?_) (fun hb => absurd hb ((by decide)))
    refine ab_iload_n X 5 d_MO_tries_108 rfl rfl ?_
    refine ab_bipush (v := 11) X d_MO_tries_109 (by decide) ?_
    refine ab_icmp_ne X 125 d_MO_tries_111 rfl (fun _ => ?_) (fun hb => absurd hb ((by decide)))
    refine ab_iload_n X 5 d_MO_tries_125 rfl rfl ?_
    refine ab_bipush (v := 12) X d_MO_tries_126 (by decide) ?_
    refine ab_icmp_ne X 147 d_MO_tries_128 rfl (fun _ => ?_) (fun hb => absurd hb ((by decide)))
    refine ab_iload_n X 5 d_MO_tries_147 rfl rfl ?_
    refine ab_bipush (v := 13) X d_MO_tries_148 (by decide) ?_
    refine ab_icmp_ne X 173 d_MO_tries_150 rfl (fun _ => ?_) (fun hb => absurd hb ((by decide)))
    refine ab_iload_n X 5 d_MO_tries_173 rfl rfl ?_
    refine ab_bipush (v := 14) X d_MO_tries_174 (by decide) ?_
    refine ab_icmp_ne X 199 d_MO_tries_176 rfl (fun _ => ?_) (fun hb => absurd hb ((by decide)))
    refine ab_iload_n X 5 d_MO_tries_199 rfl rfl ?_
    refine ab_bipush (v := 18) X d_MO_tries_200 (by decide) ?_
    refine ab_icmp_ne X 231 d_MO_tries_202 rfl (fun _ => ?_) (fun hb => absurd hb ((by decide)))
    refine ab_iload_n X 5 d_MO_tries_231 rfl rfl ?_
    refine ab_bipush (v := 7) X d_MO_tries_232 (by decide) ?_
    refine ab_icmp_ne X 248 d_MO_tries_234 rfl (fun hb => absurd ((by decide)) hb) (fun _ => ?_)
    refine ab_iload_n X 2 d_MO_tries_237 rfl rfl ?_
    refine ab_bipush (v := 7) X d_MO_tries_238 (by decide) ?_
    refine ab_icmp_ne X 248 d_MO_tries_240 rfl (fun h240 => ?_) (fun h240 => ?_)
    ·
      have hk7 : ¬ kd p1 = 7 := fun z => h240 (by rw [z]; rfl)
      refine ab_iload_n X 5 d_MO_tries_248 rfl rfl ?_
      refine ab_bipush (v := 21) X d_MO_tries_249 (by decide) ?_
      refine ab_icmp_ne X 274 d_MO_tries_251 rfl (fun _ => ?_) (fun hb => absurd hb ((by decide)))
      refine ab_iload_n X 5 d_MO_tries_274 rfl rfl ?_
      refine ab_bipush (v := 24) X d_MO_tries_275 (by decide) ?_
      refine ab_icmp_ne X 304 d_MO_tries_277 rfl (fun _ => ?_) (fun hb => absurd hb ((by decide)))
      refine ab_iload_n X 2 d_MO_tries_304 rfl rfl ?_
      refine ab_bipush (v := 6) X d_MO_tries_305 (by decide) ?_
      refine ab_icmp_ne X 319 d_MO_tries_307 rfl (fun h307 => ?_) (fun h307 => ?_)
      ·
        have hk6 : ¬ kd p1 = 6 := fun z => h307 (by rw [z]; rfl)
        refine ab_lv (List.forall_mem_cons.mpr ⟨List.mem_of_getElem? (i := 3) rfl, List.forall_mem_cons.mpr ⟨List.mem_of_getElem? (i := 4) rfl, fun _ h => absurd h List.not_mem_nil⟩⟩) ?_
        first | exact yes _ P31 (by unfold app; omega) (by rw [tvL_7]; exact a245) (by rw [tvG_7 hk7]; exact b245) | exact no _ P31 (by unfold app; omega) t31
      ·
        have hk6 : kd p1 = 6 := (nI_eq (b := 6) (by omega) (by omega)).mp h307
        refine ab_aload_n X 3 d_MO_tries_310 rfl rfl ?_
        refine ab_iload X 1 d_MO_tries_311 rfl ?_
        refine ab_iload X 0 d_MO_tries_313 rfl ?_
        refine ab_iload_n X 5 d_MO_tries_315 rfl rfl ?_
        refine ab_callV (as := [ab_I _, ab_I _, ab_I (nI 7)]) X (fun h => by cases h) (t_MO_triesOr7 u31 _ _) lk_MO_218 d_MO_tries_316 rfl rfl (by first | assumption | decide | (show _ < 124; omega) | (show _ < 61; omega) | (show _ < 20; omega)) ⟨by first | exact Nat.le_of_ble_eq_true rfl | (simp only [ab_rm]; omega), by first | exact Nat.le_of_ble_eq_true rfl | (simp only [ab_rm]; omega)⟩ ⟨by first | exact Nat.le_of_ble_eq_true rfl | (simp only [ab_rm]; omega), by first | exact Nat.le_of_ble_eq_true rfl | (simp only [ab_rm]; omega)⟩ (Nat.le_of_ble_eq_true rfl) (fun u316 r316 h316 => ?_)
        obtain ⟨e316, rfl⟩ := h316
        subst u316
        refine ab_lv (List.forall_mem_cons.mpr ⟨List.mem_of_getElem? (i := 3) rfl, List.forall_mem_cons.mpr ⟨List.mem_of_getElem? (i := 4) rfl, fun _ h => absurd h List.not_mem_nil⟩⟩) ?_
        first | exact yes _ P31 (by unfold app; omega) (by rw [tvL_7]; exact a245) (by rw [tvG_7 hk7]; exact b245) | exact no _ P31 (by unfold app; omega) t31
    ·
      have hk7 : kd p1 = 7 := (nI_eq (b := 7) (by omega) (by omega)).mp h240
      refine ab_aload_n X 3 d_MO_tries_243 rfl rfl ?_
      refine ab_iload_n X 4 d_MO_tries_244 rfl rfl ?_
      refine ab_callV (as := [ab_I (nI p1)]) X (fun h => by cases h) (x_MO_threshold u31 P kd ar cn lf ch Y R W hB T31 p1 P31.1 hp hk7 L31) lk_MO_215 d_MO_tries_245 rfl rfl (by first | assumption | decide | (show _ < 124; omega) | (show _ < 61; omega) | (show _ < 20; omega)) ⟨by first | exact Nat.le_of_ble_eq_true rfl | (simp only [ab_rm]; omega), by first | exact Nat.le_of_ble_eq_true rfl | (simp only [ab_rm]; omega)⟩ ⟨by first | exact Nat.le_of_ble_eq_true rfl | (simp only [ab_rm]; omega), by first | exact Nat.le_of_ble_eq_true rfl | (simp only [ab_rm]; omega)⟩ (Nat.le_of_ble_eq_true rfl) (fun u245 r245 h245 => ?_)
      obtain ⟨⟨q245, a245, b245⟩, rfl⟩ := h245
      have P245 := P31.trans q245 (by decide)
      refine ab_iload_n X 5 d_MO_tries_248 rfl rfl ?_
      refine ab_bipush (v := 21) X d_MO_tries_249 (by decide) ?_
      refine ab_icmp_ne X 274 d_MO_tries_251 rfl (fun _ => ?_) (fun hb => absurd hb ((by decide)))
      refine ab_iload_n X 5 d_MO_tries_274 rfl rfl ?_
      refine ab_bipush (v := 24) X d_MO_tries_275 (by decide) ?_
      refine ab_icmp_ne X 304 d_MO_tries_277 rfl (fun _ => ?_) (fun hb => absurd hb ((by decide)))
      refine ab_iload_n X 2 d_MO_tries_304 rfl rfl ?_
      refine ab_bipush (v := 6) X d_MO_tries_305 (by decide) ?_
      refine ab_icmp_ne X 319 d_MO_tries_307 rfl (fun h307 => ?_) (fun h307 => ?_)
      ·
        have hk6 : ¬ kd p1 = 6 := fun z => h307 (by rw [z]; rfl)
        refine ab_lv (List.forall_mem_cons.mpr ⟨List.mem_of_getElem? (i := 3) rfl, List.forall_mem_cons.mpr ⟨List.mem_of_getElem? (i := 4) rfl, fun _ h => absurd h List.not_mem_nil⟩⟩) ?_
        first | exact yes _ P245 (by unfold app; omega) (by rw [tvL_7]; exact a245) (by rw [tvG_7 hk7]; exact b245) | exact no _ P245 (by unfold app; omega) t31
      ·
        have hk6 : kd p1 = 6 := (nI_eq (b := 6) (by omega) (by omega)).mp h307
        refine ab_aload_n X 3 d_MO_tries_310 rfl rfl ?_
        refine ab_iload X 1 d_MO_tries_311 rfl ?_
        refine ab_iload X 0 d_MO_tries_313 rfl ?_
        refine ab_iload_n X 5 d_MO_tries_315 rfl rfl ?_
        refine ab_callV (as := [ab_I _, ab_I _, ab_I (nI 7)]) X (fun h => by cases h) (t_MO_triesOr7 u245 _ _) lk_MO_218 d_MO_tries_316 rfl rfl (by first | assumption | decide | (show _ < 124; omega) | (show _ < 61; omega) | (show _ < 20; omega)) ⟨by first | exact Nat.le_of_ble_eq_true rfl | (simp only [ab_rm]; omega), by first | exact Nat.le_of_ble_eq_true rfl | (simp only [ab_rm]; omega)⟩ ⟨by first | exact Nat.le_of_ble_eq_true rfl | (simp only [ab_rm]; omega), by first | exact Nat.le_of_ble_eq_true rfl | (simp only [ab_rm]; omega)⟩ (Nat.le_of_ble_eq_true rfl) (fun u316 r316 h316 => ?_)
        obtain ⟨e316, rfl⟩ := h316
        subst u316
        refine ab_lv (List.forall_mem_cons.mpr ⟨List.mem_of_getElem? (i := 3) rfl, List.forall_mem_cons.mpr ⟨List.mem_of_getElem? (i := 4) rfl, fun _ h => absurd h List.not_mem_nil⟩⟩) ?_
        first | exact yes _ P245 (by unfold app; omega) (by rw [tvL_7]; exact a245) (by rw [tvG_7 hk7]; exact b245) | exact no _ P245 (by unfold app; omega) t31
  ·
    refine ab_aload_n X 0 d_MO_tries_0 rfl rfl ?_
    refine ab_gR X fl_MO_33 d_MO_tries_1 (by first | assumption | decide | (show _ < 124; omega) | (show _ < 61; omega) | (show _ < 20; omega)) (P0.1.mo7) ?_
    refine ab_iload_n X 1 d_MO_tries_4 rfl rfl ?_
    refine ab_iald X (p1) ⟨rfl, rfl⟩ d_MO_tries_5 (by first | assumption | decide | (show _ < 124; omega) | (show _ < 61; omega) | (show _ < 20; omega)) (rfl) (show p1 < 40 by omega) (ab_ln_lt _ _) ?_
    refine ab_top ek ?_
    refine ab_istore_n3 X 0 1 2 d_MO_tries_6 rfl (by decide) rfl rfl rfl rfl rfl rfl ?_
    refine ab_aload_n X 1 d_MO_tries_7 rfl rfl ?_
    refine ab_gR X fl_MO_42 d_MO_tries_8 (by first | assumption | decide | (show _ < 124; omega) | (show _ < 61; omega) | (show _ < 20; omega)) (P0.1.mo10) ?_
    refine ab_iconst (v := 4) X d_MO_tries_11 (by decide) ?_
    refine ab_iload_n X 2 d_MO_tries_12 rfl rfl ?_
    refine ab_imul X d_MO_tries_13 ?_
    refine ab_iald X (4 * p1) ⟨rfl, rfl⟩ d_MO_tries_14 (by first | assumption | decide | (show _ < 124; omega) | (show _ < 61; omega) | (show _ < 20; omega)) (nI_4m p1) (show 4 * p1 < 160 by omega) (ab_ln_lt _ _) ?_
    refine ab_istore4 X 0 1 2 3 d_MO_tries_15 (by decide) rfl rfl rfl rfl rfl rfl rfl rfl ?_
    refine ab_aload_n X 2 d_MO_tries_17 rfl rfl ?_
    refine ab_gR X fl_MO_42 d_MO_tries_18 (by first | assumption | decide | (show _ < 124; omega) | (show _ < 61; omega) | (show _ < 20; omega)) (P0.1.mo10) ?_
    refine ab_iconst (v := 4) X d_MO_tries_21 (by decide) ?_
    refine ab_iload_n X 3 d_MO_tries_22 rfl rfl ?_
    refine ab_imul X d_MO_tries_23 ?_
    refine ab_iconst (v := 1) X d_MO_tries_24 (by decide) ?_
    refine ab_iadd X d_MO_tries_25 ?_
    refine ab_iald X (4 * p1 + 1) ⟨rfl, rfl⟩ d_MO_tries_26 (by first | assumption | decide | (show _ < 124; omega) | (show _ < 61; omega) | (show _ < 20; omega)) (nI_4b p1) (show 4 * p1 + 1 < 160 by omega) (ab_ln_lt _ _) ?_
    refine ab_istore5 X 0 1 2 3 4 d_MO_tries_27 (by decide) rfl rfl rfl rfl rfl rfl rfl rfl rfl rfl ?_
    refine ab_aload_n X 3 d_MO_tries_29 rfl rfl ?_
    refine ab_iconst (v := 0) X d_MO_tries_30 (by decide) ?_
    refine ab_putI X fp_MO_66 d_MO_tries_31 (by first | assumption | decide | (show _ < 124; omega) | (show _ < 61; omega) | (show _ < 20; omega)) rfl rfl ?_
    refine ab_gen (fun u31 e31 => ?_)
    have P31 : gP [18, 19] u u31 := by rw [e31]; exact P0.ui rfl (by decide)
    have t31 : u31.1 17 0 18 = 0 := by rw [e31]; simp [ab_up]
    have L31 : ∀ c, p1 < c → c < P → m3 Y R u31 c := fun c a b => (hl c a b).fr P31 (by decide) (by decide) (by decide)
    have T31 := T.fr P31 (by decide) (by decide) (by decide) (by decide) (by decide)
    refine ab_iload_n X 5 d_MO_tries_34 rfl rfl ?_
    refine ab_iconst (v := 1) X d_MO_tries_35 (by decide) ?_
    refine ab_icmp_ne X 51 d_MO_tries_36 rfl (fun _ => ?_) (fun hb => absurd hb ((by decide)))
    refine ab_iload_n X 5 d_MO_tries_51 rfl rfl ?_
    refine ab_iconst (v := 2) X d_MO_tries_52 (by decide) ?_
    refine ab_icmp_ne X 76 d_MO_tries_53 rfl (fun _ => ?_) (fun hb => absurd hb ((by decide)))
    refine ab_iload_n X 5 d_MO_tries_76 rfl rfl ?_
    refine ab_bipush (v := 8) X d_MO_tries_77 (by decide) ?_
    refine ab_icmp_ne X 108 d_MO_tries_79 rfl (fun hb => absurd ((by decide)) hb) (fun _ => ?_)
    refine ab_aload_n X 3 d_MO_tries_82 rfl rfl ?_
    refine ab_aload_n X 3 d_MO_tries_83 rfl rfl ?_
    refine ab_gR X fl_MO_48 d_MO_tries_84 (by first | assumption | decide | (show _ < 124; omega) | (show _ < 61; omega) | (show _ < 20; omega)) (P31.1.mo12) ?_
    refine ab_iload_n X 4 d_MO_tries_87 rfl rfl ?_
    refine ab_callS (as := [ab_I (nI p1)]) X (fun h => by cases h) (t_MO_b u31 p1) ls_MO_204 d_MO_tries_88 rfl rfl ⟨by first | exact Nat.le_of_ble_eq_true rfl | (simp only [ab_rm]; omega), by first | exact Nat.le_of_ble_eq_true rfl | (simp only [ab_rm]; omega)⟩ ⟨by first | exact Nat.le_of_ble_eq_true rfl | (simp only [ab_rm]; omega), by first | exact Nat.le_of_ble_eq_true rfl | (simp only [ab_rm]; omega)⟩ (Nat.le_of_ble_eq_true rfl) (fun u88 r88 h88 => ?_)
    obtain ⟨e88, rfl⟩ := h88
    subst u88
    refine ab_iald X (3 * p1) ⟨rfl, rfl⟩ d_MO_tries_91 (by first | assumption | decide | (show _ < 124; omega) | (show _ < 61; omega) | (show _ < 20; omega)) (rfl) (show 3 * p1 < 72 by omega) (ab_ln_lt _ _) ?_
    refine ab_top (P31.ai (by decide) (hO (by omega)).1) ?_
    refine ab_iconst (v := 4) X d_MO_tries_92 (by decide) ?_
    refine ab_iadd X d_MO_tries_93 ?_
    refine ab_top (nI_add _ 4) ?_
    refine ab_aload_n X 3 d_MO_tries_94 rfl rfl ?_
    refine ab_gR X fl_MO_51 d_MO_tries_95 (by first | assumption | decide | (show _ < 124; omega) | (show _ < 61; omega) | (show _ < 20; omega)) (P31.1.mo13) ?_
    refine ab_iload_n X 4 d_MO_tries_98 rfl rfl ?_
    refine ab_callS (as := [ab_I (nI p1)]) X (fun h => by cases h) (t_MO_b u31 p1) ls_MO_204 d_MO_tries_99 rfl rfl ⟨by first | exact Nat.le_of_ble_eq_true rfl | (simp only [ab_rm]; omega), by first | exact Nat.le_of_ble_eq_true rfl | (simp only [ab_rm]; omega)⟩ ⟨by first | exact Nat.le_of_ble_eq_true rfl | (simp only [ab_rm]; omega), by first | exact Nat.le_of_ble_eq_true rfl | (simp only [ab_rm]; omega)⟩ (Nat.le_of_ble_eq_true rfl) (fun u99 r99 h99 => ?_)
    obtain ⟨e99, rfl⟩ := h99
    subst u99
    refine ab_iald X (3 * p1) ⟨rfl, rfl⟩ d_MO_tries_102 (by first | assumption | decide | (show _ < 124; omega) | (show _ < 61; omega) | (show _ < 20; omega)) (rfl) (show 3 * p1 < 72 by omega) (ab_ln_lt _ _) ?_
    refine ab_top (P31.ai (by decide) (hO (by omega)).2) ?_
    refine ab_iconst (v := 1) X d_MO_tries_103 (by decide) ?_
    refine ab_iadd X d_MO_tries_104 ?_
    refine ab_top (show _ = nI (1 + (Y p1 0).2.2) from (nI_add _ 1).trans (by rw [Nat.add_comm])) ?_
    refine ab_callV (as := [ab_I _, ab_I _]) X (fun h => by cases h) (x_MO_is u31 _ _ P31.1) lk_MO_188 d_MO_tries_105 rfl rfl (by first | assumption | decide | (show _ < 124; omega) | (show _ < 61; omega) | (show _ < 20; omega)) ⟨by first | exact Nat.le_of_ble_eq_true rfl | (simp only [ab_rm]; omega), by first | exact Nat.le_of_ble_eq_true rfl | (simp only [ab_rm]; omega)⟩ ⟨by first | exact Nat.le_of_ble_eq_true rfl | (simp only [ab_rm]; omega), by first | exact Nat.le_of_ble_eq_true rfl | (simp only [ab_rm]; omega)⟩ (Nat.le_of_ble_eq_true rfl) (fun u105 r105 h105 => ?_)
    obtain ⟨⟨q105, a105, b105⟩, rfl⟩ := h105
    have P105 := P31.trans q105 (by decide)
    refine ab_iload_n X 5 d_MO_tries_108 rfl rfl ?_
    refine ab_bipush (v := 11) X d_MO_tries_109 (by decide) ?_
    refine ab_icmp_ne X 125 d_MO_tries_111 rfl (fun _ => ?_) (fun hb => absurd hb ((by decide)))
    refine ab_iload_n X 5 d_MO_tries_125 rfl rfl ?_
    refine ab_bipush (v := 12) X d_MO_tries_126 (by decide) ?_
    refine ab_icmp_ne X 147 d_MO_tries_128 rfl (fun _ => ?_) (fun hb => absurd hb ((by decide)))
    refine ab_iload_n X 5 d_MO_tries_147 rfl rfl ?_
    refine ab_bipush (v := 13) X d_MO_tries_148 (by decide) ?_
    refine ab_icmp_ne X 173 d_MO_tries_150 rfl (fun _ => ?_) (fun hb => absurd hb ((by decide)))
    refine ab_iload_n X 5 d_MO_tries_173 rfl rfl ?_
    refine ab_bipush (v := 14) X d_MO_tries_174 (by decide) ?_
    refine ab_icmp_ne X 199 d_MO_tries_176 rfl (fun _ => ?_) (fun hb => absurd hb ((by decide)))
    refine ab_iload_n X 5 d_MO_tries_199 rfl rfl ?_
    refine ab_bipush (v := 18) X d_MO_tries_200 (by decide) ?_
    refine ab_icmp_ne X 231 d_MO_tries_202 rfl (fun _ => ?_) (fun hb => absurd hb ((by decide)))
    refine ab_iload_n X 5 d_MO_tries_231 rfl rfl ?_
    refine ab_bipush (v := 7) X d_MO_tries_232 (by decide) ?_
    refine ab_icmp_ne X 248 d_MO_tries_234 rfl (fun _ => ?_) (fun hb => absurd hb ((by decide)))
    refine ab_iload_n X 5 d_MO_tries_248 rfl rfl ?_
    refine ab_bipush (v := 21) X d_MO_tries_249 (by decide) ?_
    refine ab_icmp_ne X 274 d_MO_tries_251 rfl (fun _ => ?_) (fun hb => absurd hb ((by decide)))
    refine ab_iload_n X 5 d_MO_tries_274 rfl rfl ?_
    refine ab_bipush (v := 24) X d_MO_tries_275 (by decide) ?_
    refine ab_icmp_ne X 304 d_MO_tries_277 rfl (fun _ => ?_) (fun hb => absurd hb ((by decide)))
    refine ab_iload_n X 2 d_MO_tries_304 rfl rfl ?_
    refine ab_bipush (v := 6) X d_MO_tries_305 (by decide) ?_
    refine ab_icmp_ne X 319 d_MO_tries_307 rfl (fun h307 => ?_) (fun h307 => ?_)
    ·
      have hk6 : ¬ kd p1 = 6 := fun z => h307 (by rw [z]; rfl)
      refine ab_lv (List.forall_mem_cons.mpr ⟨List.mem_of_getElem? (i := 3) rfl, List.forall_mem_cons.mpr ⟨List.mem_of_getElem? (i := 4) rfl, fun _ h => absurd h List.not_mem_nil⟩⟩) ?_
      exact yes _ P105 (by unfold app; omega) (by rw [tL_8]; exact a105) (by rw [tG_8]; exact b105)
    ·
      have hk6 : kd p1 = 6 := (nI_eq (b := 6) (by omega) (by omega)).mp h307
      refine ab_aload_n X 3 d_MO_tries_310 rfl rfl ?_
      refine ab_iload X 1 d_MO_tries_311 rfl ?_
      refine ab_iload X 0 d_MO_tries_313 rfl ?_
      refine ab_iload_n X 5 d_MO_tries_315 rfl rfl ?_
      refine ab_callV (as := [ab_I _, ab_I _, ab_I (nI 8)]) X (fun h => by cases h) (t_MO_triesOr8 u105 _ _) lk_MO_218 d_MO_tries_316 rfl rfl (by first | assumption | decide | (show _ < 124; omega) | (show _ < 61; omega) | (show _ < 20; omega)) ⟨by first | exact Nat.le_of_ble_eq_true rfl | (simp only [ab_rm]; omega), by first | exact Nat.le_of_ble_eq_true rfl | (simp only [ab_rm]; omega)⟩ ⟨by first | exact Nat.le_of_ble_eq_true rfl | (simp only [ab_rm]; omega), by first | exact Nat.le_of_ble_eq_true rfl | (simp only [ab_rm]; omega)⟩ (Nat.le_of_ble_eq_true rfl) (fun u316 r316 h316 => ?_)
      obtain ⟨e316, rfl⟩ := h316
      subst u316
      refine ab_lv (List.forall_mem_cons.mpr ⟨List.mem_of_getElem? (i := 3) rfl, List.forall_mem_cons.mpr ⟨List.mem_of_getElem? (i := 4) rfl, fun _ h => absurd h List.not_mem_nil⟩⟩) ?_
      exact yes _ P105 (by unfold app; omega) (by rw [tL_8]; exact a105) (by rw [tG_8]; exact b105)
  ·
    refine ab_aload_n X 0 d_MO_tries_0 rfl rfl ?_
    refine ab_gR X fl_MO_33 d_MO_tries_1 (by first | assumption | decide | (show _ < 124; omega) | (show _ < 61; omega) | (show _ < 20; omega)) (P0.1.mo7) ?_
    refine ab_iload_n X 1 d_MO_tries_4 rfl rfl ?_
    refine ab_iald X (p1) ⟨rfl, rfl⟩ d_MO_tries_5 (by first | assumption | decide | (show _ < 124; omega) | (show _ < 61; omega) | (show _ < 20; omega)) (rfl) (show p1 < 40 by omega) (ab_ln_lt _ _) ?_
    refine ab_top ek ?_
    refine ab_istore_n3 X 0 1 2 d_MO_tries_6 rfl (by decide) rfl rfl rfl rfl rfl rfl ?_
    refine ab_aload_n X 1 d_MO_tries_7 rfl rfl ?_
    refine ab_gR X fl_MO_42 d_MO_tries_8 (by first | assumption | decide | (show _ < 124; omega) | (show _ < 61; omega) | (show _ < 20; omega)) (P0.1.mo10) ?_
    refine ab_iconst (v := 4) X d_MO_tries_11 (by decide) ?_
    refine ab_iload_n X 2 d_MO_tries_12 rfl rfl ?_
    refine ab_imul X d_MO_tries_13 ?_
    refine ab_iald X (4 * p1) ⟨rfl, rfl⟩ d_MO_tries_14 (by first | assumption | decide | (show _ < 124; omega) | (show _ < 61; omega) | (show _ < 20; omega)) (nI_4m p1) (show 4 * p1 < 160 by omega) (ab_ln_lt _ _) ?_
    refine ab_istore4 X 0 1 2 3 d_MO_tries_15 (by decide) rfl rfl rfl rfl rfl rfl rfl rfl ?_
    refine ab_aload_n X 2 d_MO_tries_17 rfl rfl ?_
    refine ab_gR X fl_MO_42 d_MO_tries_18 (by first | assumption | decide | (show _ < 124; omega) | (show _ < 61; omega) | (show _ < 20; omega)) (P0.1.mo10) ?_
    refine ab_iconst (v := 4) X d_MO_tries_21 (by decide) ?_
    refine ab_iload_n X 3 d_MO_tries_22 rfl rfl ?_
    refine ab_imul X d_MO_tries_23 ?_
    refine ab_iconst (v := 1) X d_MO_tries_24 (by decide) ?_
    refine ab_iadd X d_MO_tries_25 ?_
    refine ab_iald X (4 * p1 + 1) ⟨rfl, rfl⟩ d_MO_tries_26 (by first | assumption | decide | (show _ < 124; omega) | (show _ < 61; omega) | (show _ < 20; omega)) (nI_4b p1) (show 4 * p1 + 1 < 160 by omega) (ab_ln_lt _ _) ?_
    refine ab_istore5 X 0 1 2 3 4 d_MO_tries_27 (by decide) rfl rfl rfl rfl rfl rfl rfl rfl rfl rfl ?_
    refine ab_aload_n X 3 d_MO_tries_29 rfl rfl ?_
    refine ab_iconst (v := 0) X d_MO_tries_30 (by decide) ?_
    refine ab_putI X fp_MO_66 d_MO_tries_31 (by first | assumption | decide | (show _ < 124; omega) | (show _ < 61; omega) | (show _ < 20; omega)) rfl rfl ?_
    refine ab_gen (fun u31 e31 => ?_)
    have P31 : gP [18, 19] u u31 := by rw [e31]; exact P0.ui rfl (by decide)
    have t31 : u31.1 17 0 18 = 0 := by rw [e31]; simp [ab_up]
    have L31 : ∀ c, p1 < c → c < P → m3 Y R u31 c := fun c a b => (hl c a b).fr P31 (by decide) (by decide) (by decide)
    have T31 := T.fr P31 (by decide) (by decide) (by decide) (by decide) (by decide)
    refine ab_iload_n X 5 d_MO_tries_34 rfl rfl ?_
    refine ab_iconst (v := 1) X d_MO_tries_35 (by decide) ?_
    refine ab_icmp_ne X 51 d_MO_tries_36 rfl (fun _ => ?_) (fun hb => absurd hb ((by decide)))
    refine ab_iload_n X 5 d_MO_tries_51 rfl rfl ?_
    refine ab_iconst (v := 2) X d_MO_tries_52 (by decide) ?_
    refine ab_icmp_ne X 76 d_MO_tries_53 rfl (fun _ => ?_) (fun hb => absurd hb ((by decide)))
    refine ab_iload_n X 5 d_MO_tries_76 rfl rfl ?_
    refine ab_bipush (v := 8) X d_MO_tries_77 (by decide) ?_
    refine ab_icmp_ne X 108 d_MO_tries_79 rfl (fun _ => ?_) (fun hb => absurd hb ((by decide)))
    refine ab_iload_n X 5 d_MO_tries_108 rfl rfl ?_
    refine ab_bipush (v := 11) X d_MO_tries_109 (by decide) ?_
    refine ab_icmp_ne X 125 d_MO_tries_111 rfl (fun hb => absurd ((by decide)) hb) (fun _ => ?_)
    refine ab_iload_n X 2 d_MO_tries_114 rfl rfl ?_
    refine ab_iconst (v := 2) X d_MO_tries_115 (by decide) ?_
    refine ab_icmp_ne X 125 d_MO_tries_116 rfl (fun h116 => ?_) (fun h116 => ?_)
    ·
      have hkc : ¬ kd p1 = 2 := fun z => h116 (by rw [z]; rfl)
      refine ab_iload_n X 5 d_MO_tries_125 rfl rfl ?_
      refine ab_bipush (v := 12) X d_MO_tries_126 (by decide) ?_
      refine ab_icmp_ne X 147 d_MO_tries_128 rfl (fun _ => ?_) (fun hb => absurd hb ((by decide)))
      refine ab_iload_n X 5 d_MO_tries_147 rfl rfl ?_
      refine ab_bipush (v := 13) X d_MO_tries_148 (by decide) ?_
      refine ab_icmp_ne X 173 d_MO_tries_150 rfl (fun _ => ?_) (fun hb => absurd hb ((by decide)))
      refine ab_iload_n X 5 d_MO_tries_173 rfl rfl ?_
      refine ab_bipush (v := 14) X d_MO_tries_174 (by decide) ?_
      refine ab_icmp_ne X 199 d_MO_tries_176 rfl (fun _ => ?_) (fun hb => absurd hb ((by decide)))
      refine ab_iload_n X 5 d_MO_tries_199 rfl rfl ?_
      refine ab_bipush (v := 18) X d_MO_tries_200 (by decide) ?_
      refine ab_icmp_ne X 231 d_MO_tries_202 rfl (fun _ => ?_) (fun hb => absurd hb ((by decide)))
      refine ab_iload_n X 5 d_MO_tries_231 rfl rfl ?_
      refine ab_bipush (v := 7) X d_MO_tries_232 (by decide) ?_
      refine ab_icmp_ne X 248 d_MO_tries_234 rfl (fun _ => ?_) (fun hb => absurd hb ((by decide)))
      refine ab_iload_n X 5 d_MO_tries_248 rfl rfl ?_
      refine ab_bipush (v := 21) X d_MO_tries_249 (by decide) ?_
      refine ab_icmp_ne X 274 d_MO_tries_251 rfl (fun _ => ?_) (fun hb => absurd hb ((by decide)))
      refine ab_iload_n X 5 d_MO_tries_274 rfl rfl ?_
      refine ab_bipush (v := 24) X d_MO_tries_275 (by decide) ?_
      refine ab_icmp_ne X 304 d_MO_tries_277 rfl (fun _ => ?_) (fun hb => absurd hb ((by decide)))
      refine ab_iload_n X 2 d_MO_tries_304 rfl rfl ?_
      refine ab_bipush (v := 6) X d_MO_tries_305 (by decide) ?_
      refine ab_icmp_ne X 319 d_MO_tries_307 rfl (fun h307 => ?_) (fun h307 => ?_)
      ·
        have hk6 : ¬ kd p1 = 6 := fun z => h307 (by rw [z]; rfl)
        refine ab_lv (List.forall_mem_cons.mpr ⟨List.mem_of_getElem? (i := 3) rfl, List.forall_mem_cons.mpr ⟨List.mem_of_getElem? (i := 4) rfl, fun _ h => absurd h List.not_mem_nil⟩⟩) ?_
        first | exact yes _ P31 (by unfold app; omega) (a122.trans rfl) (by rw [tvG_l11 hkc]; exact b122.trans rfl) | exact no _ P31 (by unfold app; omega) t31
      ·
        have hk6 : kd p1 = 6 := (nI_eq (b := 6) (by omega) (by omega)).mp h307
        refine ab_aload_n X 3 d_MO_tries_310 rfl rfl ?_
        refine ab_iload X 1 d_MO_tries_311 rfl ?_
        refine ab_iload X 0 d_MO_tries_313 rfl ?_
        refine ab_iload_n X 5 d_MO_tries_315 rfl rfl ?_
        refine ab_callV (as := [ab_I _, ab_I _, ab_I (nI 11)]) X (fun h => by cases h) (t_MO_triesOr11 u31 _ _) lk_MO_218 d_MO_tries_316 rfl rfl (by first | assumption | decide | (show _ < 124; omega) | (show _ < 61; omega) | (show _ < 20; omega)) ⟨by first | exact Nat.le_of_ble_eq_true rfl | (simp only [ab_rm]; omega), by first | exact Nat.le_of_ble_eq_true rfl | (simp only [ab_rm]; omega)⟩ ⟨by first | exact Nat.le_of_ble_eq_true rfl | (simp only [ab_rm]; omega), by first | exact Nat.le_of_ble_eq_true rfl | (simp only [ab_rm]; omega)⟩ (Nat.le_of_ble_eq_true rfl) (fun u316 r316 h316 => ?_)
        obtain ⟨e316, rfl⟩ := h316
        subst u316
        refine ab_lv (List.forall_mem_cons.mpr ⟨List.mem_of_getElem? (i := 3) rfl, List.forall_mem_cons.mpr ⟨List.mem_of_getElem? (i := 4) rfl, fun _ h => absurd h List.not_mem_nil⟩⟩) ?_
        first | exact yes _ P31 (by unfold app; omega) (a122.trans rfl) (by rw [tvG_l11 hkc]; exact b122.trans rfl) | exact no _ P31 (by unfold app; omega) t31
    ·
      have hkc : kd p1 = 2 := (nI_eq (b := 2) (by omega) (by omega)).mp h116
      refine ab_aload_n X 3 d_MO_tries_119 rfl rfl ?_
      refine ab_iconst (v := 1) X d_MO_tries_120 (by decide) ?_
      refine ab_iconst (v := 5) X d_MO_tries_121 (by decide) ?_
      refine ab_callV (as := [ab_I 1, ab_I _]) X (fun h => by cases h) (x_MO_is u31 1 _ P31.1) lk_MO_188 d_MO_tries_122 rfl rfl (by first | assumption | decide | (show _ < 124; omega) | (show _ < 61; omega) | (show _ < 20; omega)) ⟨by first | exact Nat.le_of_ble_eq_true rfl | (simp only [ab_rm]; omega), by first | exact Nat.le_of_ble_eq_true rfl | (simp only [ab_rm]; omega)⟩ ⟨by first | exact Nat.le_of_ble_eq_true rfl | (simp only [ab_rm]; omega), by first | exact Nat.le_of_ble_eq_true rfl | (simp only [ab_rm]; omega)⟩ (Nat.le_of_ble_eq_true rfl) (fun u122 r122 h122 => ?_)
      obtain ⟨⟨q122, a122, b122⟩, rfl⟩ := h122
      have P122 := P31.trans q122 (by decide)
      refine ab_iload_n X 5 d_MO_tries_125 rfl rfl ?_
      refine ab_bipush (v := 12) X d_MO_tries_126 (by decide) ?_
      refine ab_icmp_ne X 147 d_MO_tries_128 rfl (fun _ => ?_) (fun hb => absurd hb ((by decide)))
      refine ab_iload_n X 5 d_MO_tries_147 rfl rfl ?_
      refine ab_bipush (v := 13) X d_MO_tries_148 (by decide) ?_
      refine ab_icmp_ne X 173 d_MO_tries_150 rfl (fun _ => ?_) (fun hb => absurd hb ((by decide)))
      refine ab_iload_n X 5 d_MO_tries_173 rfl rfl ?_
      refine ab_bipush (v := 14) X d_MO_tries_174 (by decide) ?_
      refine ab_icmp_ne X 199 d_MO_tries_176 rfl (fun _ => ?_) (fun hb => absurd hb ((by decide)))
      refine ab_iload_n X 5 d_MO_tries_199 rfl rfl ?_
      refine ab_bipush (v := 18) X d_MO_tries_200 (by decide) ?_
      refine ab_icmp_ne X 231 d_MO_tries_202 rfl (fun _ => ?_) (fun hb => absurd hb ((by decide)))
      refine ab_iload_n X 5 d_MO_tries_231 rfl rfl ?_
      refine ab_bipush (v := 7) X d_MO_tries_232 (by decide) ?_
      refine ab_icmp_ne X 248 d_MO_tries_234 rfl (fun _ => ?_) (fun hb => absurd hb ((by decide)))
      refine ab_iload_n X 5 d_MO_tries_248 rfl rfl ?_
      refine ab_bipush (v := 21) X d_MO_tries_249 (by decide) ?_
      refine ab_icmp_ne X 274 d_MO_tries_251 rfl (fun _ => ?_) (fun hb => absurd hb ((by decide)))
      refine ab_iload_n X 5 d_MO_tries_274 rfl rfl ?_
      refine ab_bipush (v := 24) X d_MO_tries_275 (by decide) ?_
      refine ab_icmp_ne X 304 d_MO_tries_277 rfl (fun _ => ?_) (fun hb => absurd hb ((by decide)))
      refine ab_iload_n X 2 d_MO_tries_304 rfl rfl ?_
      refine ab_bipush (v := 6) X d_MO_tries_305 (by decide) ?_
      refine ab_icmp_ne X 319 d_MO_tries_307 rfl (fun h307 => ?_) (fun h307 => ?_)
      ·
        have hk6 : ¬ kd p1 = 6 := fun z => h307 (by rw [z]; rfl)
        refine ab_lv (List.forall_mem_cons.mpr ⟨List.mem_of_getElem? (i := 3) rfl, List.forall_mem_cons.mpr ⟨List.mem_of_getElem? (i := 4) rfl, fun _ h => absurd h List.not_mem_nil⟩⟩) ?_
        first | exact yes _ P122 (by unfold app; omega) (a122.trans rfl) (by rw [tvG_l11 hkc]; exact b122.trans rfl) | exact no _ P122 (by unfold app; omega) t31
      ·
        have hk6 : kd p1 = 6 := (nI_eq (b := 6) (by omega) (by omega)).mp h307
        refine ab_aload_n X 3 d_MO_tries_310 rfl rfl ?_
        refine ab_iload X 1 d_MO_tries_311 rfl ?_
        refine ab_iload X 0 d_MO_tries_313 rfl ?_
        refine ab_iload_n X 5 d_MO_tries_315 rfl rfl ?_
        refine ab_callV (as := [ab_I _, ab_I _, ab_I (nI 11)]) X (fun h => by cases h) (t_MO_triesOr11 u122 _ _) lk_MO_218 d_MO_tries_316 rfl rfl (by first | assumption | decide | (show _ < 124; omega) | (show _ < 61; omega) | (show _ < 20; omega)) ⟨by first | exact Nat.le_of_ble_eq_true rfl | (simp only [ab_rm]; omega), by first | exact Nat.le_of_ble_eq_true rfl | (simp only [ab_rm]; omega)⟩ ⟨by first | exact Nat.le_of_ble_eq_true rfl | (simp only [ab_rm]; omega), by first | exact Nat.le_of_ble_eq_true rfl | (simp only [ab_rm]; omega)⟩ (Nat.le_of_ble_eq_true rfl) (fun u316 r316 h316 => ?_)
        obtain ⟨e316, rfl⟩ := h316
        subst u316
        refine ab_lv (List.forall_mem_cons.mpr ⟨List.mem_of_getElem? (i := 3) rfl, List.forall_mem_cons.mpr ⟨List.mem_of_getElem? (i := 4) rfl, fun _ h => absurd h List.not_mem_nil⟩⟩) ?_
        first | exact yes _ P122 (by unfold app; omega) (a122.trans rfl) (by rw [tvG_l11 hkc]; exact b122.trans rfl) | exact no _ P122 (by unfold app; omega) t31
  ·
    refine ab_aload_n X 0 d_MO_tries_0 rfl rfl ?_
    refine ab_gR X fl_MO_33 d_MO_tries_1 (by first | assumption | decide | (show _ < 124; omega) | (show _ < 61; omega) | (show _ < 20; omega)) (P0.1.mo7) ?_
    refine ab_iload_n X 1 d_MO_tries_4 rfl rfl ?_
    refine ab_iald X (p1) ⟨rfl, rfl⟩ d_MO_tries_5 (by first | assumption | decide | (show _ < 124; omega) | (show _ < 61; omega) | (show _ < 20; omega)) (rfl) (show p1 < 40 by omega) (ab_ln_lt _ _) ?_
    refine ab_top ek ?_
    refine ab_istore_n3 X 0 1 2 d_MO_tries_6 rfl (by decide) rfl rfl rfl rfl rfl rfl ?_
    refine ab_aload_n X 1 d_MO_tries_7 rfl rfl ?_
    refine ab_gR X fl_MO_42 d_MO_tries_8 (by first | assumption | decide | (show _ < 124; omega) | (show _ < 61; omega) | (show _ < 20; omega)) (P0.1.mo10) ?_
    refine ab_iconst (v := 4) X d_MO_tries_11 (by decide) ?_
    refine ab_iload_n X 2 d_MO_tries_12 rfl rfl ?_
    refine ab_imul X d_MO_tries_13 ?_
    refine ab_iald X (4 * p1) ⟨rfl, rfl⟩ d_MO_tries_14 (by first | assumption | decide | (show _ < 124; omega) | (show _ < 61; omega) | (show _ < 20; omega)) (nI_4m p1) (show 4 * p1 < 160 by omega) (ab_ln_lt _ _) ?_
    refine ab_istore4 X 0 1 2 3 d_MO_tries_15 (by decide) rfl rfl rfl rfl rfl rfl rfl rfl ?_
    refine ab_aload_n X 2 d_MO_tries_17 rfl rfl ?_
    refine ab_gR X fl_MO_42 d_MO_tries_18 (by first | assumption | decide | (show _ < 124; omega) | (show _ < 61; omega) | (show _ < 20; omega)) (P0.1.mo10) ?_
    refine ab_iconst (v := 4) X d_MO_tries_21 (by decide) ?_
    refine ab_iload_n X 3 d_MO_tries_22 rfl rfl ?_
    refine ab_imul X d_MO_tries_23 ?_
    refine ab_iconst (v := 1) X d_MO_tries_24 (by decide) ?_
    refine ab_iadd X d_MO_tries_25 ?_
    refine ab_iald X (4 * p1 + 1) ⟨rfl, rfl⟩ d_MO_tries_26 (by first | assumption | decide | (show _ < 124; omega) | (show _ < 61; omega) | (show _ < 20; omega)) (nI_4b p1) (show 4 * p1 + 1 < 160 by omega) (ab_ln_lt _ _) ?_
    refine ab_istore5 X 0 1 2 3 4 d_MO_tries_27 (by decide) rfl rfl rfl rfl rfl rfl rfl rfl rfl rfl ?_
    refine ab_aload_n X 3 d_MO_tries_29 rfl rfl ?_
    refine ab_iconst (v := 0) X d_MO_tries_30 (by decide) ?_
    refine ab_putI X fp_MO_66 d_MO_tries_31 (by first | assumption | decide | (show _ < 124; omega) | (show _ < 61; omega) | (show _ < 20; omega)) rfl rfl ?_
    refine ab_gen (fun u31 e31 => ?_)
    have P31 : gP [18, 19] u u31 := by rw [e31]; exact P0.ui rfl (by decide)
    have t31 : u31.1 17 0 18 = 0 := by rw [e31]; simp [ab_up]
    have L31 : ∀ c, p1 < c → c < P → m3 Y R u31 c := fun c a b => (hl c a b).fr P31 (by decide) (by decide) (by decide)
    have T31 := T.fr P31 (by decide) (by decide) (by decide) (by decide) (by decide)
    refine ab_iload_n X 5 d_MO_tries_34 rfl rfl ?_
    refine ab_iconst (v := 1) X d_MO_tries_35 (by decide) ?_
    refine ab_icmp_ne X 51 d_MO_tries_36 rfl (fun _ => ?_) (fun hb => absurd hb ((by decide)))
    refine ab_iload_n X 5 d_MO_tries_51 rfl rfl ?_
    refine ab_iconst (v := 2) X d_MO_tries_52 (by decide) ?_
    refine ab_icmp_ne X 76 d_MO_tries_53 rfl (fun _ => ?_) (fun hb => absurd hb ((by decide)))
    refine ab_iload_n X 5 d_MO_tries_76 rfl rfl ?_
    refine ab_bipush (v := 8) X d_MO_tries_77 (by decide) ?_
    refine ab_icmp_ne X 108 d_MO_tries_79 rfl (fun _ => ?_) (fun hb => absurd hb ((by decide)))
    refine ab_iload_n X 5 d_MO_tries_108 rfl rfl ?_
    refine ab_bipush (v := 11) X d_MO_tries_109 (by decide) ?_
    refine ab_icmp_ne X 125 d_MO_tries_111 rfl (fun _ => ?_) (fun hb => absurd hb ((by decide)))
    refine ab_iload_n X 5 d_MO_tries_125 rfl rfl ?_
    refine ab_bipush (v := 12) X d_MO_tries_126 (by decide) ?_
    refine ab_icmp_ne X 147 d_MO_tries_128 rfl (fun hb => absurd ((by decide)) hb) (fun _ => ?_)
    refine ab_iload_n X 2 d_MO_tries_131 rfl rfl ?_
    refine ab_iconst (v := 3) X d_MO_tries_132 (by decide) ?_
    refine ab_icmp_eq X 141 d_MO_tries_133 rfl (fun h133 => ?_) (fun h133 => ?_)
    ·
      have hkc : kd p1 = 3 := (nI_eq (b := 3) (by omega) (by omega)).mp h133
      refine ab_aload_n X 3 d_MO_tries_141 rfl rfl ?_
      refine ab_iconst (v := 1) X d_MO_tries_142 (by decide) ?_
      refine ab_iconst (v := 0) X d_MO_tries_143 (by decide) ?_
      refine ab_callV (as := [ab_I 1, ab_I 0]) X (fun h => by cases h) (x_MO_is u31 1 0 P31.1) lk_MO_188 d_MO_tries_144 rfl rfl (by first | assumption | decide | (show _ < 124; omega) | (show _ < 61; omega) | (show _ < 20; omega)) ⟨by first | exact Nat.le_of_ble_eq_true rfl | (simp only [ab_rm]; omega), by first | exact Nat.le_of_ble_eq_true rfl | (simp only [ab_rm]; omega)⟩ ⟨by first | exact Nat.le_of_ble_eq_true rfl | (simp only [ab_rm]; omega), by first | exact Nat.le_of_ble_eq_true rfl | (simp only [ab_rm]; omega)⟩ (Nat.le_of_ble_eq_true rfl) (fun u144 r144 h144 => ?_)
      obtain ⟨⟨q144, a144, b144⟩, rfl⟩ := h144
      have P144 := P31.trans q144 (by decide)
      refine ab_iload_n X 5 d_MO_tries_147 rfl rfl ?_
      refine ab_bipush (v := 13) X d_MO_tries_148 (by decide) ?_
      refine ab_icmp_ne X 173 d_MO_tries_150 rfl (fun _ => ?_) (fun hb => absurd hb ((by decide)))
      refine ab_iload_n X 5 d_MO_tries_173 rfl rfl ?_
      refine ab_bipush (v := 14) X d_MO_tries_174 (by decide) ?_
      refine ab_icmp_ne X 199 d_MO_tries_176 rfl (fun _ => ?_) (fun hb => absurd hb ((by decide)))
      refine ab_iload_n X 5 d_MO_tries_199 rfl rfl ?_
      refine ab_bipush (v := 18) X d_MO_tries_200 (by decide) ?_
      refine ab_icmp_ne X 231 d_MO_tries_202 rfl (fun _ => ?_) (fun hb => absurd hb ((by decide)))
      refine ab_iload_n X 5 d_MO_tries_231 rfl rfl ?_
      refine ab_bipush (v := 7) X d_MO_tries_232 (by decide) ?_
      refine ab_icmp_ne X 248 d_MO_tries_234 rfl (fun _ => ?_) (fun hb => absurd hb ((by decide)))
      refine ab_iload_n X 5 d_MO_tries_248 rfl rfl ?_
      refine ab_bipush (v := 21) X d_MO_tries_249 (by decide) ?_
      refine ab_icmp_ne X 274 d_MO_tries_251 rfl (fun _ => ?_) (fun hb => absurd hb ((by decide)))
      refine ab_iload_n X 5 d_MO_tries_274 rfl rfl ?_
      refine ab_bipush (v := 24) X d_MO_tries_275 (by decide) ?_
      refine ab_icmp_ne X 304 d_MO_tries_277 rfl (fun _ => ?_) (fun hb => absurd hb ((by decide)))
      refine ab_iload_n X 2 d_MO_tries_304 rfl rfl ?_
      refine ab_bipush (v := 6) X d_MO_tries_305 (by decide) ?_
      refine ab_icmp_ne X 319 d_MO_tries_307 rfl (fun h307 => ?_) (fun h307 => ?_)
      ·
        have hk6 : ¬ kd p1 = 6 := fun z => h307 (by rw [z]; rfl)
        refine ab_lv (List.forall_mem_cons.mpr ⟨List.mem_of_getElem? (i := 3) rfl, List.forall_mem_cons.mpr ⟨List.mem_of_getElem? (i := 4) rfl, fun _ h => absurd h List.not_mem_nil⟩⟩) ?_
        first | exact yes _ P144 (by unfold app; omega) (a144.trans rfl) (by rw [tvG_l12 (by omega)]; exact b144.trans rfl) | exact no _ P144 (by unfold app; omega) t31
      ·
        have hk6 : kd p1 = 6 := (nI_eq (b := 6) (by omega) (by omega)).mp h307
        refine ab_aload_n X 3 d_MO_tries_310 rfl rfl ?_
        refine ab_iload X 1 d_MO_tries_311 rfl ?_
        refine ab_iload X 0 d_MO_tries_313 rfl ?_
        refine ab_iload_n X 5 d_MO_tries_315 rfl rfl ?_
        refine ab_callV (as := [ab_I _, ab_I _, ab_I (nI 12)]) X (fun h => by cases h) (t_MO_triesOr12 u144 _ _) lk_MO_218 d_MO_tries_316 rfl rfl (by first | assumption | decide | (show _ < 124; omega) | (show _ < 61; omega) | (show _ < 20; omega)) ⟨by first | exact Nat.le_of_ble_eq_true rfl | (simp only [ab_rm]; omega), by first | exact Nat.le_of_ble_eq_true rfl | (simp only [ab_rm]; omega)⟩ ⟨by first | exact Nat.le_of_ble_eq_true rfl | (simp only [ab_rm]; omega), by first | exact Nat.le_of_ble_eq_true rfl | (simp only [ab_rm]; omega)⟩ (Nat.le_of_ble_eq_true rfl) (fun u316 r316 h316 => ?_)
        obtain ⟨e316, rfl⟩ := h316
        subst u316
        refine ab_lv (List.forall_mem_cons.mpr ⟨List.mem_of_getElem? (i := 3) rfl, List.forall_mem_cons.mpr ⟨List.mem_of_getElem? (i := 4) rfl, fun _ h => absurd h List.not_mem_nil⟩⟩) ?_
        first | exact yes _ P144 (by unfold app; omega) (a144.trans rfl) (by rw [tvG_l12 (by omega)]; exact b144.trans rfl) | exact no _ P144 (by unfold app; omega) t31
    ·
      have hkc : ¬ kd p1 = 3 := fun z => h133 (by rw [z]; rfl)
      refine ab_iload_n X 2 d_MO_tries_136 rfl rfl ?_
      refine ab_iconst (v := 4) X d_MO_tries_137 (by decide) ?_
      refine ab_icmp_ne X 147 d_MO_tries_138 rfl (fun h138 => ?_) (fun h138 => ?_)
      ·
        have hkd : ¬ kd p1 = 4 := fun z => h138 (by rw [z]; rfl)
        refine ab_iload_n X 5 d_MO_tries_147 rfl rfl ?_
        refine ab_bipush (v := 13) X d_MO_tries_148 (by decide) ?_
        refine ab_icmp_ne X 173 d_MO_tries_150 rfl (fun _ => ?_) (fun hb => absurd hb ((by decide)))
        refine ab_iload_n X 5 d_MO_tries_173 rfl rfl ?_
        refine ab_bipush (v := 14) X d_MO_tries_174 (by decide) ?_
        refine ab_icmp_ne X 199 d_MO_tries_176 rfl (fun _ => ?_) (fun hb => absurd hb ((by decide)))
        refine ab_iload_n X 5 d_MO_tries_199 rfl rfl ?_
        refine ab_bipush (v := 18) X d_MO_tries_200 (by decide) ?_
        refine ab_icmp_ne X 231 d_MO_tries_202 rfl (fun _ => ?_) (fun hb => absurd hb ((by decide)))
        refine ab_iload_n X 5 d_MO_tries_231 rfl rfl ?_
        refine ab_bipush (v := 7) X d_MO_tries_232 (by decide) ?_
        refine ab_icmp_ne X 248 d_MO_tries_234 rfl (fun _ => ?_) (fun hb => absurd hb ((by decide)))
        refine ab_iload_n X 5 d_MO_tries_248 rfl rfl ?_
        refine ab_bipush (v := 21) X d_MO_tries_249 (by decide) ?_
        refine ab_icmp_ne X 274 d_MO_tries_251 rfl (fun _ => ?_) (fun hb => absurd hb ((by decide)))
        refine ab_iload_n X 5 d_MO_tries_274 rfl rfl ?_
        refine ab_bipush (v := 24) X d_MO_tries_275 (by decide) ?_
        refine ab_icmp_ne X 304 d_MO_tries_277 rfl (fun _ => ?_) (fun hb => absurd hb ((by decide)))
        refine ab_iload_n X 2 d_MO_tries_304 rfl rfl ?_
        refine ab_bipush (v := 6) X d_MO_tries_305 (by decide) ?_
        refine ab_icmp_ne X 319 d_MO_tries_307 rfl (fun h307 => ?_) (fun h307 => ?_)
        ·
          have hk6 : ¬ kd p1 = 6 := fun z => h307 (by rw [z]; rfl)
          refine ab_lv (List.forall_mem_cons.mpr ⟨List.mem_of_getElem? (i := 3) rfl, List.forall_mem_cons.mpr ⟨List.mem_of_getElem? (i := 4) rfl, fun _ h => absurd h List.not_mem_nil⟩⟩) ?_
          first | exact yes _ P31 (by unfold app; omega) (a144.trans rfl) (by rw [tvG_l12 (by omega)]; exact b144.trans rfl) | exact no _ P31 (by unfold app; omega) t31
        ·
          have hk6 : kd p1 = 6 := (nI_eq (b := 6) (by omega) (by omega)).mp h307
          refine ab_aload_n X 3 d_MO_tries_310 rfl rfl ?_
          refine ab_iload X 1 d_MO_tries_311 rfl ?_
          refine ab_iload X 0 d_MO_tries_313 rfl ?_
          refine ab_iload_n X 5 d_MO_tries_315 rfl rfl ?_
          refine ab_callV (as := [ab_I _, ab_I _, ab_I (nI 12)]) X (fun h => by cases h) (t_MO_triesOr12 u31 _ _) lk_MO_218 d_MO_tries_316 rfl rfl (by first | assumption | decide | (show _ < 124; omega) | (show _ < 61; omega) | (show _ < 20; omega)) ⟨by first | exact Nat.le_of_ble_eq_true rfl | (simp only [ab_rm]; omega), by first | exact Nat.le_of_ble_eq_true rfl | (simp only [ab_rm]; omega)⟩ ⟨by first | exact Nat.le_of_ble_eq_true rfl | (simp only [ab_rm]; omega), by first | exact Nat.le_of_ble_eq_true rfl | (simp only [ab_rm]; omega)⟩ (Nat.le_of_ble_eq_true rfl) (fun u316 r316 h316 => ?_)
          obtain ⟨e316, rfl⟩ := h316
          subst u316
          refine ab_lv (List.forall_mem_cons.mpr ⟨List.mem_of_getElem? (i := 3) rfl, List.forall_mem_cons.mpr ⟨List.mem_of_getElem? (i := 4) rfl, fun _ h => absurd h List.not_mem_nil⟩⟩) ?_
          first | exact yes _ P31 (by unfold app; omega) (a144.trans rfl) (by rw [tvG_l12 (by omega)]; exact b144.trans rfl) | exact no _ P31 (by unfold app; omega) t31
      ·
        have hkd : kd p1 = 4 := (nI_eq (b := 4) (by omega) (by omega)).mp h138
        refine ab_aload_n X 3 d_MO_tries_141 rfl rfl ?_
        refine ab_iconst (v := 1) X d_MO_tries_142 (by decide) ?_
        refine ab_iconst (v := 0) X d_MO_tries_143 (by decide) ?_
        refine ab_callV (as := [ab_I 1, ab_I 0]) X (fun h => by cases h) (x_MO_is u31 1 0 P31.1) lk_MO_188 d_MO_tries_144 rfl rfl (by first | assumption | decide | (show _ < 124; omega) | (show _ < 61; omega) | (show _ < 20; omega)) ⟨by first | exact Nat.le_of_ble_eq_true rfl | (simp only [ab_rm]; omega), by first | exact Nat.le_of_ble_eq_true rfl | (simp only [ab_rm]; omega)⟩ ⟨by first | exact Nat.le_of_ble_eq_true rfl | (simp only [ab_rm]; omega), by first | exact Nat.le_of_ble_eq_true rfl | (simp only [ab_rm]; omega)⟩ (Nat.le_of_ble_eq_true rfl) (fun u144 r144 h144 => ?_)
        obtain ⟨⟨q144, a144, b144⟩, rfl⟩ := h144
        have P144 := P31.trans q144 (by decide)
        refine ab_iload_n X 5 d_MO_tries_147 rfl rfl ?_
        refine ab_bipush (v := 13) X d_MO_tries_148 (by decide) ?_
        refine ab_icmp_ne X 173 d_MO_tries_150 rfl (fun _ => ?_) (fun hb => absurd hb ((by decide)))
        refine ab_iload_n X 5 d_MO_tries_173 rfl rfl ?_
        refine ab_bipush (v := 14) X d_MO_tries_174 (by decide) ?_
        refine ab_icmp_ne X 199 d_MO_tries_176 rfl (fun _ => ?_) (fun hb => absurd hb ((by decide)))
        refine ab_iload_n X 5 d_MO_tries_199 rfl rfl ?_
        refine ab_bipush (v := 18) X d_MO_tries_200 (by decide) ?_
        refine ab_icmp_ne X 231 d_MO_tries_202 rfl (fun _ => ?_) (fun hb => absurd hb ((by decide)))
        refine ab_iload_n X 5 d_MO_tries_231 rfl rfl ?_
        refine ab_bipush (v := 7) X d_MO_tries_232 (by decide) ?_
        refine ab_icmp_ne X 248 d_MO_tries_234 rfl (fun _ => ?_) (fun hb => absurd hb ((by decide)))
        refine ab_iload_n X 5 d_MO_tries_248 rfl rfl ?_
        refine ab_bipush (v := 21) X d_MO_tries_249 (by decide) ?_
        refine ab_icmp_ne X 274 d_MO_tries_251 rfl (fun _ => ?_) (fun hb => absurd hb ((by decide)))
        refine ab_iload_n X 5 d_MO_tries_274 rfl rfl ?_
        refine ab_bipush (v := 24) X d_MO_tries_275 (by decide) ?_
        refine ab_icmp_ne X 304 d_MO_tries_277 rfl (fun _ => ?_) (fun hb => absurd hb ((by decide)))
        refine ab_iload_n X 2 d_MO_tries_304 rfl rfl ?_
        refine ab_bipush (v := 6) X d_MO_tries_305 (by decide) ?_
        refine ab_icmp_ne X 319 d_MO_tries_307 rfl (fun h307 => ?_) (fun h307 => ?_)
        ·
          have hk6 : ¬ kd p1 = 6 := fun z => h307 (by rw [z]; rfl)
          refine ab_lv (List.forall_mem_cons.mpr ⟨List.mem_of_getElem? (i := 3) rfl, List.forall_mem_cons.mpr ⟨List.mem_of_getElem? (i := 4) rfl, fun _ h => absurd h List.not_mem_nil⟩⟩) ?_
          first | exact yes _ P144 (by unfold app; omega) (a144.trans rfl) (by rw [tvG_l12 (by omega)]; exact b144.trans rfl) | exact no _ P144 (by unfold app; omega) t31
        ·
          have hk6 : kd p1 = 6 := (nI_eq (b := 6) (by omega) (by omega)).mp h307
          refine ab_aload_n X 3 d_MO_tries_310 rfl rfl ?_
          refine ab_iload X 1 d_MO_tries_311 rfl ?_
          refine ab_iload X 0 d_MO_tries_313 rfl ?_
          refine ab_iload_n X 5 d_MO_tries_315 rfl rfl ?_
          refine ab_callV (as := [ab_I _, ab_I _, ab_I (nI 12)]) X (fun h => by cases h) (t_MO_triesOr12 u144 _ _) lk_MO_218 d_MO_tries_316 rfl rfl (by first | assumption | decide | (show _ < 124; omega) | (show _ < 61; omega) | (show _ < 20; omega)) ⟨by first | exact Nat.le_of_ble_eq_true rfl | (simp only [ab_rm]; omega), by first | exact Nat.le_of_ble_eq_true rfl | (simp only [ab_rm]; omega)⟩ ⟨by first | exact Nat.le_of_ble_eq_true rfl | (simp only [ab_rm]; omega), by first | exact Nat.le_of_ble_eq_true rfl | (simp only [ab_rm]; omega)⟩ (Nat.le_of_ble_eq_true rfl) (fun u316 r316 h316 => ?_)
          obtain ⟨e316, rfl⟩ := h316
          subst u316
          refine ab_lv (List.forall_mem_cons.mpr ⟨List.mem_of_getElem? (i := 3) rfl, List.forall_mem_cons.mpr ⟨List.mem_of_getElem? (i := 4) rfl, fun _ h => absurd h List.not_mem_nil⟩⟩) ?_
          first | exact yes _ P144 (by unfold app; omega) (a144.trans rfl) (by rw [tvG_l12 (by omega)]; exact b144.trans rfl) | exact no _ P144 (by unfold app; omega) t31
  ·
    refine ab_aload_n X 0 d_MO_tries_0 rfl rfl ?_
    refine ab_gR X fl_MO_33 d_MO_tries_1 (by first | assumption | decide | (show _ < 124; omega) | (show _ < 61; omega) | (show _ < 20; omega)) (P0.1.mo7) ?_
    refine ab_iload_n X 1 d_MO_tries_4 rfl rfl ?_
    refine ab_iald X (p1) ⟨rfl, rfl⟩ d_MO_tries_5 (by first | assumption | decide | (show _ < 124; omega) | (show _ < 61; omega) | (show _ < 20; omega)) (rfl) (show p1 < 40 by omega) (ab_ln_lt _ _) ?_
    refine ab_top ek ?_
    refine ab_istore_n3 X 0 1 2 d_MO_tries_6 rfl (by decide) rfl rfl rfl rfl rfl rfl ?_
    refine ab_aload_n X 1 d_MO_tries_7 rfl rfl ?_
    refine ab_gR X fl_MO_42 d_MO_tries_8 (by first | assumption | decide | (show _ < 124; omega) | (show _ < 61; omega) | (show _ < 20; omega)) (P0.1.mo10) ?_
    refine ab_iconst (v := 4) X d_MO_tries_11 (by decide) ?_
    refine ab_iload_n X 2 d_MO_tries_12 rfl rfl ?_
    refine ab_imul X d_MO_tries_13 ?_
    refine ab_iald X (4 * p1) ⟨rfl, rfl⟩ d_MO_tries_14 (by first | assumption | decide | (show _ < 124; omega) | (show _ < 61; omega) | (show _ < 20; omega)) (nI_4m p1) (show 4 * p1 < 160 by omega) (ab_ln_lt _ _) ?_
    refine ab_istore4 X 0 1 2 3 d_MO_tries_15 (by decide) rfl rfl rfl rfl rfl rfl rfl rfl ?_
    refine ab_aload_n X 2 d_MO_tries_17 rfl rfl ?_
    refine ab_gR X fl_MO_42 d_MO_tries_18 (by first | assumption | decide | (show _ < 124; omega) | (show _ < 61; omega) | (show _ < 20; omega)) (P0.1.mo10) ?_
    refine ab_iconst (v := 4) X d_MO_tries_21 (by decide) ?_
    refine ab_iload_n X 3 d_MO_tries_22 rfl rfl ?_
    refine ab_imul X d_MO_tries_23 ?_
    refine ab_iconst (v := 1) X d_MO_tries_24 (by decide) ?_
    refine ab_iadd X d_MO_tries_25 ?_
    refine ab_iald X (4 * p1 + 1) ⟨rfl, rfl⟩ d_MO_tries_26 (by first | assumption | decide | (show _ < 124; omega) | (show _ < 61; omega) | (show _ < 20; omega)) (nI_4b p1) (show 4 * p1 + 1 < 160 by omega) (ab_ln_lt _ _) ?_
    refine ab_istore5 X 0 1 2 3 4 d_MO_tries_27 (by decide) rfl rfl rfl rfl rfl rfl rfl rfl rfl rfl ?_
    refine ab_aload_n X 3 d_MO_tries_29 rfl rfl ?_
    refine ab_iconst (v := 0) X d_MO_tries_30 (by decide) ?_
    refine ab_putI X fp_MO_66 d_MO_tries_31 (by first | assumption | decide | (show _ < 124; omega) | (show _ < 61; omega) | (show _ < 20; omega)) rfl rfl ?_
    refine ab_gen (fun u31 e31 => ?_)
    have P31 : gP [18, 19] u u31 := by rw [e31]; exact P0.ui rfl (by decide)
    have t31 : u31.1 17 0 18 = 0 := by rw [e31]; simp [ab_up]
    have L31 : ∀ c, p1 < c → c < P → m3 Y R u31 c := fun c a b => (hl c a b).fr P31 (by decide) (by decide) (by decide)
    have T31 := T.fr P31 (by decide) (by decide) (by decide) (by decide) (by decide)
    refine ab_iload_n X 5 d_MO_tries_34 rfl rfl ?_
    refine ab_iconst (v := 1) X d_MO_tries_35 (by decide) ?_
    refine ab_icmp_ne X 51 d_MO_tries_36 rfl (fun _ => ?_) (fun hb => absurd hb ((by decide)))
    refine ab_iload_n X 5 d_MO_tries_51 rfl rfl ?_
    refine ab_iconst (v := 2) X d_MO_tries_52 (by decide) ?_
    refine ab_icmp_ne X 76 d_MO_tries_53 rfl (fun _ => ?_) (fun hb => absurd hb ((by decide)))
    refine ab_iload_n X 5 d_MO_tries_76 rfl rfl ?_
    refine ab_bipush (v := 8) X d_MO_tries_77 (by decide) ?_
    refine ab_icmp_ne X 108 d_MO_tries_79 rfl (fun _ => ?_) (fun hb => absurd hb ((by decide)))
    refine ab_iload_n X 5 d_MO_tries_108 rfl rfl ?_
    refine ab_bipush (v := 11) X d_MO_tries_109 (by decide) ?_
    refine ab_icmp_ne X 125 d_MO_tries_111 rfl (fun _ => ?_) (fun hb => absurd hb ((by decide)))
    refine ab_iload_n X 5 d_MO_tries_125 rfl rfl ?_
    refine ab_bipush (v := 12) X d_MO_tries_126 (by decide) ?_
    refine ab_icmp_ne X 147 d_MO_tries_128 rfl (fun _ => ?_) (fun hb => absurd hb ((by decide)))
    refine ab_iload_n X 5 d_MO_tries_147 rfl rfl ?_
    refine ab_bipush (v := 13) X d_MO_tries_148 (by decide) ?_
    refine ab_icmp_ne X 173 d_MO_tries_150 rfl (fun hb => absurd ((by decide)) hb) (fun _ => ?_)
    refine ab_iload_n X 2 d_MO_tries_153 rfl rfl ?_
    refine ab_iconst (v := 5) X d_MO_tries_154 (by decide) ?_
    refine ab_icmp_ne X 173 d_MO_tries_155 rfl (fun h155 => ?_) (fun h155 => ?_)
    ·
      have hk5 : ¬ kd p1 = 5 := fun z => h155 (by rw [z]; rfl)
      refine ab_iload_n X 5 d_MO_tries_173 rfl rfl ?_
      refine ab_bipush (v := 14) X d_MO_tries_174 (by decide) ?_
      refine ab_icmp_ne X 199 d_MO_tries_176 rfl (fun _ => ?_) (fun hb => absurd hb ((by decide)))
      refine ab_iload_n X 5 d_MO_tries_199 rfl rfl ?_
      refine ab_bipush (v := 18) X d_MO_tries_200 (by decide) ?_
      refine ab_icmp_ne X 231 d_MO_tries_202 rfl (fun _ => ?_) (fun hb => absurd hb ((by decide)))
      refine ab_iload_n X 5 d_MO_tries_231 rfl rfl ?_
      refine ab_bipush (v := 7) X d_MO_tries_232 (by decide) ?_
      refine ab_icmp_ne X 248 d_MO_tries_234 rfl (fun _ => ?_) (fun hb => absurd hb ((by decide)))
      refine ab_iload_n X 5 d_MO_tries_248 rfl rfl ?_
      refine ab_bipush (v := 21) X d_MO_tries_249 (by decide) ?_
      refine ab_icmp_ne X 274 d_MO_tries_251 rfl (fun _ => ?_) (fun hb => absurd hb ((by decide)))
      refine ab_iload_n X 5 d_MO_tries_274 rfl rfl ?_
      refine ab_bipush (v := 24) X d_MO_tries_275 (by decide) ?_
      refine ab_icmp_ne X 304 d_MO_tries_277 rfl (fun _ => ?_) (fun hb => absurd hb ((by decide)))
      refine ab_iload_n X 2 d_MO_tries_304 rfl rfl ?_
      refine ab_bipush (v := 6) X d_MO_tries_305 (by decide) ?_
      refine ab_icmp_ne X 319 d_MO_tries_307 rfl (fun h307 => ?_) (fun h307 => ?_)
      ·
        have hk6 : ¬ kd p1 = 6 := fun z => h307 (by rw [z]; rfl)
        refine ab_lv (List.forall_mem_cons.mpr ⟨List.mem_of_getElem? (i := 3) rfl, List.forall_mem_cons.mpr ⟨List.mem_of_getElem? (i := 4) rfl, fun _ h => absurd h List.not_mem_nil⟩⟩) ?_
        first | exact yes _ P31 (by unfold app; omega) (by rw [tvL_13]; exact a170) (by rw [tvG_13]; exact b170) | exact no _ P31 (by unfold app; omega) t31
      ·
        have hk6 : kd p1 = 6 := (nI_eq (b := 6) (by omega) (by omega)).mp h307
        refine ab_aload_n X 3 d_MO_tries_310 rfl rfl ?_
        refine ab_iload X 1 d_MO_tries_311 rfl ?_
        refine ab_iload X 0 d_MO_tries_313 rfl ?_
        refine ab_iload_n X 5 d_MO_tries_315 rfl rfl ?_
        refine ab_callV (as := [ab_I _, ab_I _, ab_I (nI 13)]) X (fun h => by cases h) (t_MO_triesOr13 u31 _ _) lk_MO_218 d_MO_tries_316 rfl rfl (by first | assumption | decide | (show _ < 124; omega) | (show _ < 61; omega) | (show _ < 20; omega)) ⟨by first | exact Nat.le_of_ble_eq_true rfl | (simp only [ab_rm]; omega), by first | exact Nat.le_of_ble_eq_true rfl | (simp only [ab_rm]; omega)⟩ ⟨by first | exact Nat.le_of_ble_eq_true rfl | (simp only [ab_rm]; omega), by first | exact Nat.le_of_ble_eq_true rfl | (simp only [ab_rm]; omega)⟩ (Nat.le_of_ble_eq_true rfl) (fun u316 r316 h316 => ?_)
        obtain ⟨e316, rfl⟩ := h316
        subst u316
        refine ab_lv (List.forall_mem_cons.mpr ⟨List.mem_of_getElem? (i := 3) rfl, List.forall_mem_cons.mpr ⟨List.mem_of_getElem? (i := 4) rfl, fun _ h => absurd h List.not_mem_nil⟩⟩) ?_
        first | exact yes _ P31 (by unfold app; omega) (by rw [tvL_13]; exact a170) (by rw [tvG_13]; exact b170) | exact no _ P31 (by unfold app; omega) t31
    ·
      have hk5 : kd p1 = 5 := (nI_eq (b := 5) (by omega) (by omega)).mp h155
      obtain ⟨x, y, ex, ey, x1, x2, y1, y2, -, -, -, hx, hy⟩ := W.two T hp (Or.inl hk5)
      rw [ex, ey]
      subst hx hy
      refine ab_aload_n X 3 d_MO_tries_158 rfl rfl ?_
      refine ab_iload X 1 d_MO_tries_159 rfl ?_
      refine ab_callS (as := [ab_I (nI (ch p1 0))]) X (fun h => by cases h) (t_MO_v u31 (ch p1 0)) ls_MO_201 d_MO_tries_161 rfl rfl ⟨by first | exact Nat.le_of_ble_eq_true rfl | (simp only [ab_rm]; omega), by first | exact Nat.le_of_ble_eq_true rfl | (simp only [ab_rm]; omega)⟩ ⟨by first | exact Nat.le_of_ble_eq_true rfl | (simp only [ab_rm]; omega), by first | exact Nat.le_of_ble_eq_true rfl | (simp only [ab_rm]; omega)⟩ (Nat.le_of_ble_eq_true rfl) (fun u161 r161 h161 => ?_)
      obtain ⟨e161, rfl⟩ := h161
      subst u161
      refine ab_iload X 0 d_MO_tries_164 rfl ?_
      refine ab_callS (as := [ab_I (nI (ch p1 1))]) X (fun h => by cases h) (t_MO_b u31 (ch p1 1)) ls_MO_204 d_MO_tries_166 rfl rfl ⟨by first | exact Nat.le_of_ble_eq_true rfl | (simp only [ab_rm]; omega), by first | exact Nat.le_of_ble_eq_true rfl | (simp only [ab_rm]; omega)⟩ ⟨by first | exact Nat.le_of_ble_eq_true rfl | (simp only [ab_rm]; omega), by first | exact Nat.le_of_ble_eq_true rfl | (simp only [ab_rm]; omega)⟩ (Nat.le_of_ble_eq_true rfl) (fun u166 r166 h166 => ?_)
      obtain ⟨e166, rfl⟩ := h166
      subst u166
      refine ab_iconst (v := 0) X d_MO_tries_169 (by decide) ?_
      refine ab_callV (as := [ab_I (nI (3 * ch p1 0 + 2)), ab_I (nI (3 * ch p1 1)), ab_I (nI 0)]) X (fun h => by cases h) (x_MO_both u31 (3 * ch p1 0 + 2) (3 * ch p1 1) 0 _ _ _ _ P31.1 (by omega) (by omega) (L31 _ x1 x2).1.2.2 (L31 _ y1 y2).1.1) lk_MO_207 d_MO_tries_170 rfl rfl (by first | assumption | decide | (show _ < 124; omega) | (show _ < 61; omega) | (show _ < 20; omega)) ⟨by first | exact Nat.le_of_ble_eq_true rfl | (simp only [ab_rm]; omega), by first | exact Nat.le_of_ble_eq_true rfl | (simp only [ab_rm]; omega)⟩ ⟨by first | exact Nat.le_of_ble_eq_true rfl | (simp only [ab_rm]; omega), by first | exact Nat.le_of_ble_eq_true rfl | (simp only [ab_rm]; omega)⟩ (Nat.le_of_ble_eq_true rfl) (fun u170 r170 h170 => ?_)
      obtain ⟨⟨q170, a170, b170⟩, rfl⟩ := h170
      have P170 := P31.trans q170 (by decide)
      refine ab_iload_n X 5 d_MO_tries_173 rfl rfl ?_
      refine ab_bipush (v := 14) X d_MO_tries_174 (by decide) ?_
      refine ab_icmp_ne X 199 d_MO_tries_176 rfl (fun _ => ?_) (fun hb => absurd hb ((by decide)))
      refine ab_iload_n X 5 d_MO_tries_199 rfl rfl ?_
      refine ab_bipush (v := 18) X d_MO_tries_200 (by decide) ?_
      refine ab_icmp_ne X 231 d_MO_tries_202 rfl (fun _ => ?_) (fun hb => absurd hb ((by decide)))
      refine ab_iload_n X 5 d_MO_tries_231 rfl rfl ?_
      refine ab_bipush (v := 7) X d_MO_tries_232 (by decide) ?_
      refine ab_icmp_ne X 248 d_MO_tries_234 rfl (fun _ => ?_) (fun hb => absurd hb ((by decide)))
      refine ab_iload_n X 5 d_MO_tries_248 rfl rfl ?_
      refine ab_bipush (v := 21) X d_MO_tries_249 (by decide) ?_
      refine ab_icmp_ne X 274 d_MO_tries_251 rfl (fun _ => ?_) (fun hb => absurd hb ((by decide)))
      refine ab_iload_n X 5 d_MO_tries_274 rfl rfl ?_
      refine ab_bipush (v := 24) X d_MO_tries_275 (by decide) ?_
      refine ab_icmp_ne X 304 d_MO_tries_277 rfl (fun _ => ?_) (fun hb => absurd hb ((by decide)))
      refine ab_iload_n X 2 d_MO_tries_304 rfl rfl ?_
      refine ab_bipush (v := 6) X d_MO_tries_305 (by decide) ?_
      refine ab_icmp_ne X 319 d_MO_tries_307 rfl (fun h307 => ?_) (fun h307 => ?_)
      ·
        have hk6 : ¬ kd p1 = 6 := fun z => h307 (by rw [z]; rfl)
        refine ab_lv (List.forall_mem_cons.mpr ⟨List.mem_of_getElem? (i := 3) rfl, List.forall_mem_cons.mpr ⟨List.mem_of_getElem? (i := 4) rfl, fun _ h => absurd h List.not_mem_nil⟩⟩) ?_
        first | exact yes _ P170 (by unfold app; omega) (by rw [tvL_13]; exact a170) (by rw [tvG_13]; exact b170) | exact no _ P170 (by unfold app; omega) t31
      ·
        have hk6 : kd p1 = 6 := (nI_eq (b := 6) (by omega) (by omega)).mp h307
        refine ab_aload_n X 3 d_MO_tries_310 rfl rfl ?_
        refine ab_iload X 1 d_MO_tries_311 rfl ?_
        refine ab_iload X 0 d_MO_tries_313 rfl ?_
        refine ab_iload_n X 5 d_MO_tries_315 rfl rfl ?_
        refine ab_callV (as := [ab_I _, ab_I _, ab_I (nI 13)]) X (fun h => by cases h) (t_MO_triesOr13 u170 _ _) lk_MO_218 d_MO_tries_316 rfl rfl (by first | assumption | decide | (show _ < 124; omega) | (show _ < 61; omega) | (show _ < 20; omega)) ⟨by first | exact Nat.le_of_ble_eq_true rfl | (simp only [ab_rm]; omega), by first | exact Nat.le_of_ble_eq_true rfl | (simp only [ab_rm]; omega)⟩ ⟨by first | exact Nat.le_of_ble_eq_true rfl | (simp only [ab_rm]; omega), by first | exact Nat.le_of_ble_eq_true rfl | (simp only [ab_rm]; omega)⟩ (Nat.le_of_ble_eq_true rfl) (fun u316 r316 h316 => ?_)
        obtain ⟨e316, rfl⟩ := h316
        subst u316
        refine ab_lv (List.forall_mem_cons.mpr ⟨List.mem_of_getElem? (i := 3) rfl, List.forall_mem_cons.mpr ⟨List.mem_of_getElem? (i := 4) rfl, fun _ h => absurd h List.not_mem_nil⟩⟩) ?_
        first | exact yes _ P170 (by unfold app; omega) (by rw [tvL_13]; exact a170) (by rw [tvG_13]; exact b170) | exact no _ P170 (by unfold app; omega) t31
  ·
    refine ab_aload_n X 0 d_MO_tries_0 rfl rfl ?_
    refine ab_gR X fl_MO_33 d_MO_tries_1 (by first | assumption | decide | (show _ < 124; omega) | (show _ < 61; omega) | (show _ < 20; omega)) (P0.1.mo7) ?_
    refine ab_iload_n X 1 d_MO_tries_4 rfl rfl ?_
    refine ab_iald X (p1) ⟨rfl, rfl⟩ d_MO_tries_5 (by first | assumption | decide | (show _ < 124; omega) | (show _ < 61; omega) | (show _ < 20; omega)) (rfl) (show p1 < 40 by omega) (ab_ln_lt _ _) ?_
    refine ab_top ek ?_
    refine ab_istore_n3 X 0 1 2 d_MO_tries_6 rfl (by decide) rfl rfl rfl rfl rfl rfl ?_
    refine ab_aload_n X 1 d_MO_tries_7 rfl rfl ?_
    refine ab_gR X fl_MO_42 d_MO_tries_8 (by first | assumption | decide | (show _ < 124; omega) | (show _ < 61; omega) | (show _ < 20; omega)) (P0.1.mo10) ?_
    refine ab_iconst (v := 4) X d_MO_tries_11 (by decide) ?_
    refine ab_iload_n X 2 d_MO_tries_12 rfl rfl ?_
    refine ab_imul X d_MO_tries_13 ?_
    refine ab_iald X (4 * p1) ⟨rfl, rfl⟩ d_MO_tries_14 (by first | assumption | decide | (show _ < 124; omega) | (show _ < 61; omega) | (show _ < 20; omega)) (nI_4m p1) (show 4 * p1 < 160 by omega) (ab_ln_lt _ _) ?_
    refine ab_istore4 X 0 1 2 3 d_MO_tries_15 (by decide) rfl rfl rfl rfl rfl rfl rfl rfl ?_
    refine ab_aload_n X 2 d_MO_tries_17 rfl rfl ?_
    refine ab_gR X fl_MO_42 d_MO_tries_18 (by first | assumption | decide | (show _ < 124; omega) | (show _ < 61; omega) | (show _ < 20; omega)) (P0.1.mo10) ?_
    refine ab_iconst (v := 4) X d_MO_tries_21 (by decide) ?_
    refine ab_iload_n X 3 d_MO_tries_22 rfl rfl ?_
    refine ab_imul X d_MO_tries_23 ?_
    refine ab_iconst (v := 1) X d_MO_tries_24 (by decide) ?_
    refine ab_iadd X d_MO_tries_25 ?_
    refine ab_iald X (4 * p1 + 1) ⟨rfl, rfl⟩ d_MO_tries_26 (by first | assumption | decide | (show _ < 124; omega) | (show _ < 61; omega) | (show _ < 20; omega)) (nI_4b p1) (show 4 * p1 + 1 < 160 by omega) (ab_ln_lt _ _) ?_
    refine ab_istore5 X 0 1 2 3 4 d_MO_tries_27 (by decide) rfl rfl rfl rfl rfl rfl rfl rfl rfl rfl ?_
    refine ab_aload_n X 3 d_MO_tries_29 rfl rfl ?_
    refine ab_iconst (v := 0) X d_MO_tries_30 (by decide) ?_
    refine ab_putI X fp_MO_66 d_MO_tries_31 (by first | assumption | decide | (show _ < 124; omega) | (show _ < 61; omega) | (show _ < 20; omega)) rfl rfl ?_
    refine ab_gen (fun u31 e31 => ?_)
    have P31 : gP [18, 19] u u31 := by rw [e31]; exact P0.ui rfl (by decide)
    have t31 : u31.1 17 0 18 = 0 := by rw [e31]; simp [ab_up]
    have L31 : ∀ c, p1 < c → c < P → m3 Y R u31 c := fun c a b => (hl c a b).fr P31 (by decide) (by decide) (by decide)
    have T31 := T.fr P31 (by decide) (by decide) (by decide) (by decide) (by decide)
    refine ab_iload_n X 5 d_MO_tries_34 rfl rfl ?_
    refine ab_iconst (v := 1) X d_MO_tries_35 (by decide) ?_
    refine ab_icmp_ne X 51 d_MO_tries_36 rfl (fun _ => ?_) (fun hb => absurd hb ((by decide)))
    refine ab_iload_n X 5 d_MO_tries_51 rfl rfl ?_
    refine ab_iconst (v := 2) X d_MO_tries_52 (by decide) ?_
    refine ab_icmp_ne X 76 d_MO_tries_53 rfl (fun _ => ?_) (fun hb => absurd hb ((by decide)))
    refine ab_iload_n X 5 d_MO_tries_76 rfl rfl ?_
    refine ab_bipush (v := 8) X d_MO_tries_77 (by decide) ?_
    refine ab_icmp_ne X 108 d_MO_tries_79 rfl (fun _ => ?_) (fun hb => absurd hb ((by decide)))
    refine ab_iload_n X 5 d_MO_tries_108 rfl rfl ?_
    refine ab_bipush (v := 11) X d_MO_tries_109 (by decide) ?_
    refine ab_icmp_ne X 125 d_MO_tries_111 rfl (fun _ => ?_) (fun hb => absurd hb ((by decide)))
    refine ab_iload_n X 5 d_MO_tries_125 rfl rfl ?_
    refine ab_bipush (v := 12) X d_MO_tries_126 (by decide) ?_
    refine ab_icmp_ne X 147 d_MO_tries_128 rfl (fun _ => ?_) (fun hb => absurd hb ((by decide)))
    refine ab_iload_n X 5 d_MO_tries_147 rfl rfl ?_
    refine ab_bipush (v := 13) X d_MO_tries_148 (by decide) ?_
    refine ab_icmp_ne X 173 d_MO_tries_150 rfl (fun _ => ?_) (fun hb => absurd hb ((by decide)))
    refine ab_iload_n X 5 d_MO_tries_173 rfl rfl ?_
    refine ab_bipush (v := 14) X d_MO_tries_174 (by decide) ?_
    refine ab_icmp_ne X 199 d_MO_tries_176 rfl (fun hb => absurd ((by decide)) hb) (fun _ => ?_)
    refine ab_iload_n X 2 d_MO_tries_179 rfl rfl ?_
    refine ab_iconst (v := 5) X d_MO_tries_180 (by decide) ?_
    refine ab_icmp_ne X 199 d_MO_tries_181 rfl (fun h181 => ?_) (fun h181 => ?_)
    ·
      have hk5 : ¬ kd p1 = 5 := fun z => h181 (by rw [z]; rfl)
      refine ab_iload_n X 5 d_MO_tries_199 rfl rfl ?_
      refine ab_bipush (v := 18) X d_MO_tries_200 (by decide) ?_
      refine ab_icmp_ne X 231 d_MO_tries_202 rfl (fun _ => ?_) (fun hb => absurd hb ((by decide)))
      refine ab_iload_n X 5 d_MO_tries_231 rfl rfl ?_
      refine ab_bipush (v := 7) X d_MO_tries_232 (by decide) ?_
      refine ab_icmp_ne X 248 d_MO_tries_234 rfl (fun _ => ?_) (fun hb => absurd hb ((by decide)))
      refine ab_iload_n X 5 d_MO_tries_248 rfl rfl ?_
      refine ab_bipush (v := 21) X d_MO_tries_249 (by decide) ?_
      refine ab_icmp_ne X 274 d_MO_tries_251 rfl (fun _ => ?_) (fun hb => absurd hb ((by decide)))
      refine ab_iload_n X 5 d_MO_tries_274 rfl rfl ?_
      refine ab_bipush (v := 24) X d_MO_tries_275 (by decide) ?_
      refine ab_icmp_ne X 304 d_MO_tries_277 rfl (fun _ => ?_) (fun hb => absurd hb ((by decide)))
      refine ab_iload_n X 2 d_MO_tries_304 rfl rfl ?_
      refine ab_bipush (v := 6) X d_MO_tries_305 (by decide) ?_
      refine ab_icmp_ne X 319 d_MO_tries_307 rfl (fun h307 => ?_) (fun h307 => ?_)
      ·
        have hk6 : ¬ kd p1 = 6 := fun z => h307 (by rw [z]; rfl)
        refine ab_lv (List.forall_mem_cons.mpr ⟨List.mem_of_getElem? (i := 3) rfl, List.forall_mem_cons.mpr ⟨List.mem_of_getElem? (i := 4) rfl, fun _ h => absurd h List.not_mem_nil⟩⟩) ?_
        first | exact yes _ P31 (by unfold app; omega) (by rw [tvL_14]; exact a196) (by rw [tvG_14]; exact b196) | exact no _ P31 (by unfold app; omega) t31
      ·
        have hk6 : kd p1 = 6 := (nI_eq (b := 6) (by omega) (by omega)).mp h307
        refine ab_aload_n X 3 d_MO_tries_310 rfl rfl ?_
        refine ab_iload X 1 d_MO_tries_311 rfl ?_
        refine ab_iload X 0 d_MO_tries_313 rfl ?_
        refine ab_iload_n X 5 d_MO_tries_315 rfl rfl ?_
        refine ab_callV (as := [ab_I _, ab_I _, ab_I (nI 14)]) X (fun h => by cases h) (t_MO_triesOr14 u31 _ _) lk_MO_218 d_MO_tries_316 rfl rfl (by first | assumption | decide | (show _ < 124; omega) | (show _ < 61; omega) | (show _ < 20; omega)) ⟨by first | exact Nat.le_of_ble_eq_true rfl | (simp only [ab_rm]; omega), by first | exact Nat.le_of_ble_eq_true rfl | (simp only [ab_rm]; omega)⟩ ⟨by first | exact Nat.le_of_ble_eq_true rfl | (simp only [ab_rm]; omega), by first | exact Nat.le_of_ble_eq_true rfl | (simp only [ab_rm]; omega)⟩ (Nat.le_of_ble_eq_true rfl) (fun u316 r316 h316 => ?_)
        obtain ⟨e316, rfl⟩ := h316
        subst u316
        refine ab_lv (List.forall_mem_cons.mpr ⟨List.mem_of_getElem? (i := 3) rfl, List.forall_mem_cons.mpr ⟨List.mem_of_getElem? (i := 4) rfl, fun _ h => absurd h List.not_mem_nil⟩⟩) ?_
        first | exact yes _ P31 (by unfold app; omega) (by rw [tvL_14]; exact a196) (by rw [tvG_14]; exact b196) | exact no _ P31 (by unfold app; omega) t31
    ·
      have hk5 : kd p1 = 5 := (nI_eq (b := 5) (by omega) (by omega)).mp h181
      obtain ⟨x, y, ex, ey, x1, x2, y1, y2, -, -, -, hx, hy⟩ := W.two T hp (Or.inl hk5)
      rw [ex, ey]
      subst hx hy
      refine ab_aload_n X 3 d_MO_tries_184 rfl rfl ?_
      refine ab_iload X 0 d_MO_tries_185 rfl ?_
      refine ab_callS (as := [ab_I (nI (ch p1 1))]) X (fun h => by cases h) (t_MO_v u31 (ch p1 1)) ls_MO_201 d_MO_tries_187 rfl rfl ⟨by first | exact Nat.le_of_ble_eq_true rfl | (simp only [ab_rm]; omega), by first | exact Nat.le_of_ble_eq_true rfl | (simp only [ab_rm]; omega)⟩ ⟨by first | exact Nat.le_of_ble_eq_true rfl | (simp only [ab_rm]; omega), by first | exact Nat.le_of_ble_eq_true rfl | (simp only [ab_rm]; omega)⟩ (Nat.le_of_ble_eq_true rfl) (fun u187 r187 h187 => ?_)
      obtain ⟨e187, rfl⟩ := h187
      subst u187
      refine ab_iload X 1 d_MO_tries_190 rfl ?_
      refine ab_callS (as := [ab_I (nI (ch p1 0))]) X (fun h => by cases h) (t_MO_b u31 (ch p1 0)) ls_MO_204 d_MO_tries_192 rfl rfl ⟨by first | exact Nat.le_of_ble_eq_true rfl | (simp only [ab_rm]; omega), by first | exact Nat.le_of_ble_eq_true rfl | (simp only [ab_rm]; omega)⟩ ⟨by first | exact Nat.le_of_ble_eq_true rfl | (simp only [ab_rm]; omega), by first | exact Nat.le_of_ble_eq_true rfl | (simp only [ab_rm]; omega)⟩ (Nat.le_of_ble_eq_true rfl) (fun u192 r192 h192 => ?_)
      obtain ⟨e192, rfl⟩ := h192
      subst u192
      refine ab_iconst (v := 0) X d_MO_tries_195 (by decide) ?_
      refine ab_callV (as := [ab_I (nI (3 * ch p1 1 + 2)), ab_I (nI (3 * ch p1 0)), ab_I (nI 0)]) X (fun h => by cases h) (x_MO_both u31 (3 * ch p1 1 + 2) (3 * ch p1 0) 0 _ _ _ _ P31.1 (by omega) (by omega) (L31 _ y1 y2).1.2.2 (L31 _ x1 x2).1.1) lk_MO_207 d_MO_tries_196 rfl rfl (by first | assumption | decide | (show _ < 124; omega) | (show _ < 61; omega) | (show _ < 20; omega)) ⟨by first | exact Nat.le_of_ble_eq_true rfl | (simp only [ab_rm]; omega), by first | exact Nat.le_of_ble_eq_true rfl | (simp only [ab_rm]; omega)⟩ ⟨by first | exact Nat.le_of_ble_eq_true rfl | (simp only [ab_rm]; omega), by first | exact Nat.le_of_ble_eq_true rfl | (simp only [ab_rm]; omega)⟩ (Nat.le_of_ble_eq_true rfl) (fun u196 r196 h196 => ?_)
      obtain ⟨⟨q196, a196, b196⟩, rfl⟩ := h196
      have P196 := P31.trans q196 (by decide)
      refine ab_iload_n X 5 d_MO_tries_199 rfl rfl ?_
      refine ab_bipush (v := 18) X d_MO_tries_200 (by decide) ?_
      refine ab_icmp_ne X 231 d_MO_tries_202 rfl (fun _ => ?_) (fun hb => absurd hb ((by decide)))
      refine ab_iload_n X 5 d_MO_tries_231 rfl rfl ?_
      refine ab_bipush (v := 7) X d_MO_tries_232 (by decide) ?_
      refine ab_icmp_ne X 248 d_MO_tries_234 rfl (fun _ => ?_) (fun hb => absurd hb ((by decide)))
      refine ab_iload_n X 5 d_MO_tries_248 rfl rfl ?_
      refine ab_bipush (v := 21) X d_MO_tries_249 (by decide) ?_
      refine ab_icmp_ne X 274 d_MO_tries_251 rfl (fun _ => ?_) (fun hb => absurd hb ((by decide)))
      refine ab_iload_n X 5 d_MO_tries_274 rfl rfl ?_
      refine ab_bipush (v := 24) X d_MO_tries_275 (by decide) ?_
      refine ab_icmp_ne X 304 d_MO_tries_277 rfl (fun _ => ?_) (fun hb => absurd hb ((by decide)))
      refine ab_iload_n X 2 d_MO_tries_304 rfl rfl ?_
      refine ab_bipush (v := 6) X d_MO_tries_305 (by decide) ?_
      refine ab_icmp_ne X 319 d_MO_tries_307 rfl (fun h307 => ?_) (fun h307 => ?_)
      ·
        have hk6 : ¬ kd p1 = 6 := fun z => h307 (by rw [z]; rfl)
        refine ab_lv (List.forall_mem_cons.mpr ⟨List.mem_of_getElem? (i := 3) rfl, List.forall_mem_cons.mpr ⟨List.mem_of_getElem? (i := 4) rfl, fun _ h => absurd h List.not_mem_nil⟩⟩) ?_
        first | exact yes _ P196 (by unfold app; omega) (by rw [tvL_14]; exact a196) (by rw [tvG_14]; exact b196) | exact no _ P196 (by unfold app; omega) t31
      ·
        have hk6 : kd p1 = 6 := (nI_eq (b := 6) (by omega) (by omega)).mp h307
        refine ab_aload_n X 3 d_MO_tries_310 rfl rfl ?_
        refine ab_iload X 1 d_MO_tries_311 rfl ?_
        refine ab_iload X 0 d_MO_tries_313 rfl ?_
        refine ab_iload_n X 5 d_MO_tries_315 rfl rfl ?_
        refine ab_callV (as := [ab_I _, ab_I _, ab_I (nI 14)]) X (fun h => by cases h) (t_MO_triesOr14 u196 _ _) lk_MO_218 d_MO_tries_316 rfl rfl (by first | assumption | decide | (show _ < 124; omega) | (show _ < 61; omega) | (show _ < 20; omega)) ⟨by first | exact Nat.le_of_ble_eq_true rfl | (simp only [ab_rm]; omega), by first | exact Nat.le_of_ble_eq_true rfl | (simp only [ab_rm]; omega)⟩ ⟨by first | exact Nat.le_of_ble_eq_true rfl | (simp only [ab_rm]; omega), by first | exact Nat.le_of_ble_eq_true rfl | (simp only [ab_rm]; omega)⟩ (Nat.le_of_ble_eq_true rfl) (fun u316 r316 h316 => ?_)
        obtain ⟨e316, rfl⟩ := h316
        subst u316
        refine ab_lv (List.forall_mem_cons.mpr ⟨List.mem_of_getElem? (i := 3) rfl, List.forall_mem_cons.mpr ⟨List.mem_of_getElem? (i := 4) rfl, fun _ h => absurd h List.not_mem_nil⟩⟩) ?_
        first | exact yes _ P196 (by unfold app; omega) (by rw [tvL_14]; exact a196) (by rw [tvG_14]; exact b196) | exact no _ P196 (by unfold app; omega) t31
  ·
    refine ab_aload_n X 0 d_MO_tries_0 rfl rfl ?_
    refine ab_gR X fl_MO_33 d_MO_tries_1 (by first | assumption | decide | (show _ < 124; omega) | (show _ < 61; omega) | (show _ < 20; omega)) (P0.1.mo7) ?_
    refine ab_iload_n X 1 d_MO_tries_4 rfl rfl ?_
    refine ab_iald X (p1) ⟨rfl, rfl⟩ d_MO_tries_5 (by first | assumption | decide | (show _ < 124; omega) | (show _ < 61; omega) | (show _ < 20; omega)) (rfl) (show p1 < 40 by omega) (ab_ln_lt _ _) ?_
    refine ab_top ek ?_
    refine ab_istore_n3 X 0 1 2 d_MO_tries_6 rfl (by decide) rfl rfl rfl rfl rfl rfl ?_
    refine ab_aload_n X 1 d_MO_tries_7 rfl rfl ?_
    refine ab_gR X fl_MO_42 d_MO_tries_8 (by first | assumption | decide | (show _ < 124; omega) | (show _ < 61; omega) | (show _ < 20; omega)) (P0.1.mo10) ?_
    refine ab_iconst (v := 4) X d_MO_tries_11 (by decide) ?_
    refine ab_iload_n X 2 d_MO_tries_12 rfl rfl ?_
    refine ab_imul X d_MO_tries_13 ?_
    refine ab_iald X (4 * p1) ⟨rfl, rfl⟩ d_MO_tries_14 (by first | assumption | decide | (show _ < 124; omega) | (show _ < 61; omega) | (show _ < 20; omega)) (nI_4m p1) (show 4 * p1 < 160 by omega) (ab_ln_lt _ _) ?_
    refine ab_istore4 X 0 1 2 3 d_MO_tries_15 (by decide) rfl rfl rfl rfl rfl rfl rfl rfl ?_
    refine ab_aload_n X 2 d_MO_tries_17 rfl rfl ?_
    refine ab_gR X fl_MO_42 d_MO_tries_18 (by first | assumption | decide | (show _ < 124; omega) | (show _ < 61; omega) | (show _ < 20; omega)) (P0.1.mo10) ?_
    refine ab_iconst (v := 4) X d_MO_tries_21 (by decide) ?_
    refine ab_iload_n X 3 d_MO_tries_22 rfl rfl ?_
    refine ab_imul X d_MO_tries_23 ?_
    refine ab_iconst (v := 1) X d_MO_tries_24 (by decide) ?_
    refine ab_iadd X d_MO_tries_25 ?_
    refine ab_iald X (4 * p1 + 1) ⟨rfl, rfl⟩ d_MO_tries_26 (by first | assumption | decide | (show _ < 124; omega) | (show _ < 61; omega) | (show _ < 20; omega)) (nI_4b p1) (show 4 * p1 + 1 < 160 by omega) (ab_ln_lt _ _) ?_
    refine ab_istore5 X 0 1 2 3 4 d_MO_tries_27 (by decide) rfl rfl rfl rfl rfl rfl rfl rfl rfl rfl ?_
    refine ab_aload_n X 3 d_MO_tries_29 rfl rfl ?_
    refine ab_iconst (v := 0) X d_MO_tries_30 (by decide) ?_
    refine ab_putI X fp_MO_66 d_MO_tries_31 (by first | assumption | decide | (show _ < 124; omega) | (show _ < 61; omega) | (show _ < 20; omega)) rfl rfl ?_
    refine ab_gen (fun u31 e31 => ?_)
    have P31 : gP [18, 19] u u31 := by rw [e31]; exact P0.ui rfl (by decide)
    have t31 : u31.1 17 0 18 = 0 := by rw [e31]; simp [ab_up]
    have L31 : ∀ c, p1 < c → c < P → m3 Y R u31 c := fun c a b => (hl c a b).fr P31 (by decide) (by decide) (by decide)
    have T31 := T.fr P31 (by decide) (by decide) (by decide) (by decide) (by decide)
    refine ab_iload_n X 5 d_MO_tries_34 rfl rfl ?_
    refine ab_iconst (v := 1) X d_MO_tries_35 (by decide) ?_
    refine ab_icmp_ne X 51 d_MO_tries_36 rfl (fun _ => ?_) (fun hb => absurd hb ((by decide)))
    refine ab_iload_n X 5 d_MO_tries_51 rfl rfl ?_
    refine ab_iconst (v := 2) X d_MO_tries_52 (by decide) ?_
    refine ab_icmp_ne X 76 d_MO_tries_53 rfl (fun _ => ?_) (fun hb => absurd hb ((by decide)))
    refine ab_iload_n X 5 d_MO_tries_76 rfl rfl ?_
    refine ab_bipush (v := 8) X d_MO_tries_77 (by decide) ?_
    refine ab_icmp_ne X 108 d_MO_tries_79 rfl (fun _ => ?_) (fun hb => absurd hb ((by decide)))
    refine ab_iload_n X 5 d_MO_tries_108 rfl rfl ?_
    refine ab_bipush (v := 11) X d_MO_tries_109 (by decide) ?_
    refine ab_icmp_ne X 125 d_MO_tries_111 rfl (fun _ => ?_) (fun hb => absurd hb ((by decide)))
    refine ab_iload_n X 5 d_MO_tries_125 rfl rfl ?_
    refine ab_bipush (v := 12) X d_MO_tries_126 (by decide) ?_
    refine ab_icmp_ne X 147 d_MO_tries_128 rfl (fun _ => ?_) (fun hb => absurd hb ((by decide)))
    refine ab_iload_n X 5 d_MO_tries_147 rfl rfl ?_
    refine ab_bipush (v := 13) X d_MO_tries_148 (by decide) ?_
    refine ab_icmp_ne X 173 d_MO_tries_150 rfl (fun _ => ?_) (fun hb => absurd hb ((by decide)))
    refine ab_iload_n X 5 d_MO_tries_173 rfl rfl ?_
    refine ab_bipush (v := 14) X d_MO_tries_174 (by decide) ?_
    refine ab_icmp_ne X 199 d_MO_tries_176 rfl (fun _ => ?_) (fun hb => absurd hb ((by decide)))
    refine ab_iload_n X 5 d_MO_tries_199 rfl rfl ?_
    refine ab_bipush (v := 18) X d_MO_tries_200 (by decide) ?_
    refine ab_icmp_ne X 231 d_MO_tries_202 rfl (fun _ => ?_) (fun hb => absurd hb ((by decide)))
    refine ab_iload_n X 5 d_MO_tries_231 rfl rfl ?_
    refine ab_bipush (v := 7) X d_MO_tries_232 (by decide) ?_
    refine ab_icmp_ne X 248 d_MO_tries_234 rfl (fun _ => ?_) (fun hb => absurd hb ((by decide)))
    refine ab_iload_n X 5 d_MO_tries_248 rfl rfl ?_
    refine ab_bipush (v := 21) X d_MO_tries_249 (by decide) ?_
    refine ab_icmp_ne X 274 d_MO_tries_251 rfl (fun _ => ?_) (fun hb => absurd hb ((by decide)))
    refine ab_iload_n X 5 d_MO_tries_274 rfl rfl ?_
    refine ab_bipush (v := 24) X d_MO_tries_275 (by decide) ?_
    refine ab_icmp_ne X 304 d_MO_tries_277 rfl (fun _ => ?_) (fun hb => absurd hb ((by decide)))
    refine ab_iload_n X 2 d_MO_tries_304 rfl rfl ?_
    refine ab_bipush (v := 6) X d_MO_tries_305 (by decide) ?_
    refine ab_icmp_ne X 319 d_MO_tries_307 rfl (fun h307 => ?_) (fun h307 => ?_)
    ·
      have hk6 : ¬ kd p1 = 6 := fun z => h307 (by rw [z]; rfl)
      refine ab_lv (List.forall_mem_cons.mpr ⟨List.mem_of_getElem? (i := 3) rfl, List.forall_mem_cons.mpr ⟨List.mem_of_getElem? (i := 4) rfl, fun _ h => absurd h List.not_mem_nil⟩⟩) ?_
      first | exact yes _ P31 (by unfold app; omega) (by rw [tvL_15]; exact a316) (by rw [tvG_15]; exact b316) | exact no _ P31 (by unfold app; omega) t31
    ·
      have hk6 : kd p1 = 6 := (nI_eq (b := 6) (by omega) (by omega)).mp h307
      obtain ⟨x, y, ex, ey, x1, x2, y1, y2, -, -, -, hx, hy⟩ := W.two T hp (Or.inr hk6)
      rw [ex, ey]
      subst hx hy
      refine ab_aload_n X 3 d_MO_tries_310 rfl rfl ?_
      refine ab_iload X 1 d_MO_tries_311 rfl ?_
      refine ab_iload X 0 d_MO_tries_313 rfl ?_
      refine ab_iload_n X 5 d_MO_tries_315 rfl rfl ?_
      refine ab_callV (as := [ab_I (nI (ch p1 0)), ab_I (nI (ch p1 1)), ab_I (nI 15)]) X (fun h => by cases h) (x_MO_triesOr15 u31 (ch p1 0) (ch p1 1) Y R P31.1 (by omega) (by omega) (L31 _ x1 x2) (L31 _ y1 y2) (cbd _ x2) (cbd _ y2)) lk_MO_218 d_MO_tries_316 rfl rfl (by first | assumption | decide | (show _ < 124; omega) | (show _ < 61; omega) | (show _ < 20; omega)) ⟨by first | exact Nat.le_of_ble_eq_true rfl | (simp only [ab_rm]; omega), by first | exact Nat.le_of_ble_eq_true rfl | (simp only [ab_rm]; omega)⟩ ⟨by first | exact Nat.le_of_ble_eq_true rfl | (simp only [ab_rm]; omega), by first | exact Nat.le_of_ble_eq_true rfl | (simp only [ab_rm]; omega)⟩ (Nat.le_of_ble_eq_true rfl) (fun u316 r316 h316 => ?_)
      obtain ⟨⟨q316, a316, b316⟩, rfl⟩ := h316
      have P316 := P31.trans q316 (by decide)
      refine ab_lv (List.forall_mem_cons.mpr ⟨List.mem_of_getElem? (i := 3) rfl, List.forall_mem_cons.mpr ⟨List.mem_of_getElem? (i := 4) rfl, fun _ h => absurd h List.not_mem_nil⟩⟩) ?_
      first | exact yes _ P316 (by unfold app; omega) (by rw [tvL_15]; exact a316) (by rw [tvG_15]; exact b316) | exact no _ P316 (by unfold app; omega) t31
  ·
    refine ab_aload_n X 0 d_MO_tries_0 rfl rfl ?_
    refine ab_gR X fl_MO_33 d_MO_tries_1 (by first | assumption | decide | (show _ < 124; omega) | (show _ < 61; omega) | (show _ < 20; omega)) (P0.1.mo7) ?_
    refine ab_iload_n X 1 d_MO_tries_4 rfl rfl ?_
    refine ab_iald X (p1) ⟨rfl, rfl⟩ d_MO_tries_5 (by first | assumption | decide | (show _ < 124; omega) | (show _ < 61; omega) | (show _ < 20; omega)) (rfl) (show p1 < 40 by omega) (ab_ln_lt _ _) ?_
    refine ab_top ek ?_
    refine ab_istore_n3 X 0 1 2 d_MO_tries_6 rfl (by decide) rfl rfl rfl rfl rfl rfl ?_
    refine ab_aload_n X 1 d_MO_tries_7 rfl rfl ?_
    refine ab_gR X fl_MO_42 d_MO_tries_8 (by first | assumption | decide | (show _ < 124; omega) | (show _ < 61; omega) | (show _ < 20; omega)) (P0.1.mo10) ?_
    refine ab_iconst (v := 4) X d_MO_tries_11 (by decide) ?_
    refine ab_iload_n X 2 d_MO_tries_12 rfl rfl ?_
    refine ab_imul X d_MO_tries_13 ?_
    refine ab_iald X (4 * p1) ⟨rfl, rfl⟩ d_MO_tries_14 (by first | assumption | decide | (show _ < 124; omega) | (show _ < 61; omega) | (show _ < 20; omega)) (nI_4m p1) (show 4 * p1 < 160 by omega) (ab_ln_lt _ _) ?_
    refine ab_istore4 X 0 1 2 3 d_MO_tries_15 (by decide) rfl rfl rfl rfl rfl rfl rfl rfl ?_
    refine ab_aload_n X 2 d_MO_tries_17 rfl rfl ?_
    refine ab_gR X fl_MO_42 d_MO_tries_18 (by first | assumption | decide | (show _ < 124; omega) | (show _ < 61; omega) | (show _ < 20; omega)) (P0.1.mo10) ?_
    refine ab_iconst (v := 4) X d_MO_tries_21 (by decide) ?_
    refine ab_iload_n X 3 d_MO_tries_22 rfl rfl ?_
    refine ab_imul X d_MO_tries_23 ?_
    refine ab_iconst (v := 1) X d_MO_tries_24 (by decide) ?_
    refine ab_iadd X d_MO_tries_25 ?_
    refine ab_iald X (4 * p1 + 1) ⟨rfl, rfl⟩ d_MO_tries_26 (by first | assumption | decide | (show _ < 124; omega) | (show _ < 61; omega) | (show _ < 20; omega)) (nI_4b p1) (show 4 * p1 + 1 < 160 by omega) (ab_ln_lt _ _) ?_
    refine ab_istore5 X 0 1 2 3 4 d_MO_tries_27 (by decide) rfl rfl rfl rfl rfl rfl rfl rfl rfl rfl ?_
    refine ab_aload_n X 3 d_MO_tries_29 rfl rfl ?_
    refine ab_iconst (v := 0) X d_MO_tries_30 (by decide) ?_
    refine ab_putI X fp_MO_66 d_MO_tries_31 (by first | assumption | decide | (show _ < 124; omega) | (show _ < 61; omega) | (show _ < 20; omega)) rfl rfl ?_
    refine ab_gen (fun u31 e31 => ?_)
    have P31 : gP [18, 19] u u31 := by rw [e31]; exact P0.ui rfl (by decide)
    have t31 : u31.1 17 0 18 = 0 := by rw [e31]; simp [ab_up]
    have L31 : ∀ c, p1 < c → c < P → m3 Y R u31 c := fun c a b => (hl c a b).fr P31 (by decide) (by decide) (by decide)
    have T31 := T.fr P31 (by decide) (by decide) (by decide) (by decide) (by decide)
    refine ab_iload_n X 5 d_MO_tries_34 rfl rfl ?_
    refine ab_iconst (v := 1) X d_MO_tries_35 (by decide) ?_
    refine ab_icmp_ne X 51 d_MO_tries_36 rfl (fun _ => ?_) (fun hb => absurd hb ((by decide)))
    refine ab_iload_n X 5 d_MO_tries_51 rfl rfl ?_
    refine ab_iconst (v := 2) X d_MO_tries_52 (by decide) ?_
    refine ab_icmp_ne X 76 d_MO_tries_53 rfl (fun _ => ?_) (fun hb => absurd hb ((by decide)))
    refine ab_iload_n X 5 d_MO_tries_76 rfl rfl ?_
    refine ab_bipush (v := 8) X d_MO_tries_77 (by decide) ?_
    refine ab_icmp_ne X 108 d_MO_tries_79 rfl (fun _ => ?_) (fun hb => absurd hb ((by decide)))
    refine ab_iload_n X 5 d_MO_tries_108 rfl rfl ?_
    refine ab_bipush (v := 11) X d_MO_tries_109 (by decide) ?_
    refine ab_icmp_ne X 125 d_MO_tries_111 rfl (fun _ => ?_) (fun hb => absurd hb ((by decide)))
    refine ab_iload_n X 5 d_MO_tries_125 rfl rfl ?_
    refine ab_bipush (v := 12) X d_MO_tries_126 (by decide) ?_
    refine ab_icmp_ne X 147 d_MO_tries_128 rfl (fun _ => ?_) (fun hb => absurd hb ((by decide)))
    refine ab_iload_n X 5 d_MO_tries_147 rfl rfl ?_
    refine ab_bipush (v := 13) X d_MO_tries_148 (by decide) ?_
    refine ab_icmp_ne X 173 d_MO_tries_150 rfl (fun _ => ?_) (fun hb => absurd hb ((by decide)))
    refine ab_iload_n X 5 d_MO_tries_173 rfl rfl ?_
    refine ab_bipush (v := 14) X d_MO_tries_174 (by decide) ?_
    refine ab_icmp_ne X 199 d_MO_tries_176 rfl (fun _ => ?_) (fun hb => absurd hb ((by decide)))
    refine ab_iload_n X 5 d_MO_tries_199 rfl rfl ?_
    refine ab_bipush (v := 18) X d_MO_tries_200 (by decide) ?_
    refine ab_icmp_ne X 231 d_MO_tries_202 rfl (fun _ => ?_) (fun hb => absurd hb ((by decide)))
    refine ab_iload_n X 5 d_MO_tries_231 rfl rfl ?_
    refine ab_bipush (v := 7) X d_MO_tries_232 (by decide) ?_
    refine ab_icmp_ne X 248 d_MO_tries_234 rfl (fun _ => ?_) (fun hb => absurd hb ((by decide)))
    refine ab_iload_n X 5 d_MO_tries_248 rfl rfl ?_
    refine ab_bipush (v := 21) X d_MO_tries_249 (by decide) ?_
    refine ab_icmp_ne X 274 d_MO_tries_251 rfl (fun _ => ?_) (fun hb => absurd hb ((by decide)))
    refine ab_iload_n X 5 d_MO_tries_274 rfl rfl ?_
    refine ab_bipush (v := 24) X d_MO_tries_275 (by decide) ?_
    refine ab_icmp_ne X 304 d_MO_tries_277 rfl (fun _ => ?_) (fun hb => absurd hb ((by decide)))
    refine ab_iload_n X 2 d_MO_tries_304 rfl rfl ?_
    refine ab_bipush (v := 6) X d_MO_tries_305 (by decide) ?_
    refine ab_icmp_ne X 319 d_MO_tries_307 rfl (fun h307 => ?_) (fun h307 => ?_)
    ·
      have hk6 : ¬ kd p1 = 6 := fun z => h307 (by rw [z]; rfl)
      refine ab_lv (List.forall_mem_cons.mpr ⟨List.mem_of_getElem? (i := 3) rfl, List.forall_mem_cons.mpr ⟨List.mem_of_getElem? (i := 4) rfl, fun _ h => absurd h List.not_mem_nil⟩⟩) ?_
      first | exact yes _ P31 (by unfold app; omega) (by rw [tvL_16]; exact a316) (by rw [tvG_16]; exact b316) | exact no _ P31 (by unfold app; omega) t31
    ·
      have hk6 : kd p1 = 6 := (nI_eq (b := 6) (by omega) (by omega)).mp h307
      obtain ⟨x, y, ex, ey, x1, x2, y1, y2, -, -, -, hx, hy⟩ := W.two T hp (Or.inr hk6)
      rw [ex, ey]
      subst hx hy
      refine ab_aload_n X 3 d_MO_tries_310 rfl rfl ?_
      refine ab_iload X 1 d_MO_tries_311 rfl ?_
      refine ab_iload X 0 d_MO_tries_313 rfl ?_
      refine ab_iload_n X 5 d_MO_tries_315 rfl rfl ?_
      refine ab_callV (as := [ab_I (nI (ch p1 0)), ab_I (nI (ch p1 1)), ab_I (nI 16)]) X (fun h => by cases h) (x_MO_triesOr16 u31 (ch p1 0) (ch p1 1) Y R P31.1 (by omega) (by omega) (L31 _ x1 x2) (L31 _ y1 y2) (cbd _ x2) (cbd _ y2)) lk_MO_218 d_MO_tries_316 rfl rfl (by first | assumption | decide | (show _ < 124; omega) | (show _ < 61; omega) | (show _ < 20; omega)) ⟨by first | exact Nat.le_of_ble_eq_true rfl | (simp only [ab_rm]; omega), by first | exact Nat.le_of_ble_eq_true rfl | (simp only [ab_rm]; omega)⟩ ⟨by first | exact Nat.le_of_ble_eq_true rfl | (simp only [ab_rm]; omega), by first | exact Nat.le_of_ble_eq_true rfl | (simp only [ab_rm]; omega)⟩ (Nat.le_of_ble_eq_true rfl) (fun u316 r316 h316 => ?_)
      obtain ⟨⟨q316, a316, b316⟩, rfl⟩ := h316
      have P316 := P31.trans q316 (by decide)
      refine ab_lv (List.forall_mem_cons.mpr ⟨List.mem_of_getElem? (i := 3) rfl, List.forall_mem_cons.mpr ⟨List.mem_of_getElem? (i := 4) rfl, fun _ h => absurd h List.not_mem_nil⟩⟩) ?_
      first | exact yes _ P316 (by unfold app; omega) (by rw [tvL_16]; exact a316) (by rw [tvG_16]; exact b316) | exact no _ P316 (by unfold app; omega) t31
  ·
    refine ab_aload_n X 0 d_MO_tries_0 rfl rfl ?_
    refine ab_gR X fl_MO_33 d_MO_tries_1 (by first | assumption | decide | (show _ < 124; omega) | (show _ < 61; omega) | (show _ < 20; omega)) (P0.1.mo7) ?_
    refine ab_iload_n X 1 d_MO_tries_4 rfl rfl ?_
    refine ab_iald X (p1) ⟨rfl, rfl⟩ d_MO_tries_5 (by first | assumption | decide | (show _ < 124; omega) | (show _ < 61; omega) | (show _ < 20; omega)) (rfl) (show p1 < 40 by omega) (ab_ln_lt _ _) ?_
    refine ab_top ek ?_
    refine ab_istore_n3 X 0 1 2 d_MO_tries_6 rfl (by decide) rfl rfl rfl rfl rfl rfl ?_
    refine ab_aload_n X 1 d_MO_tries_7 rfl rfl ?_
    refine ab_gR X fl_MO_42 d_MO_tries_8 (by first | assumption | decide | (show _ < 124; omega) | (show _ < 61; omega) | (show _ < 20; omega)) (P0.1.mo10) ?_
    refine ab_iconst (v := 4) X d_MO_tries_11 (by decide) ?_
    refine ab_iload_n X 2 d_MO_tries_12 rfl rfl ?_
    refine ab_imul X d_MO_tries_13 ?_
    refine ab_iald X (4 * p1) ⟨rfl, rfl⟩ d_MO_tries_14 (by first | assumption | decide | (show _ < 124; omega) | (show _ < 61; omega) | (show _ < 20; omega)) (nI_4m p1) (show 4 * p1 < 160 by omega) (ab_ln_lt _ _) ?_
    refine ab_istore4 X 0 1 2 3 d_MO_tries_15 (by decide) rfl rfl rfl rfl rfl rfl rfl rfl ?_
    refine ab_aload_n X 2 d_MO_tries_17 rfl rfl ?_
    refine ab_gR X fl_MO_42 d_MO_tries_18 (by first | assumption | decide | (show _ < 124; omega) | (show _ < 61; omega) | (show _ < 20; omega)) (P0.1.mo10) ?_
    refine ab_iconst (v := 4) X d_MO_tries_21 (by decide) ?_
    refine ab_iload_n X 3 d_MO_tries_22 rfl rfl ?_
    refine ab_imul X d_MO_tries_23 ?_
    refine ab_iconst (v := 1) X d_MO_tries_24 (by decide) ?_
    refine ab_iadd X d_MO_tries_25 ?_
    refine ab_iald X (4 * p1 + 1) ⟨rfl, rfl⟩ d_MO_tries_26 (by first | assumption | decide | (show _ < 124; omega) | (show _ < 61; omega) | (show _ < 20; omega)) (nI_4b p1) (show 4 * p1 + 1 < 160 by omega) (ab_ln_lt _ _) ?_
    refine ab_istore5 X 0 1 2 3 4 d_MO_tries_27 (by decide) rfl rfl rfl rfl rfl rfl rfl rfl rfl rfl ?_
    refine ab_aload_n X 3 d_MO_tries_29 rfl rfl ?_
    refine ab_iconst (v := 0) X d_MO_tries_30 (by decide) ?_
    refine ab_putI X fp_MO_66 d_MO_tries_31 (by first | assumption | decide | (show _ < 124; omega) | (show _ < 61; omega) | (show _ < 20; omega)) rfl rfl ?_
    refine ab_gen (fun u31 e31 => ?_)
    have P31 : gP [18, 19] u u31 := by rw [e31]; exact P0.ui rfl (by decide)
    have t31 : u31.1 17 0 18 = 0 := by rw [e31]; simp [ab_up]
    have L31 : ∀ c, p1 < c → c < P → m3 Y R u31 c := fun c a b => (hl c a b).fr P31 (by decide) (by decide) (by decide)
    have T31 := T.fr P31 (by decide) (by decide) (by decide) (by decide) (by decide)
    refine ab_iload_n X 5 d_MO_tries_34 rfl rfl ?_
    refine ab_iconst (v := 1) X d_MO_tries_35 (by decide) ?_
    refine ab_icmp_ne X 51 d_MO_tries_36 rfl (fun _ => ?_) (fun hb => absurd hb ((by decide)))
    refine ab_iload_n X 5 d_MO_tries_51 rfl rfl ?_
    refine ab_iconst (v := 2) X d_MO_tries_52 (by decide) ?_
    refine ab_icmp_ne X 76 d_MO_tries_53 rfl (fun _ => ?_) (fun hb => absurd hb ((by decide)))
    refine ab_iload_n X 5 d_MO_tries_76 rfl rfl ?_
    refine ab_bipush (v := 8) X d_MO_tries_77 (by decide) ?_
    refine ab_icmp_ne X 108 d_MO_tries_79 rfl (fun _ => ?_) (fun hb => absurd hb ((by decide)))
    refine ab_iload_n X 5 d_MO_tries_108 rfl rfl ?_
    refine ab_bipush (v := 11) X d_MO_tries_109 (by decide) ?_
    refine ab_icmp_ne X 125 d_MO_tries_111 rfl (fun _ => ?_) (fun hb => absurd hb ((by decide)))
    refine ab_iload_n X 5 d_MO_tries_125 rfl rfl ?_
    refine ab_bipush (v := 12) X d_MO_tries_126 (by decide) ?_
    refine ab_icmp_ne X 147 d_MO_tries_128 rfl (fun _ => ?_) (fun hb => absurd hb ((by decide)))
    refine ab_iload_n X 5 d_MO_tries_147 rfl rfl ?_
    refine ab_bipush (v := 13) X d_MO_tries_148 (by decide) ?_
    refine ab_icmp_ne X 173 d_MO_tries_150 rfl (fun _ => ?_) (fun hb => absurd hb ((by decide)))
    refine ab_iload_n X 5 d_MO_tries_173 rfl rfl ?_
    refine ab_bipush (v := 14) X d_MO_tries_174 (by decide) ?_
    refine ab_icmp_ne X 199 d_MO_tries_176 rfl (fun _ => ?_) (fun hb => absurd hb ((by decide)))
    refine ab_iload_n X 5 d_MO_tries_199 rfl rfl ?_
    refine ab_bipush (v := 18) X d_MO_tries_200 (by decide) ?_
    refine ab_icmp_ne X 231 d_MO_tries_202 rfl (fun _ => ?_) (fun hb => absurd hb ((by decide)))
    refine ab_iload_n X 5 d_MO_tries_231 rfl rfl ?_
    refine ab_bipush (v := 7) X d_MO_tries_232 (by decide) ?_
    refine ab_icmp_ne X 248 d_MO_tries_234 rfl (fun _ => ?_) (fun hb => absurd hb ((by decide)))
    refine ab_iload_n X 5 d_MO_tries_248 rfl rfl ?_
    refine ab_bipush (v := 21) X d_MO_tries_249 (by decide) ?_
    refine ab_icmp_ne X 274 d_MO_tries_251 rfl (fun _ => ?_) (fun hb => absurd hb ((by decide)))
    refine ab_iload_n X 5 d_MO_tries_274 rfl rfl ?_
    refine ab_bipush (v := 24) X d_MO_tries_275 (by decide) ?_
    refine ab_icmp_ne X 304 d_MO_tries_277 rfl (fun _ => ?_) (fun hb => absurd hb ((by decide)))
    refine ab_iload_n X 2 d_MO_tries_304 rfl rfl ?_
    refine ab_bipush (v := 6) X d_MO_tries_305 (by decide) ?_
    refine ab_icmp_ne X 319 d_MO_tries_307 rfl (fun h307 => ?_) (fun h307 => ?_)
    ·
      have hk6 : ¬ kd p1 = 6 := fun z => h307 (by rw [z]; rfl)
      refine ab_lv (List.forall_mem_cons.mpr ⟨List.mem_of_getElem? (i := 3) rfl, List.forall_mem_cons.mpr ⟨List.mem_of_getElem? (i := 4) rfl, fun _ h => absurd h List.not_mem_nil⟩⟩) ?_
      first | exact yes _ P31 (by unfold app; omega) (by rw [tvL_17]; exact a316) (by rw [tvG_17]; exact b316) | exact no _ P31 (by unfold app; omega) t31
    ·
      have hk6 : kd p1 = 6 := (nI_eq (b := 6) (by omega) (by omega)).mp h307
      obtain ⟨x, y, ex, ey, x1, x2, y1, y2, -, -, -, hx, hy⟩ := W.two T hp (Or.inr hk6)
      rw [ex, ey]
      subst hx hy
      refine ab_aload_n X 3 d_MO_tries_310 rfl rfl ?_
      refine ab_iload X 1 d_MO_tries_311 rfl ?_
      refine ab_iload X 0 d_MO_tries_313 rfl ?_
      refine ab_iload_n X 5 d_MO_tries_315 rfl rfl ?_
      refine ab_callV (as := [ab_I (nI (ch p1 0)), ab_I (nI (ch p1 1)), ab_I (nI 17)]) X (fun h => by cases h) (x_MO_triesOr17 u31 (ch p1 0) (ch p1 1) Y R P31.1 (by omega) (by omega) (L31 _ x1 x2) (L31 _ y1 y2) (cbd _ x2) (cbd _ y2)) lk_MO_218 d_MO_tries_316 rfl rfl (by first | assumption | decide | (show _ < 124; omega) | (show _ < 61; omega) | (show _ < 20; omega)) ⟨by first | exact Nat.le_of_ble_eq_true rfl | (simp only [ab_rm]; omega), by first | exact Nat.le_of_ble_eq_true rfl | (simp only [ab_rm]; omega)⟩ ⟨by first | exact Nat.le_of_ble_eq_true rfl | (simp only [ab_rm]; omega), by first | exact Nat.le_of_ble_eq_true rfl | (simp only [ab_rm]; omega)⟩ (Nat.le_of_ble_eq_true rfl) (fun u316 r316 h316 => ?_)
      obtain ⟨⟨q316, a316, b316⟩, rfl⟩ := h316
      have P316 := P31.trans q316 (by decide)
      refine ab_lv (List.forall_mem_cons.mpr ⟨List.mem_of_getElem? (i := 3) rfl, List.forall_mem_cons.mpr ⟨List.mem_of_getElem? (i := 4) rfl, fun _ h => absurd h List.not_mem_nil⟩⟩) ?_
      first | exact yes _ P316 (by unfold app; omega) (by rw [tvL_17]; exact a316) (by rw [tvG_17]; exact b316) | exact no _ P316 (by unfold app; omega) t31
  ·
    refine ab_aload_n X 0 d_MO_tries_0 rfl rfl ?_
    refine ab_gR X fl_MO_33 d_MO_tries_1 (by first | assumption | decide | (show _ < 124; omega) | (show _ < 61; omega) | (show _ < 20; omega)) (P0.1.mo7) ?_
    refine ab_iload_n X 1 d_MO_tries_4 rfl rfl ?_
    refine ab_iald X (p1) ⟨rfl, rfl⟩ d_MO_tries_5 (by first | assumption | decide | (show _ < 124; omega) | (show _ < 61; omega) | (show _ < 20; omega)) (rfl) (show p1 < 40 by omega) (ab_ln_lt _ _) ?_
    refine ab_top ek ?_
    refine ab_istore_n3 X 0 1 2 d_MO_tries_6 rfl (by decide) rfl rfl rfl rfl rfl rfl ?_
    refine ab_aload_n X 1 d_MO_tries_7 rfl rfl ?_
    refine ab_gR X fl_MO_42 d_MO_tries_8 (by first | assumption | decide | (show _ < 124; omega) | (show _ < 61; omega) | (show _ < 20; omega)) (P0.1.mo10) ?_
    refine ab_iconst (v := 4) X d_MO_tries_11 (by decide) ?_
    refine ab_iload_n X 2 d_MO_tries_12 rfl rfl ?_
    refine ab_imul X d_MO_tries_13 ?_
    refine ab_iald X (4 * p1) ⟨rfl, rfl⟩ d_MO_tries_14 (by first | assumption | decide | (show _ < 124; omega) | (show _ < 61; omega) | (show _ < 20; omega)) (nI_4m p1) (show 4 * p1 < 160 by omega) (ab_ln_lt _ _) ?_
    refine ab_istore4 X 0 1 2 3 d_MO_tries_15 (by decide) rfl rfl rfl rfl rfl rfl rfl rfl ?_
    refine ab_aload_n X 2 d_MO_tries_17 rfl rfl ?_
    refine ab_gR X fl_MO_42 d_MO_tries_18 (by first | assumption | decide | (show _ < 124; omega) | (show _ < 61; omega) | (show _ < 20; omega)) (P0.1.mo10) ?_
    refine ab_iconst (v := 4) X d_MO_tries_21 (by decide) ?_
    refine ab_iload_n X 3 d_MO_tries_22 rfl rfl ?_
    refine ab_imul X d_MO_tries_23 ?_
    refine ab_iconst (v := 1) X d_MO_tries_24 (by decide) ?_
    refine ab_iadd X d_MO_tries_25 ?_
    refine ab_iald X (4 * p1 + 1) ⟨rfl, rfl⟩ d_MO_tries_26 (by first | assumption | decide | (show _ < 124; omega) | (show _ < 61; omega) | (show _ < 20; omega)) (nI_4b p1) (show 4 * p1 + 1 < 160 by omega) (ab_ln_lt _ _) ?_
    refine ab_istore5 X 0 1 2 3 4 d_MO_tries_27 (by decide) rfl rfl rfl rfl rfl rfl rfl rfl rfl rfl ?_
    refine ab_aload_n X 3 d_MO_tries_29 rfl rfl ?_
    refine ab_iconst (v := 0) X d_MO_tries_30 (by decide) ?_
    refine ab_putI X fp_MO_66 d_MO_tries_31 (by first | assumption | decide | (show _ < 124; omega) | (show _ < 61; omega) | (show _ < 20; omega)) rfl rfl ?_
    refine ab_gen (fun u31 e31 => ?_)
    have P31 : gP [18, 19] u u31 := by rw [e31]; exact P0.ui rfl (by decide)
    have t31 : u31.1 17 0 18 = 0 := by rw [e31]; simp [ab_up]
    have L31 : ∀ c, p1 < c → c < P → m3 Y R u31 c := fun c a b => (hl c a b).fr P31 (by decide) (by decide) (by decide)
    have T31 := T.fr P31 (by decide) (by decide) (by decide) (by decide) (by decide)
    refine ab_iload_n X 5 d_MO_tries_34 rfl rfl ?_
    refine ab_iconst (v := 1) X d_MO_tries_35 (by decide) ?_
    refine ab_icmp_ne X 51 d_MO_tries_36 rfl (fun _ => ?_) (fun hb => absurd hb ((by decide)))
    refine ab_iload_n X 5 d_MO_tries_51 rfl rfl ?_
    refine ab_iconst (v := 2) X d_MO_tries_52 (by decide) ?_
    refine ab_icmp_ne X 76 d_MO_tries_53 rfl (fun _ => ?_) (fun hb => absurd hb ((by decide)))
    refine ab_iload_n X 5 d_MO_tries_76 rfl rfl ?_
    refine ab_bipush (v := 8) X d_MO_tries_77 (by decide) ?_
    refine ab_icmp_ne X 108 d_MO_tries_79 rfl (fun _ => ?_) (fun hb => absurd hb ((by decide)))
    refine ab_iload_n X 5 d_MO_tries_108 rfl rfl ?_
    refine ab_bipush (v := 11) X d_MO_tries_109 (by decide) ?_
    refine ab_icmp_ne X 125 d_MO_tries_111 rfl (fun _ => ?_) (fun hb => absurd hb ((by decide)))
    refine ab_iload_n X 5 d_MO_tries_125 rfl rfl ?_
    refine ab_bipush (v := 12) X d_MO_tries_126 (by decide) ?_
    refine ab_icmp_ne X 147 d_MO_tries_128 rfl (fun _ => ?_) (fun hb => absurd hb ((by decide)))
    refine ab_iload_n X 5 d_MO_tries_147 rfl rfl ?_
    refine ab_bipush (v := 13) X d_MO_tries_148 (by decide) ?_
    refine ab_icmp_ne X 173 d_MO_tries_150 rfl (fun _ => ?_) (fun hb => absurd hb ((by decide)))
    refine ab_iload_n X 5 d_MO_tries_173 rfl rfl ?_
    refine ab_bipush (v := 14) X d_MO_tries_174 (by decide) ?_
    refine ab_icmp_ne X 199 d_MO_tries_176 rfl (fun _ => ?_) (fun hb => absurd hb ((by decide)))
    refine ab_iload_n X 5 d_MO_tries_199 rfl rfl ?_
    refine ab_bipush (v := 18) X d_MO_tries_200 (by decide) ?_
    refine ab_icmp_ne X 231 d_MO_tries_202 rfl (fun hb => absurd ((by decide)) hb) (fun _ => ?_)
    refine ab_iload_n X 2 d_MO_tries_205 rfl rfl ?_
    refine ab_bipush (v := 7) X d_MO_tries_206 (by decide) ?_
    refine ab_icmp_ne X 231 d_MO_tries_208 rfl (fun h208 => ?_) (fun h208 => ?_)
    ·
      have hk7 : ¬ kd p1 = 7 := fun z => h208 (by rw [z]; rfl)
      refine ab_iload_n X 5 d_MO_tries_231 rfl rfl ?_
      refine ab_bipush (v := 7) X d_MO_tries_232 (by decide) ?_
      refine ab_icmp_ne X 248 d_MO_tries_234 rfl (fun _ => ?_) (fun hb => absurd hb ((by decide)))
      refine ab_iload_n X 5 d_MO_tries_248 rfl rfl ?_
      refine ab_bipush (v := 21) X d_MO_tries_249 (by decide) ?_
      refine ab_icmp_ne X 274 d_MO_tries_251 rfl (fun _ => ?_) (fun hb => absurd hb ((by decide)))
      refine ab_iload_n X 5 d_MO_tries_274 rfl rfl ?_
      refine ab_bipush (v := 24) X d_MO_tries_275 (by decide) ?_
      refine ab_icmp_ne X 304 d_MO_tries_277 rfl (fun _ => ?_) (fun hb => absurd hb ((by decide)))
      refine ab_iload_n X 2 d_MO_tries_304 rfl rfl ?_
      refine ab_bipush (v := 6) X d_MO_tries_305 (by decide) ?_
      refine ab_icmp_ne X 319 d_MO_tries_307 rfl (fun h307 => ?_) (fun h307 => ?_)
      ·
        have hk6 : ¬ kd p1 = 6 := fun z => h307 (by rw [z]; rfl)
        refine ab_lv (List.forall_mem_cons.mpr ⟨List.mem_of_getElem? (i := 3) rfl, List.forall_mem_cons.mpr ⟨List.mem_of_getElem? (i := 4) rfl, fun _ h => absurd h List.not_mem_nil⟩⟩) ?_
        first | exact yes _ P31 (by unfold app; omega) (by rw [tvL_18]; exact a228) (by rw [tvG_18]; exact b228) | exact no _ P31 (by unfold app; omega) t31
      ·
        have hk6 : kd p1 = 6 := (nI_eq (b := 6) (by omega) (by omega)).mp h307
        refine ab_aload_n X 3 d_MO_tries_310 rfl rfl ?_
        refine ab_iload X 1 d_MO_tries_311 rfl ?_
        refine ab_iload X 0 d_MO_tries_313 rfl ?_
        refine ab_iload_n X 5 d_MO_tries_315 rfl rfl ?_
        refine ab_callV (as := [ab_I _, ab_I _, ab_I (nI 18)]) X (fun h => by cases h) (t_MO_triesOr18 u31 _ _) lk_MO_218 d_MO_tries_316 rfl rfl (by first | assumption | decide | (show _ < 124; omega) | (show _ < 61; omega) | (show _ < 20; omega)) ⟨by first | exact Nat.le_of_ble_eq_true rfl | (simp only [ab_rm]; omega), by first | exact Nat.le_of_ble_eq_true rfl | (simp only [ab_rm]; omega)⟩ ⟨by first | exact Nat.le_of_ble_eq_true rfl | (simp only [ab_rm]; omega), by first | exact Nat.le_of_ble_eq_true rfl | (simp only [ab_rm]; omega)⟩ (Nat.le_of_ble_eq_true rfl) (fun u316 r316 h316 => ?_)
        obtain ⟨e316, rfl⟩ := h316
        subst u316
        refine ab_lv (List.forall_mem_cons.mpr ⟨List.mem_of_getElem? (i := 3) rfl, List.forall_mem_cons.mpr ⟨List.mem_of_getElem? (i := 4) rfl, fun _ h => absurd h List.not_mem_nil⟩⟩) ?_
        first | exact yes _ P31 (by unfold app; omega) (by rw [tvL_18]; exact a228) (by rw [tvG_18]; exact b228) | exact no _ P31 (by unfold app; omega) t31
    ·
      have hk7 : kd p1 = 7 := (nI_eq (b := 7) (by omega) (by omega)).mp h208
      refine ab_aload_n X 3 d_MO_tries_211 rfl rfl ?_
      refine ab_gR X fl_MO_36 d_MO_tries_212 (by first | assumption | decide | (show _ < 124; omega) | (show _ < 61; omega) | (show _ < 20; omega)) (P31.1.mo8) ?_
      refine ab_iload_n X 4 d_MO_tries_215 rfl rfl ?_
      refine ab_iald X (p1) ⟨rfl, rfl⟩ d_MO_tries_216 (by first | assumption | decide | (show _ < 124; omega) | (show _ < 61; omega) | (show _ < 20; omega)) (rfl) (show p1 < 40 by omega) (ab_ln_lt _ _) ?_
      refine ab_top (P31.ai (by decide) ea) ?_
      refine ab_aload_n X 3 d_MO_tries_217 rfl rfl ?_
      refine ab_gR X fl_MO_39 d_MO_tries_218 (by first | assumption | decide | (show _ < 124; omega) | (show _ < 61; omega) | (show _ < 20; omega)) (P31.1.mo9) ?_
      refine ab_iload_n X 4 d_MO_tries_221 rfl rfl ?_
      refine ab_iald X (p1) ⟨rfl, rfl⟩ d_MO_tries_222 (by first | assumption | decide | (show _ < 124; omega) | (show _ < 61; omega) | (show _ < 20; omega)) (rfl) (show p1 < 40 by omega) (ab_ln_lt _ _) ?_
      refine ab_top (P31.ai (by decide) ec) ?_
      have r1 := (W.2.2 p1 hp).1.2.2.2.2
      have r2 := ((W.2.2 p1 hp).2.2 (by omega)).2.1
      refine ab_icmp_ne X 231 d_MO_tries_223 rfl (fun h223 => ?_) (fun h223 => ?_)
      ·
        have hac : ¬ ar p1 = cn p1 := fun z => h223 (by rw [z])
        refine ab_iload_n X 5 d_MO_tries_231 rfl rfl ?_
        refine ab_bipush (v := 7) X d_MO_tries_232 (by decide) ?_
        refine ab_icmp_ne X 248 d_MO_tries_234 rfl (fun _ => ?_) (fun hb => absurd hb ((by decide)))
        refine ab_iload_n X 5 d_MO_tries_248 rfl rfl ?_
        refine ab_bipush (v := 21) X d_MO_tries_249 (by decide) ?_
        refine ab_icmp_ne X 274 d_MO_tries_251 rfl (fun _ => ?_) (fun hb => absurd hb ((by decide)))
        refine ab_iload_n X 5 d_MO_tries_274 rfl rfl ?_
        refine ab_bipush (v := 24) X d_MO_tries_275 (by decide) ?_
        refine ab_icmp_ne X 304 d_MO_tries_277 rfl (fun _ => ?_) (fun hb => absurd hb ((by decide)))
        refine ab_iload_n X 2 d_MO_tries_304 rfl rfl ?_
        refine ab_bipush (v := 6) X d_MO_tries_305 (by decide) ?_
        refine ab_icmp_ne X 319 d_MO_tries_307 rfl (fun h307 => ?_) (fun h307 => ?_)
        ·
          have hk6 : ¬ kd p1 = 6 := fun z => h307 (by rw [z]; rfl)
          refine ab_lv (List.forall_mem_cons.mpr ⟨List.mem_of_getElem? (i := 3) rfl, List.forall_mem_cons.mpr ⟨List.mem_of_getElem? (i := 4) rfl, fun _ h => absurd h List.not_mem_nil⟩⟩) ?_
          first | exact yes _ P31 (by unfold app; omega) (by rw [tvL_18]; exact a228) (by rw [tvG_18]; exact b228) | exact no _ P31 (by unfold app; omega) t31
        ·
          have hk6 : kd p1 = 6 := (nI_eq (b := 6) (by omega) (by omega)).mp h307
          refine ab_aload_n X 3 d_MO_tries_310 rfl rfl ?_
          refine ab_iload X 1 d_MO_tries_311 rfl ?_
          refine ab_iload X 0 d_MO_tries_313 rfl ?_
          refine ab_iload_n X 5 d_MO_tries_315 rfl rfl ?_
          refine ab_callV (as := [ab_I _, ab_I _, ab_I (nI 18)]) X (fun h => by cases h) (t_MO_triesOr18 u31 _ _) lk_MO_218 d_MO_tries_316 rfl rfl (by first | assumption | decide | (show _ < 124; omega) | (show _ < 61; omega) | (show _ < 20; omega)) ⟨by first | exact Nat.le_of_ble_eq_true rfl | (simp only [ab_rm]; omega), by first | exact Nat.le_of_ble_eq_true rfl | (simp only [ab_rm]; omega)⟩ ⟨by first | exact Nat.le_of_ble_eq_true rfl | (simp only [ab_rm]; omega), by first | exact Nat.le_of_ble_eq_true rfl | (simp only [ab_rm]; omega)⟩ (Nat.le_of_ble_eq_true rfl) (fun u316 r316 h316 => ?_)
          obtain ⟨e316, rfl⟩ := h316
          subst u316
          refine ab_lv (List.forall_mem_cons.mpr ⟨List.mem_of_getElem? (i := 3) rfl, List.forall_mem_cons.mpr ⟨List.mem_of_getElem? (i := 4) rfl, fun _ h => absurd h List.not_mem_nil⟩⟩) ?_
          first | exact yes _ P31 (by unfold app; omega) (by rw [tvL_18]; exact a228) (by rw [tvG_18]; exact b228) | exact no _ P31 (by unfold app; omega) t31
      ·
        have hac : ar p1 = cn p1 := (nI_eq (by omega) (by omega)).mp h223
        refine ab_aload_n X 3 d_MO_tries_226 rfl rfl ?_
        refine ab_iload_n X 4 d_MO_tries_227 rfl rfl ?_
        refine ab_callV (as := [ab_I (nI p1)]) X (fun h => by cases h) (x_MO_allOf u31 P kd ar cn lf ch Y R W hB T31 p1 P31.1 hp hk7 L31) lk_MO_211 d_MO_tries_228 rfl rfl (by first | assumption | decide | (show _ < 124; omega) | (show _ < 61; omega) | (show _ < 20; omega)) ⟨by first | exact Nat.le_of_ble_eq_true rfl | (simp only [ab_rm]; omega), by first | exact Nat.le_of_ble_eq_true rfl | (simp only [ab_rm]; omega)⟩ ⟨by first | exact Nat.le_of_ble_eq_true rfl | (simp only [ab_rm]; omega), by first | exact Nat.le_of_ble_eq_true rfl | (simp only [ab_rm]; omega)⟩ (Nat.le_of_ble_eq_true rfl) (fun u228 r228 h228 => ?_)
        obtain ⟨⟨q228, a228, b228⟩, rfl⟩ := h228
        have P228 := P31.trans q228 (by decide)
        refine ab_iload_n X 5 d_MO_tries_231 rfl rfl ?_
        refine ab_bipush (v := 7) X d_MO_tries_232 (by decide) ?_
        refine ab_icmp_ne X 248 d_MO_tries_234 rfl (fun _ => ?_) (fun hb => absurd hb ((by decide)))
        refine ab_iload_n X 5 d_MO_tries_248 rfl rfl ?_
        refine ab_bipush (v := 21) X d_MO_tries_249 (by decide) ?_
        refine ab_icmp_ne X 274 d_MO_tries_251 rfl (fun _ => ?_) (fun hb => absurd hb ((by decide)))
        refine ab_iload_n X 5 d_MO_tries_274 rfl rfl ?_
        refine ab_bipush (v := 24) X d_MO_tries_275 (by decide) ?_
        refine ab_icmp_ne X 304 d_MO_tries_277 rfl (fun _ => ?_) (fun hb => absurd hb ((by decide)))
        refine ab_iload_n X 2 d_MO_tries_304 rfl rfl ?_
        refine ab_bipush (v := 6) X d_MO_tries_305 (by decide) ?_
        refine ab_icmp_ne X 319 d_MO_tries_307 rfl (fun h307 => ?_) (fun h307 => ?_)
        ·
          have hk6 : ¬ kd p1 = 6 := fun z => h307 (by rw [z]; rfl)
          refine ab_lv (List.forall_mem_cons.mpr ⟨List.mem_of_getElem? (i := 3) rfl, List.forall_mem_cons.mpr ⟨List.mem_of_getElem? (i := 4) rfl, fun _ h => absurd h List.not_mem_nil⟩⟩) ?_
          first | exact yes _ P228 (by unfold app; omega) (by rw [tvL_18]; exact a228) (by rw [tvG_18]; exact b228) | exact no _ P228 (by unfold app; omega) t31
        ·
          have hk6 : kd p1 = 6 := (nI_eq (b := 6) (by omega) (by omega)).mp h307
          refine ab_aload_n X 3 d_MO_tries_310 rfl rfl ?_
          refine ab_iload X 1 d_MO_tries_311 rfl ?_
          refine ab_iload X 0 d_MO_tries_313 rfl ?_
          refine ab_iload_n X 5 d_MO_tries_315 rfl rfl ?_
          refine ab_callV (as := [ab_I _, ab_I _, ab_I (nI 18)]) X (fun h => by cases h) (t_MO_triesOr18 u228 _ _) lk_MO_218 d_MO_tries_316 rfl rfl (by first | assumption | decide | (show _ < 124; omega) | (show _ < 61; omega) | (show _ < 20; omega)) ⟨by first | exact Nat.le_of_ble_eq_true rfl | (simp only [ab_rm]; omega), by first | exact Nat.le_of_ble_eq_true rfl | (simp only [ab_rm]; omega)⟩ ⟨by first | exact Nat.le_of_ble_eq_true rfl | (simp only [ab_rm]; omega), by first | exact Nat.le_of_ble_eq_true rfl | (simp only [ab_rm]; omega)⟩ (Nat.le_of_ble_eq_true rfl) (fun u316 r316 h316 => ?_)
          obtain ⟨e316, rfl⟩ := h316
          subst u316
          refine ab_lv (List.forall_mem_cons.mpr ⟨List.mem_of_getElem? (i := 3) rfl, List.forall_mem_cons.mpr ⟨List.mem_of_getElem? (i := 4) rfl, fun _ h => absurd h List.not_mem_nil⟩⟩) ?_
          first | exact yes _ P228 (by unfold app; omega) (by rw [tvL_18]; exact a228) (by rw [tvG_18]; exact b228) | exact no _ P228 (by unfold app; omega) t31
  ·
    refine ab_aload_n X 0 d_MO_tries_0 rfl rfl ?_
    refine ab_gR X fl_MO_33 d_MO_tries_1 (by first | assumption | decide | (show _ < 124; omega) | (show _ < 61; omega) | (show _ < 20; omega)) (P0.1.mo7) ?_
    refine ab_iload_n X 1 d_MO_tries_4 rfl rfl ?_
    refine ab_iald X (p1) ⟨rfl, rfl⟩ d_MO_tries_5 (by first | assumption | decide | (show _ < 124; omega) | (show _ < 61; omega) | (show _ < 20; omega)) (rfl) (show p1 < 40 by omega) (ab_ln_lt _ _) ?_
    refine ab_top ek ?_
    refine ab_istore_n3 X 0 1 2 d_MO_tries_6 rfl (by decide) rfl rfl rfl rfl rfl rfl ?_
    refine ab_aload_n X 1 d_MO_tries_7 rfl rfl ?_
    refine ab_gR X fl_MO_42 d_MO_tries_8 (by first | assumption | decide | (show _ < 124; omega) | (show _ < 61; omega) | (show _ < 20; omega)) (P0.1.mo10) ?_
    refine ab_iconst (v := 4) X d_MO_tries_11 (by decide) ?_
    refine ab_iload_n X 2 d_MO_tries_12 rfl rfl ?_
    refine ab_imul X d_MO_tries_13 ?_
    refine ab_iald X (4 * p1) ⟨rfl, rfl⟩ d_MO_tries_14 (by first | assumption | decide | (show _ < 124; omega) | (show _ < 61; omega) | (show _ < 20; omega)) (nI_4m p1) (show 4 * p1 < 160 by omega) (ab_ln_lt _ _) ?_
    refine ab_istore4 X 0 1 2 3 d_MO_tries_15 (by decide) rfl rfl rfl rfl rfl rfl rfl rfl ?_
    refine ab_aload_n X 2 d_MO_tries_17 rfl rfl ?_
    refine ab_gR X fl_MO_42 d_MO_tries_18 (by first | assumption | decide | (show _ < 124; omega) | (show _ < 61; omega) | (show _ < 20; omega)) (P0.1.mo10) ?_
    refine ab_iconst (v := 4) X d_MO_tries_21 (by decide) ?_
    refine ab_iload_n X 3 d_MO_tries_22 rfl rfl ?_
    refine ab_imul X d_MO_tries_23 ?_
    refine ab_iconst (v := 1) X d_MO_tries_24 (by decide) ?_
    refine ab_iadd X d_MO_tries_25 ?_
    refine ab_iald X (4 * p1 + 1) ⟨rfl, rfl⟩ d_MO_tries_26 (by first | assumption | decide | (show _ < 124; omega) | (show _ < 61; omega) | (show _ < 20; omega)) (nI_4b p1) (show 4 * p1 + 1 < 160 by omega) (ab_ln_lt _ _) ?_
    refine ab_istore5 X 0 1 2 3 4 d_MO_tries_27 (by decide) rfl rfl rfl rfl rfl rfl rfl rfl rfl rfl ?_
    refine ab_aload_n X 3 d_MO_tries_29 rfl rfl ?_
    refine ab_iconst (v := 0) X d_MO_tries_30 (by decide) ?_
    refine ab_putI X fp_MO_66 d_MO_tries_31 (by first | assumption | decide | (show _ < 124; omega) | (show _ < 61; omega) | (show _ < 20; omega)) rfl rfl ?_
    refine ab_gen (fun u31 e31 => ?_)
    have P31 : gP [18, 19] u u31 := by rw [e31]; exact P0.ui rfl (by decide)
    have t31 : u31.1 17 0 18 = 0 := by rw [e31]; simp [ab_up]
    have L31 : ∀ c, p1 < c → c < P → m3 Y R u31 c := fun c a b => (hl c a b).fr P31 (by decide) (by decide) (by decide)
    have T31 := T.fr P31 (by decide) (by decide) (by decide) (by decide) (by decide)
    refine ab_iload_n X 5 d_MO_tries_34 rfl rfl ?_
    refine ab_iconst (v := 1) X d_MO_tries_35 (by decide) ?_
    refine ab_icmp_ne X 51 d_MO_tries_36 rfl (fun _ => ?_) (fun hb => absurd hb ((by decide)))
    refine ab_iload_n X 5 d_MO_tries_51 rfl rfl ?_
    refine ab_iconst (v := 2) X d_MO_tries_52 (by decide) ?_
    refine ab_icmp_ne X 76 d_MO_tries_53 rfl (fun _ => ?_) (fun hb => absurd hb ((by decide)))
    refine ab_iload_n X 5 d_MO_tries_76 rfl rfl ?_
    refine ab_bipush (v := 8) X d_MO_tries_77 (by decide) ?_
    refine ab_icmp_ne X 108 d_MO_tries_79 rfl (fun _ => ?_) (fun hb => absurd hb ((by decide)))
    refine ab_iload_n X 5 d_MO_tries_108 rfl rfl ?_
    refine ab_bipush (v := 11) X d_MO_tries_109 (by decide) ?_
    refine ab_icmp_ne X 125 d_MO_tries_111 rfl (fun _ => ?_) (fun hb => absurd hb ((by decide)))
    refine ab_iload_n X 5 d_MO_tries_125 rfl rfl ?_
    refine ab_bipush (v := 12) X d_MO_tries_126 (by decide) ?_
    refine ab_icmp_ne X 147 d_MO_tries_128 rfl (fun _ => ?_) (fun hb => absurd hb ((by decide)))
    refine ab_iload_n X 5 d_MO_tries_147 rfl rfl ?_
    refine ab_bipush (v := 13) X d_MO_tries_148 (by decide) ?_
    refine ab_icmp_ne X 173 d_MO_tries_150 rfl (fun _ => ?_) (fun hb => absurd hb ((by decide)))
    refine ab_iload_n X 5 d_MO_tries_173 rfl rfl ?_
    refine ab_bipush (v := 14) X d_MO_tries_174 (by decide) ?_
    refine ab_icmp_ne X 199 d_MO_tries_176 rfl (fun _ => ?_) (fun hb => absurd hb ((by decide)))
    refine ab_iload_n X 5 d_MO_tries_199 rfl rfl ?_
    refine ab_bipush (v := 18) X d_MO_tries_200 (by decide) ?_
    refine ab_icmp_ne X 231 d_MO_tries_202 rfl (fun _ => ?_) (fun hb => absurd hb ((by decide)))
    refine ab_iload_n X 5 d_MO_tries_231 rfl rfl ?_
    refine ab_bipush (v := 7) X d_MO_tries_232 (by decide) ?_
    refine ab_icmp_ne X 248 d_MO_tries_234 rfl (fun _ => ?_) (fun hb => absurd hb ((by decide)))
    refine ab_iload_n X 5 d_MO_tries_248 rfl rfl ?_
    refine ab_bipush (v := 21) X d_MO_tries_249 (by decide) ?_
    refine ab_icmp_ne X 274 d_MO_tries_251 rfl (fun hb => absurd ((by decide)) hb) (fun _ => ?_)
    refine ab_iload_n X 2 d_MO_tries_254 rfl rfl ?_
    refine ab_iconst (v := 5) X d_MO_tries_255 (by decide) ?_
    refine ab_icmp_ne X 274 d_MO_tries_256 rfl (fun h256 => ?_) (fun h256 => ?_)
    ·
      have hk5 : ¬ kd p1 = 5 := fun z => h256 (by rw [z]; rfl)
      refine ab_iload_n X 5 d_MO_tries_274 rfl rfl ?_
      refine ab_bipush (v := 24) X d_MO_tries_275 (by decide) ?_
      refine ab_icmp_ne X 304 d_MO_tries_277 rfl (fun _ => ?_) (fun hb => absurd hb ((by decide)))
      refine ab_iload_n X 2 d_MO_tries_304 rfl rfl ?_
      refine ab_bipush (v := 6) X d_MO_tries_305 (by decide) ?_
      refine ab_icmp_ne X 319 d_MO_tries_307 rfl (fun h307 => ?_) (fun h307 => ?_)
      ·
        have hk6 : ¬ kd p1 = 6 := fun z => h307 (by rw [z]; rfl)
        refine ab_lv (List.forall_mem_cons.mpr ⟨List.mem_of_getElem? (i := 3) rfl, List.forall_mem_cons.mpr ⟨List.mem_of_getElem? (i := 4) rfl, fun _ h => absurd h List.not_mem_nil⟩⟩) ?_
        first | exact yes _ P31 (by unfold app; omega) (by rw [tvL_21]; exact a271) (by rw [tvG_21]; exact b271) | exact no _ P31 (by unfold app; omega) t31
      ·
        have hk6 : kd p1 = 6 := (nI_eq (b := 6) (by omega) (by omega)).mp h307
        refine ab_aload_n X 3 d_MO_tries_310 rfl rfl ?_
        refine ab_iload X 1 d_MO_tries_311 rfl ?_
        refine ab_iload X 0 d_MO_tries_313 rfl ?_
        refine ab_iload_n X 5 d_MO_tries_315 rfl rfl ?_
        refine ab_callV (as := [ab_I _, ab_I _, ab_I (nI 21)]) X (fun h => by cases h) (t_MO_triesOr21 u31 _ _) lk_MO_218 d_MO_tries_316 rfl rfl (by first | assumption | decide | (show _ < 124; omega) | (show _ < 61; omega) | (show _ < 20; omega)) ⟨by first | exact Nat.le_of_ble_eq_true rfl | (simp only [ab_rm]; omega), by first | exact Nat.le_of_ble_eq_true rfl | (simp only [ab_rm]; omega)⟩ ⟨by first | exact Nat.le_of_ble_eq_true rfl | (simp only [ab_rm]; omega), by first | exact Nat.le_of_ble_eq_true rfl | (simp only [ab_rm]; omega)⟩ (Nat.le_of_ble_eq_true rfl) (fun u316 r316 h316 => ?_)
        obtain ⟨e316, rfl⟩ := h316
        subst u316
        refine ab_lv (List.forall_mem_cons.mpr ⟨List.mem_of_getElem? (i := 3) rfl, List.forall_mem_cons.mpr ⟨List.mem_of_getElem? (i := 4) rfl, fun _ h => absurd h List.not_mem_nil⟩⟩) ?_
        first | exact yes _ P31 (by unfold app; omega) (by rw [tvL_21]; exact a271) (by rw [tvG_21]; exact b271) | exact no _ P31 (by unfold app; omega) t31
    ·
      have hk5 : kd p1 = 5 := (nI_eq (b := 5) (by omega) (by omega)).mp h256
      obtain ⟨x, y, ex, ey, x1, x2, y1, y2, -, -, -, hx, hy⟩ := W.two T hp (Or.inl hk5)
      rw [ex, ey]
      subst hx hy
      refine ab_aload_n X 3 d_MO_tries_259 rfl rfl ?_
      refine ab_iload X 1 d_MO_tries_260 rfl ?_
      refine ab_callS (as := [ab_I (nI (ch p1 0))]) X (fun h => by cases h) (t_MO_v u31 (ch p1 0)) ls_MO_201 d_MO_tries_262 rfl rfl ⟨by first | exact Nat.le_of_ble_eq_true rfl | (simp only [ab_rm]; omega), by first | exact Nat.le_of_ble_eq_true rfl | (simp only [ab_rm]; omega)⟩ ⟨by first | exact Nat.le_of_ble_eq_true rfl | (simp only [ab_rm]; omega), by first | exact Nat.le_of_ble_eq_true rfl | (simp only [ab_rm]; omega)⟩ (Nat.le_of_ble_eq_true rfl) (fun u262 r262 h262 => ?_)
      obtain ⟨e262, rfl⟩ := h262
      subst u262
      refine ab_iload X 0 d_MO_tries_265 rfl ?_
      refine ab_callS (as := [ab_I (nI (ch p1 1))]) X (fun h => by cases h) (t_MO_v u31 (ch p1 1)) ls_MO_201 d_MO_tries_267 rfl rfl ⟨by first | exact Nat.le_of_ble_eq_true rfl | (simp only [ab_rm]; omega), by first | exact Nat.le_of_ble_eq_true rfl | (simp only [ab_rm]; omega)⟩ ⟨by first | exact Nat.le_of_ble_eq_true rfl | (simp only [ab_rm]; omega), by first | exact Nat.le_of_ble_eq_true rfl | (simp only [ab_rm]; omega)⟩ (Nat.le_of_ble_eq_true rfl) (fun u267 r267 h267 => ?_)
      obtain ⟨e267, rfl⟩ := h267
      subst u267
      refine ab_iconst (v := 0) X d_MO_tries_270 (by decide) ?_
      refine ab_callV (as := [ab_I (nI (3 * ch p1 0 + 2)), ab_I (nI (3 * ch p1 1 + 2)), ab_I (nI 0)]) X (fun h => by cases h) (x_MO_both u31 (3 * ch p1 0 + 2) (3 * ch p1 1 + 2) 0 _ _ _ _ P31.1 (by omega) (by omega) (L31 _ x1 x2).1.2.2 (L31 _ y1 y2).1.2.2) lk_MO_207 d_MO_tries_271 rfl rfl (by first | assumption | decide | (show _ < 124; omega) | (show _ < 61; omega) | (show _ < 20; omega)) ⟨by first | exact Nat.le_of_ble_eq_true rfl | (simp only [ab_rm]; omega), by first | exact Nat.le_of_ble_eq_true rfl | (simp only [ab_rm]; omega)⟩ ⟨by first | exact Nat.le_of_ble_eq_true rfl | (simp only [ab_rm]; omega), by first | exact Nat.le_of_ble_eq_true rfl | (simp only [ab_rm]; omega)⟩ (Nat.le_of_ble_eq_true rfl) (fun u271 r271 h271 => ?_)
      obtain ⟨⟨q271, a271, b271⟩, rfl⟩ := h271
      have P271 := P31.trans q271 (by decide)
      refine ab_iload_n X 5 d_MO_tries_274 rfl rfl ?_
      refine ab_bipush (v := 24) X d_MO_tries_275 (by decide) ?_
      refine ab_icmp_ne X 304 d_MO_tries_277 rfl (fun _ => ?_) (fun hb => absurd hb ((by decide)))
      refine ab_iload_n X 2 d_MO_tries_304 rfl rfl ?_
      refine ab_bipush (v := 6) X d_MO_tries_305 (by decide) ?_
      refine ab_icmp_ne X 319 d_MO_tries_307 rfl (fun h307 => ?_) (fun h307 => ?_)
      ·
        have hk6 : ¬ kd p1 = 6 := fun z => h307 (by rw [z]; rfl)
        refine ab_lv (List.forall_mem_cons.mpr ⟨List.mem_of_getElem? (i := 3) rfl, List.forall_mem_cons.mpr ⟨List.mem_of_getElem? (i := 4) rfl, fun _ h => absurd h List.not_mem_nil⟩⟩) ?_
        first | exact yes _ P271 (by unfold app; omega) (by rw [tvL_21]; exact a271) (by rw [tvG_21]; exact b271) | exact no _ P271 (by unfold app; omega) t31
      ·
        have hk6 : kd p1 = 6 := (nI_eq (b := 6) (by omega) (by omega)).mp h307
        refine ab_aload_n X 3 d_MO_tries_310 rfl rfl ?_
        refine ab_iload X 1 d_MO_tries_311 rfl ?_
        refine ab_iload X 0 d_MO_tries_313 rfl ?_
        refine ab_iload_n X 5 d_MO_tries_315 rfl rfl ?_
        refine ab_callV (as := [ab_I _, ab_I _, ab_I (nI 21)]) X (fun h => by cases h) (t_MO_triesOr21 u271 _ _) lk_MO_218 d_MO_tries_316 rfl rfl (by first | assumption | decide | (show _ < 124; omega) | (show _ < 61; omega) | (show _ < 20; omega)) ⟨by first | exact Nat.le_of_ble_eq_true rfl | (simp only [ab_rm]; omega), by first | exact Nat.le_of_ble_eq_true rfl | (simp only [ab_rm]; omega)⟩ ⟨by first | exact Nat.le_of_ble_eq_true rfl | (simp only [ab_rm]; omega), by first | exact Nat.le_of_ble_eq_true rfl | (simp only [ab_rm]; omega)⟩ (Nat.le_of_ble_eq_true rfl) (fun u316 r316 h316 => ?_)
        obtain ⟨e316, rfl⟩ := h316
        subst u316
        refine ab_lv (List.forall_mem_cons.mpr ⟨List.mem_of_getElem? (i := 3) rfl, List.forall_mem_cons.mpr ⟨List.mem_of_getElem? (i := 4) rfl, fun _ h => absurd h List.not_mem_nil⟩⟩) ?_
        first | exact yes _ P271 (by unfold app; omega) (by rw [tvL_21]; exact a271) (by rw [tvG_21]; exact b271) | exact no _ P271 (by unfold app; omega) t31
  ·
    refine ab_aload_n X 0 d_MO_tries_0 rfl rfl ?_
    refine ab_gR X fl_MO_33 d_MO_tries_1 (by first | assumption | decide | (show _ < 124; omega) | (show _ < 61; omega) | (show _ < 20; omega)) (P0.1.mo7) ?_
    refine ab_iload_n X 1 d_MO_tries_4 rfl rfl ?_
    refine ab_iald X (p1) ⟨rfl, rfl⟩ d_MO_tries_5 (by first | assumption | decide | (show _ < 124; omega) | (show _ < 61; omega) | (show _ < 20; omega)) (rfl) (show p1 < 40 by omega) (ab_ln_lt _ _) ?_
    refine ab_top ek ?_
    refine ab_istore_n3 X 0 1 2 d_MO_tries_6 rfl (by decide) rfl rfl rfl rfl rfl rfl ?_
    refine ab_aload_n X 1 d_MO_tries_7 rfl rfl ?_
    refine ab_gR X fl_MO_42 d_MO_tries_8 (by first | assumption | decide | (show _ < 124; omega) | (show _ < 61; omega) | (show _ < 20; omega)) (P0.1.mo10) ?_
    refine ab_iconst (v := 4) X d_MO_tries_11 (by decide) ?_
    refine ab_iload_n X 2 d_MO_tries_12 rfl rfl ?_
    refine ab_imul X d_MO_tries_13 ?_
    refine ab_iald X (4 * p1) ⟨rfl, rfl⟩ d_MO_tries_14 (by first | assumption | decide | (show _ < 124; omega) | (show _ < 61; omega) | (show _ < 20; omega)) (nI_4m p1) (show 4 * p1 < 160 by omega) (ab_ln_lt _ _) ?_
    refine ab_istore4 X 0 1 2 3 d_MO_tries_15 (by decide) rfl rfl rfl rfl rfl rfl rfl rfl ?_
    refine ab_aload_n X 2 d_MO_tries_17 rfl rfl ?_
    refine ab_gR X fl_MO_42 d_MO_tries_18 (by first | assumption | decide | (show _ < 124; omega) | (show _ < 61; omega) | (show _ < 20; omega)) (P0.1.mo10) ?_
    refine ab_iconst (v := 4) X d_MO_tries_21 (by decide) ?_
    refine ab_iload_n X 3 d_MO_tries_22 rfl rfl ?_
    refine ab_imul X d_MO_tries_23 ?_
    refine ab_iconst (v := 1) X d_MO_tries_24 (by decide) ?_
    refine ab_iadd X d_MO_tries_25 ?_
    refine ab_iald X (4 * p1 + 1) ⟨rfl, rfl⟩ d_MO_tries_26 (by first | assumption | decide | (show _ < 124; omega) | (show _ < 61; omega) | (show _ < 20; omega)) (nI_4b p1) (show 4 * p1 + 1 < 160 by omega) (ab_ln_lt _ _) ?_
    refine ab_istore5 X 0 1 2 3 4 d_MO_tries_27 (by decide) rfl rfl rfl rfl rfl rfl rfl rfl rfl rfl ?_
    refine ab_aload_n X 3 d_MO_tries_29 rfl rfl ?_
    refine ab_iconst (v := 0) X d_MO_tries_30 (by decide) ?_
    refine ab_putI X fp_MO_66 d_MO_tries_31 (by first | assumption | decide | (show _ < 124; omega) | (show _ < 61; omega) | (show _ < 20; omega)) rfl rfl ?_
    refine ab_gen (fun u31 e31 => ?_)
    have P31 : gP [18, 19] u u31 := by rw [e31]; exact P0.ui rfl (by decide)
    have t31 : u31.1 17 0 18 = 0 := by rw [e31]; simp [ab_up]
    have L31 : ∀ c, p1 < c → c < P → m3 Y R u31 c := fun c a b => (hl c a b).fr P31 (by decide) (by decide) (by decide)
    have T31 := T.fr P31 (by decide) (by decide) (by decide) (by decide) (by decide)
    refine ab_iload_n X 5 d_MO_tries_34 rfl rfl ?_
    refine ab_iconst (v := 1) X d_MO_tries_35 (by decide) ?_
    refine ab_icmp_ne X 51 d_MO_tries_36 rfl (fun _ => ?_) (fun hb => absurd hb ((by decide)))
    refine ab_iload_n X 5 d_MO_tries_51 rfl rfl ?_
    refine ab_iconst (v := 2) X d_MO_tries_52 (by decide) ?_
    refine ab_icmp_ne X 76 d_MO_tries_53 rfl (fun _ => ?_) (fun hb => absurd hb ((by decide)))
    refine ab_iload_n X 5 d_MO_tries_76 rfl rfl ?_
    refine ab_bipush (v := 8) X d_MO_tries_77 (by decide) ?_
    refine ab_icmp_ne X 108 d_MO_tries_79 rfl (fun _ => ?_) (fun hb => absurd hb ((by decide)))
    refine ab_iload_n X 5 d_MO_tries_108 rfl rfl ?_
    refine ab_bipush (v := 11) X d_MO_tries_109 (by decide) ?_
    refine ab_icmp_ne X 125 d_MO_tries_111 rfl (fun _ => ?_) (fun hb => absurd hb ((by decide)))
    refine ab_iload_n X 5 d_MO_tries_125 rfl rfl ?_
    refine ab_bipush (v := 12) X d_MO_tries_126 (by decide) ?_
    refine ab_icmp_ne X 147 d_MO_tries_128 rfl (fun _ => ?_) (fun hb => absurd hb ((by decide)))
    refine ab_iload_n X 5 d_MO_tries_147 rfl rfl ?_
    refine ab_bipush (v := 13) X d_MO_tries_148 (by decide) ?_
    refine ab_icmp_ne X 173 d_MO_tries_150 rfl (fun _ => ?_) (fun hb => absurd hb ((by decide)))
    refine ab_iload_n X 5 d_MO_tries_173 rfl rfl ?_
    refine ab_bipush (v := 14) X d_MO_tries_174 (by decide) ?_
    refine ab_icmp_ne X 199 d_MO_tries_176 rfl (fun _ => ?_) (fun hb => absurd hb ((by decide)))
    refine ab_iload_n X 5 d_MO_tries_199 rfl rfl ?_
    refine ab_bipush (v := 18) X d_MO_tries_200 (by decide) ?_
    refine ab_icmp_ne X 231 d_MO_tries_202 rfl (fun _ => ?_) (fun hb => absurd hb ((by decide)))
    refine ab_iload_n X 5 d_MO_tries_231 rfl rfl ?_
    refine ab_bipush (v := 7) X d_MO_tries_232 (by decide) ?_
    refine ab_icmp_ne X 248 d_MO_tries_234 rfl (fun _ => ?_) (fun hb => absurd hb ((by decide)))
    refine ab_iload_n X 5 d_MO_tries_248 rfl rfl ?_
    refine ab_bipush (v := 21) X d_MO_tries_249 (by decide) ?_
    refine ab_icmp_ne X 274 d_MO_tries_251 rfl (fun _ => ?_) (fun hb => absurd hb ((by decide)))
    refine ab_iload_n X 5 d_MO_tries_274 rfl rfl ?_
    refine ab_bipush (v := 24) X d_MO_tries_275 (by decide) ?_
    refine ab_icmp_ne X 304 d_MO_tries_277 rfl (fun _ => ?_) (fun hb => absurd hb ((by decide)))
    refine ab_iload_n X 2 d_MO_tries_304 rfl rfl ?_
    refine ab_bipush (v := 6) X d_MO_tries_305 (by decide) ?_
    refine ab_icmp_ne X 319 d_MO_tries_307 rfl (fun h307 => ?_) (fun h307 => ?_)
    ·
      have hk6 : ¬ kd p1 = 6 := fun z => h307 (by rw [z]; rfl)
      refine ab_lv (List.forall_mem_cons.mpr ⟨List.mem_of_getElem? (i := 3) rfl, List.forall_mem_cons.mpr ⟨List.mem_of_getElem? (i := 4) rfl, fun _ h => absurd h List.not_mem_nil⟩⟩) ?_
      first | exact yes _ P31 (by unfold app; omega) (by rw [tvL_22]; exact a316) (by rw [tvG_22]; exact b316) | exact no _ P31 (by unfold app; omega) t31
    ·
      have hk6 : kd p1 = 6 := (nI_eq (b := 6) (by omega) (by omega)).mp h307
      obtain ⟨x, y, ex, ey, x1, x2, y1, y2, -, -, -, hx, hy⟩ := W.two T hp (Or.inr hk6)
      rw [ex, ey]
      subst hx hy
      refine ab_aload_n X 3 d_MO_tries_310 rfl rfl ?_
      refine ab_iload X 1 d_MO_tries_311 rfl ?_
      refine ab_iload X 0 d_MO_tries_313 rfl ?_
      refine ab_iload_n X 5 d_MO_tries_315 rfl rfl ?_
      refine ab_callV (as := [ab_I (nI (ch p1 0)), ab_I (nI (ch p1 1)), ab_I (nI 22)]) X (fun h => by cases h) (x_MO_triesOr22 u31 (ch p1 0) (ch p1 1) Y R P31.1 (by omega) (by omega) (L31 _ x1 x2) (L31 _ y1 y2) (cbd _ x2) (cbd _ y2)) lk_MO_218 d_MO_tries_316 rfl rfl (by first | assumption | decide | (show _ < 124; omega) | (show _ < 61; omega) | (show _ < 20; omega)) ⟨by first | exact Nat.le_of_ble_eq_true rfl | (simp only [ab_rm]; omega), by first | exact Nat.le_of_ble_eq_true rfl | (simp only [ab_rm]; omega)⟩ ⟨by first | exact Nat.le_of_ble_eq_true rfl | (simp only [ab_rm]; omega), by first | exact Nat.le_of_ble_eq_true rfl | (simp only [ab_rm]; omega)⟩ (Nat.le_of_ble_eq_true rfl) (fun u316 r316 h316 => ?_)
      obtain ⟨⟨q316, a316, b316⟩, rfl⟩ := h316
      have P316 := P31.trans q316 (by decide)
      refine ab_lv (List.forall_mem_cons.mpr ⟨List.mem_of_getElem? (i := 3) rfl, List.forall_mem_cons.mpr ⟨List.mem_of_getElem? (i := 4) rfl, fun _ h => absurd h List.not_mem_nil⟩⟩) ?_
      first | exact yes _ P316 (by unfold app; omega) (by rw [tvL_22]; exact a316) (by rw [tvG_22]; exact b316) | exact no _ P316 (by unfold app; omega) t31
  ·
    refine ab_aload_n X 0 d_MO_tries_0 rfl rfl ?_
    refine ab_gR X fl_MO_33 d_MO_tries_1 (by first | assumption | decide | (show _ < 124; omega) | (show _ < 61; omega) | (show _ < 20; omega)) (P0.1.mo7) ?_
    refine ab_iload_n X 1 d_MO_tries_4 rfl rfl ?_
    refine ab_iald X (p1) ⟨rfl, rfl⟩ d_MO_tries_5 (by first | assumption | decide | (show _ < 124; omega) | (show _ < 61; omega) | (show _ < 20; omega)) (rfl) (show p1 < 40 by omega) (ab_ln_lt _ _) ?_
    refine ab_top ek ?_
    refine ab_istore_n3 X 0 1 2 d_MO_tries_6 rfl (by decide) rfl rfl rfl rfl rfl rfl ?_
    refine ab_aload_n X 1 d_MO_tries_7 rfl rfl ?_
    refine ab_gR X fl_MO_42 d_MO_tries_8 (by first | assumption | decide | (show _ < 124; omega) | (show _ < 61; omega) | (show _ < 20; omega)) (P0.1.mo10) ?_
    refine ab_iconst (v := 4) X d_MO_tries_11 (by decide) ?_
    refine ab_iload_n X 2 d_MO_tries_12 rfl rfl ?_
    refine ab_imul X d_MO_tries_13 ?_
    refine ab_iald X (4 * p1) ⟨rfl, rfl⟩ d_MO_tries_14 (by first | assumption | decide | (show _ < 124; omega) | (show _ < 61; omega) | (show _ < 20; omega)) (nI_4m p1) (show 4 * p1 < 160 by omega) (ab_ln_lt _ _) ?_
    refine ab_istore4 X 0 1 2 3 d_MO_tries_15 (by decide) rfl rfl rfl rfl rfl rfl rfl rfl ?_
    refine ab_aload_n X 2 d_MO_tries_17 rfl rfl ?_
    refine ab_gR X fl_MO_42 d_MO_tries_18 (by first | assumption | decide | (show _ < 124; omega) | (show _ < 61; omega) | (show _ < 20; omega)) (P0.1.mo10) ?_
    refine ab_iconst (v := 4) X d_MO_tries_21 (by decide) ?_
    refine ab_iload_n X 3 d_MO_tries_22 rfl rfl ?_
    refine ab_imul X d_MO_tries_23 ?_
    refine ab_iconst (v := 1) X d_MO_tries_24 (by decide) ?_
    refine ab_iadd X d_MO_tries_25 ?_
    refine ab_iald X (4 * p1 + 1) ⟨rfl, rfl⟩ d_MO_tries_26 (by first | assumption | decide | (show _ < 124; omega) | (show _ < 61; omega) | (show _ < 20; omega)) (nI_4b p1) (show 4 * p1 + 1 < 160 by omega) (ab_ln_lt _ _) ?_
    refine ab_istore5 X 0 1 2 3 4 d_MO_tries_27 (by decide) rfl rfl rfl rfl rfl rfl rfl rfl rfl rfl ?_
    refine ab_aload_n X 3 d_MO_tries_29 rfl rfl ?_
    refine ab_iconst (v := 0) X d_MO_tries_30 (by decide) ?_
    refine ab_putI X fp_MO_66 d_MO_tries_31 (by first | assumption | decide | (show _ < 124; omega) | (show _ < 61; omega) | (show _ < 20; omega)) rfl rfl ?_
    refine ab_gen (fun u31 e31 => ?_)
    have P31 : gP [18, 19] u u31 := by rw [e31]; exact P0.ui rfl (by decide)
    have t31 : u31.1 17 0 18 = 0 := by rw [e31]; simp [ab_up]
    have L31 : ∀ c, p1 < c → c < P → m3 Y R u31 c := fun c a b => (hl c a b).fr P31 (by decide) (by decide) (by decide)
    have T31 := T.fr P31 (by decide) (by decide) (by decide) (by decide) (by decide)
    refine ab_iload_n X 5 d_MO_tries_34 rfl rfl ?_
    refine ab_iconst (v := 1) X d_MO_tries_35 (by decide) ?_
    refine ab_icmp_ne X 51 d_MO_tries_36 rfl (fun _ => ?_) (fun hb => absurd hb ((by decide)))
    refine ab_iload_n X 5 d_MO_tries_51 rfl rfl ?_
    refine ab_iconst (v := 2) X d_MO_tries_52 (by decide) ?_
    refine ab_icmp_ne X 76 d_MO_tries_53 rfl (fun _ => ?_) (fun hb => absurd hb ((by decide)))
    refine ab_iload_n X 5 d_MO_tries_76 rfl rfl ?_
    refine ab_bipush (v := 8) X d_MO_tries_77 (by decide) ?_
    refine ab_icmp_ne X 108 d_MO_tries_79 rfl (fun _ => ?_) (fun hb => absurd hb ((by decide)))
    refine ab_iload_n X 5 d_MO_tries_108 rfl rfl ?_
    refine ab_bipush (v := 11) X d_MO_tries_109 (by decide) ?_
    refine ab_icmp_ne X 125 d_MO_tries_111 rfl (fun _ => ?_) (fun hb => absurd hb ((by decide)))
    refine ab_iload_n X 5 d_MO_tries_125 rfl rfl ?_
    refine ab_bipush (v := 12) X d_MO_tries_126 (by decide) ?_
    refine ab_icmp_ne X 147 d_MO_tries_128 rfl (fun _ => ?_) (fun hb => absurd hb ((by decide)))
    refine ab_iload_n X 5 d_MO_tries_147 rfl rfl ?_
    refine ab_bipush (v := 13) X d_MO_tries_148 (by decide) ?_
    refine ab_icmp_ne X 173 d_MO_tries_150 rfl (fun _ => ?_) (fun hb => absurd hb ((by decide)))
    refine ab_iload_n X 5 d_MO_tries_173 rfl rfl ?_
    refine ab_bipush (v := 14) X d_MO_tries_174 (by decide) ?_
    refine ab_icmp_ne X 199 d_MO_tries_176 rfl (fun _ => ?_) (fun hb => absurd hb ((by decide)))
    refine ab_iload_n X 5 d_MO_tries_199 rfl rfl ?_
    refine ab_bipush (v := 18) X d_MO_tries_200 (by decide) ?_
    refine ab_icmp_ne X 231 d_MO_tries_202 rfl (fun _ => ?_) (fun hb => absurd hb ((by decide)))
    refine ab_iload_n X 5 d_MO_tries_231 rfl rfl ?_
    refine ab_bipush (v := 7) X d_MO_tries_232 (by decide) ?_
    refine ab_icmp_ne X 248 d_MO_tries_234 rfl (fun _ => ?_) (fun hb => absurd hb ((by decide)))
    refine ab_iload_n X 5 d_MO_tries_248 rfl rfl ?_
    refine ab_bipush (v := 21) X d_MO_tries_249 (by decide) ?_
    refine ab_icmp_ne X 274 d_MO_tries_251 rfl (fun _ => ?_) (fun hb => absurd hb ((by decide)))
    refine ab_iload_n X 5 d_MO_tries_274 rfl rfl ?_
    refine ab_bipush (v := 24) X d_MO_tries_275 (by decide) ?_
    refine ab_icmp_ne X 304 d_MO_tries_277 rfl (fun _ => ?_) (fun hb => absurd hb ((by decide)))
    refine ab_iload_n X 2 d_MO_tries_304 rfl rfl ?_
    refine ab_bipush (v := 6) X d_MO_tries_305 (by decide) ?_
    refine ab_icmp_ne X 319 d_MO_tries_307 rfl (fun h307 => ?_) (fun h307 => ?_)
    ·
      have hk6 : ¬ kd p1 = 6 := fun z => h307 (by rw [z]; rfl)
      refine ab_lv (List.forall_mem_cons.mpr ⟨List.mem_of_getElem? (i := 3) rfl, List.forall_mem_cons.mpr ⟨List.mem_of_getElem? (i := 4) rfl, fun _ h => absurd h List.not_mem_nil⟩⟩) ?_
      first | exact yes _ P31 (by unfold app; omega) (by rw [tvL_23]; exact a316) (by rw [tvG_23]; exact b316) | exact no _ P31 (by unfold app; omega) t31
    ·
      have hk6 : kd p1 = 6 := (nI_eq (b := 6) (by omega) (by omega)).mp h307
      obtain ⟨x, y, ex, ey, x1, x2, y1, y2, -, -, -, hx, hy⟩ := W.two T hp (Or.inr hk6)
      rw [ex, ey]
      subst hx hy
      refine ab_aload_n X 3 d_MO_tries_310 rfl rfl ?_
      refine ab_iload X 1 d_MO_tries_311 rfl ?_
      refine ab_iload X 0 d_MO_tries_313 rfl ?_
      refine ab_iload_n X 5 d_MO_tries_315 rfl rfl ?_
      refine ab_callV (as := [ab_I (nI (ch p1 0)), ab_I (nI (ch p1 1)), ab_I (nI 23)]) X (fun h => by cases h) (x_MO_triesOr23 u31 (ch p1 0) (ch p1 1) Y R P31.1 (by omega) (by omega) (L31 _ x1 x2) (L31 _ y1 y2) (cbd _ x2) (cbd _ y2)) lk_MO_218 d_MO_tries_316 rfl rfl (by first | assumption | decide | (show _ < 124; omega) | (show _ < 61; omega) | (show _ < 20; omega)) ⟨by first | exact Nat.le_of_ble_eq_true rfl | (simp only [ab_rm]; omega), by first | exact Nat.le_of_ble_eq_true rfl | (simp only [ab_rm]; omega)⟩ ⟨by first | exact Nat.le_of_ble_eq_true rfl | (simp only [ab_rm]; omega), by first | exact Nat.le_of_ble_eq_true rfl | (simp only [ab_rm]; omega)⟩ (Nat.le_of_ble_eq_true rfl) (fun u316 r316 h316 => ?_)
      obtain ⟨⟨q316, a316, b316⟩, rfl⟩ := h316
      have P316 := P31.trans q316 (by decide)
      refine ab_lv (List.forall_mem_cons.mpr ⟨List.mem_of_getElem? (i := 3) rfl, List.forall_mem_cons.mpr ⟨List.mem_of_getElem? (i := 4) rfl, fun _ h => absurd h List.not_mem_nil⟩⟩) ?_
      first | exact yes _ P316 (by unfold app; omega) (by rw [tvL_23]; exact a316) (by rw [tvG_23]; exact b316) | exact no _ P316 (by unfold app; omega) t31
  ·
    refine ab_aload_n X 0 d_MO_tries_0 rfl rfl ?_
    refine ab_gR X fl_MO_33 d_MO_tries_1 (by first | assumption | decide | (show _ < 124; omega) | (show _ < 61; omega) | (show _ < 20; omega)) (P0.1.mo7) ?_
    refine ab_iload_n X 1 d_MO_tries_4 rfl rfl ?_
    refine ab_iald X (p1) ⟨rfl, rfl⟩ d_MO_tries_5 (by first | assumption | decide | (show _ < 124; omega) | (show _ < 61; omega) | (show _ < 20; omega)) (rfl) (show p1 < 40 by omega) (ab_ln_lt _ _) ?_
    refine ab_top ek ?_
    refine ab_istore_n3 X 0 1 2 d_MO_tries_6 rfl (by decide) rfl rfl rfl rfl rfl rfl ?_
    refine ab_aload_n X 1 d_MO_tries_7 rfl rfl ?_
    refine ab_gR X fl_MO_42 d_MO_tries_8 (by first | assumption | decide | (show _ < 124; omega) | (show _ < 61; omega) | (show _ < 20; omega)) (P0.1.mo10) ?_
    refine ab_iconst (v := 4) X d_MO_tries_11 (by decide) ?_
    refine ab_iload_n X 2 d_MO_tries_12 rfl rfl ?_
    refine ab_imul X d_MO_tries_13 ?_
    refine ab_iald X (4 * p1) ⟨rfl, rfl⟩ d_MO_tries_14 (by first | assumption | decide | (show _ < 124; omega) | (show _ < 61; omega) | (show _ < 20; omega)) (nI_4m p1) (show 4 * p1 < 160 by omega) (ab_ln_lt _ _) ?_
    refine ab_istore4 X 0 1 2 3 d_MO_tries_15 (by decide) rfl rfl rfl rfl rfl rfl rfl rfl ?_
    refine ab_aload_n X 2 d_MO_tries_17 rfl rfl ?_
    refine ab_gR X fl_MO_42 d_MO_tries_18 (by first | assumption | decide | (show _ < 124; omega) | (show _ < 61; omega) | (show _ < 20; omega)) (P0.1.mo10) ?_
    refine ab_iconst (v := 4) X d_MO_tries_21 (by decide) ?_
    refine ab_iload_n X 3 d_MO_tries_22 rfl rfl ?_
    refine ab_imul X d_MO_tries_23 ?_
    refine ab_iconst (v := 1) X d_MO_tries_24 (by decide) ?_
    refine ab_iadd X d_MO_tries_25 ?_
    refine ab_iald X (4 * p1 + 1) ⟨rfl, rfl⟩ d_MO_tries_26 (by first | assumption | decide | (show _ < 124; omega) | (show _ < 61; omega) | (show _ < 20; omega)) (nI_4b p1) (show 4 * p1 + 1 < 160 by omega) (ab_ln_lt _ _) ?_
    refine ab_istore5 X 0 1 2 3 4 d_MO_tries_27 (by decide) rfl rfl rfl rfl rfl rfl rfl rfl rfl rfl ?_
    refine ab_aload_n X 3 d_MO_tries_29 rfl rfl ?_
    refine ab_iconst (v := 0) X d_MO_tries_30 (by decide) ?_
    refine ab_putI X fp_MO_66 d_MO_tries_31 (by first | assumption | decide | (show _ < 124; omega) | (show _ < 61; omega) | (show _ < 20; omega)) rfl rfl ?_
    refine ab_gen (fun u31 e31 => ?_)
    have P31 : gP [18, 19] u u31 := by rw [e31]; exact P0.ui rfl (by decide)
    have t31 : u31.1 17 0 18 = 0 := by rw [e31]; simp [ab_up]
    have L31 : ∀ c, p1 < c → c < P → m3 Y R u31 c := fun c a b => (hl c a b).fr P31 (by decide) (by decide) (by decide)
    have T31 := T.fr P31 (by decide) (by decide) (by decide) (by decide) (by decide)
    refine ab_iload_n X 5 d_MO_tries_34 rfl rfl ?_
    refine ab_iconst (v := 1) X d_MO_tries_35 (by decide) ?_
    refine ab_icmp_ne X 51 d_MO_tries_36 rfl (fun _ => ?_) (fun hb => absurd hb ((by decide)))
    refine ab_iload_n X 5 d_MO_tries_51 rfl rfl ?_
    refine ab_iconst (v := 2) X d_MO_tries_52 (by decide) ?_
    refine ab_icmp_ne X 76 d_MO_tries_53 rfl (fun _ => ?_) (fun hb => absurd hb ((by decide)))
    refine ab_iload_n X 5 d_MO_tries_76 rfl rfl ?_
    refine ab_bipush (v := 8) X d_MO_tries_77 (by decide) ?_
    refine ab_icmp_ne X 108 d_MO_tries_79 rfl (fun _ => ?_) (fun hb => absurd hb ((by decide)))
    refine ab_iload_n X 5 d_MO_tries_108 rfl rfl ?_
    refine ab_bipush (v := 11) X d_MO_tries_109 (by decide) ?_
    refine ab_icmp_ne X 125 d_MO_tries_111 rfl (fun _ => ?_) (fun hb => absurd hb ((by decide)))
    refine ab_iload_n X 5 d_MO_tries_125 rfl rfl ?_
    refine ab_bipush (v := 12) X d_MO_tries_126 (by decide) ?_
    refine ab_icmp_ne X 147 d_MO_tries_128 rfl (fun _ => ?_) (fun hb => absurd hb ((by decide)))
    refine ab_iload_n X 5 d_MO_tries_147 rfl rfl ?_
    refine ab_bipush (v := 13) X d_MO_tries_148 (by decide) ?_
    refine ab_icmp_ne X 173 d_MO_tries_150 rfl (fun _ => ?_) (fun hb => absurd hb ((by decide)))
    refine ab_iload_n X 5 d_MO_tries_173 rfl rfl ?_
    refine ab_bipush (v := 14) X d_MO_tries_174 (by decide) ?_
    refine ab_icmp_ne X 199 d_MO_tries_176 rfl (fun _ => ?_) (fun hb => absurd hb ((by decide)))
    refine ab_iload_n X 5 d_MO_tries_199 rfl rfl ?_
    refine ab_bipush (v := 18) X d_MO_tries_200 (by decide) ?_
    refine ab_icmp_ne X 231 d_MO_tries_202 rfl (fun _ => ?_) (fun hb => absurd hb ((by decide)))
    refine ab_iload_n X 5 d_MO_tries_231 rfl rfl ?_
    refine ab_bipush (v := 7) X d_MO_tries_232 (by decide) ?_
    refine ab_icmp_ne X 248 d_MO_tries_234 rfl (fun _ => ?_) (fun hb => absurd hb ((by decide)))
    refine ab_iload_n X 5 d_MO_tries_248 rfl rfl ?_
    refine ab_bipush (v := 21) X d_MO_tries_249 (by decide) ?_
    refine ab_icmp_ne X 274 d_MO_tries_251 rfl (fun _ => ?_) (fun hb => absurd hb ((by decide)))
    refine ab_iload_n X 5 d_MO_tries_274 rfl rfl ?_
    refine ab_bipush (v := 24) X d_MO_tries_275 (by decide) ?_
    refine ab_icmp_ne X 304 d_MO_tries_277 rfl (fun hb => absurd ((by decide)) hb) (fun _ => ?_)
    refine ab_aload_n X 3 d_MO_tries_280 rfl rfl ?_
    refine ab_aload_n X 3 d_MO_tries_281 rfl rfl ?_
    refine ab_gR X fl_MO_48 d_MO_tries_282 (by first | assumption | decide | (show _ < 124; omega) | (show _ < 61; omega) | (show _ < 20; omega)) (P31.1.mo12) ?_
    refine ab_iload_n X 4 d_MO_tries_285 rfl rfl ?_
    refine ab_callS (as := [ab_I (nI p1)]) X (fun h => by cases h) (t_MO_b u31 p1) ls_MO_204 d_MO_tries_286 rfl rfl ⟨by first | exact Nat.le_of_ble_eq_true rfl | (simp only [ab_rm]; omega), by first | exact Nat.le_of_ble_eq_true rfl | (simp only [ab_rm]; omega)⟩ ⟨by first | exact Nat.le_of_ble_eq_true rfl | (simp only [ab_rm]; omega), by first | exact Nat.le_of_ble_eq_true rfl | (simp only [ab_rm]; omega)⟩ (Nat.le_of_ble_eq_true rfl) (fun u286 r286 h286 => ?_)
    obtain ⟨e286, rfl⟩ := h286
    subst u286
    refine ab_iald X (3 * p1) ⟨rfl, rfl⟩ d_MO_tries_289 (by first | assumption | decide | (show _ < 124; omega) | (show _ < 61; omega) | (show _ < 20; omega)) (rfl) (show 3 * p1 < 72 by omega) (ab_ln_lt _ _) ?_
    refine ab_top (P31.ai (by decide) (hO (by omega)).1) ?_
    refine ab_iconst (v := 1) X d_MO_tries_290 (by decide) ?_
    refine ab_iadd X d_MO_tries_291 ?_
    refine ab_top (nI_add _ 1) ?_
    refine ab_aload_n X 3 d_MO_tries_292 rfl rfl ?_
    refine ab_gR X fl_MO_51 d_MO_tries_293 (by first | assumption | decide | (show _ < 124; omega) | (show _ < 61; omega) | (show _ < 20; omega)) (P31.1.mo13) ?_
    refine ab_iload_n X 4 d_MO_tries_296 rfl rfl ?_
    refine ab_callS (as := [ab_I (nI p1)]) X (fun h => by cases h) (t_MO_b u31 p1) ls_MO_204 d_MO_tries_297 rfl rfl ⟨by first | exact Nat.le_of_ble_eq_true rfl | (simp only [ab_rm]; omega), by first | exact Nat.le_of_ble_eq_true rfl | (simp only [ab_rm]; omega)⟩ ⟨by first | exact Nat.le_of_ble_eq_true rfl | (simp only [ab_rm]; omega), by first | exact Nat.le_of_ble_eq_true rfl | (simp only [ab_rm]; omega)⟩ (Nat.le_of_ble_eq_true rfl) (fun u297 r297 h297 => ?_)
    obtain ⟨e297, rfl⟩ := h297
    subst u297
    refine ab_iald X (3 * p1) ⟨rfl, rfl⟩ d_MO_tries_300 (by first | assumption | decide | (show _ < 124; omega) | (show _ < 61; omega) | (show _ < 20; omega)) (rfl) (show 3 * p1 < 72 by omega) (ab_ln_lt _ _) ?_
    refine ab_top (P31.ai (by decide) (hO (by omega)).2) ?_
    refine ab_callV (as := [ab_I _, ab_I _]) X (fun h => by cases h) (x_MO_is u31 _ _ P31.1) lk_MO_188 d_MO_tries_301 rfl rfl (by first | assumption | decide | (show _ < 124; omega) | (show _ < 61; omega) | (show _ < 20; omega)) ⟨by first | exact Nat.le_of_ble_eq_true rfl | (simp only [ab_rm]; omega), by first | exact Nat.le_of_ble_eq_true rfl | (simp only [ab_rm]; omega)⟩ ⟨by first | exact Nat.le_of_ble_eq_true rfl | (simp only [ab_rm]; omega), by first | exact Nat.le_of_ble_eq_true rfl | (simp only [ab_rm]; omega)⟩ (Nat.le_of_ble_eq_true rfl) (fun u301 r301 h301 => ?_)
    obtain ⟨⟨q301, a301, b301⟩, rfl⟩ := h301
    have P301 := P31.trans q301 (by decide)
    refine ab_iload_n X 2 d_MO_tries_304 rfl rfl ?_
    refine ab_bipush (v := 6) X d_MO_tries_305 (by decide) ?_
    refine ab_icmp_ne X 319 d_MO_tries_307 rfl (fun h307 => ?_) (fun h307 => ?_)
    ·
      have hk6 : ¬ kd p1 = 6 := fun z => h307 (by rw [z]; rfl)
      refine ab_lv (List.forall_mem_cons.mpr ⟨List.mem_of_getElem? (i := 3) rfl, List.forall_mem_cons.mpr ⟨List.mem_of_getElem? (i := 4) rfl, fun _ h => absurd h List.not_mem_nil⟩⟩) ?_
      exact yes _ P301 (by unfold app; omega) (by rw [tL_24]; exact a301) (by rw [tG_24]; exact b301)
    ·
      have hk6 : kd p1 = 6 := (nI_eq (b := 6) (by omega) (by omega)).mp h307
      refine ab_aload_n X 3 d_MO_tries_310 rfl rfl ?_
      refine ab_iload X 1 d_MO_tries_311 rfl ?_
      refine ab_iload X 0 d_MO_tries_313 rfl ?_
      refine ab_iload_n X 5 d_MO_tries_315 rfl rfl ?_
      refine ab_callV (as := [ab_I _, ab_I _, ab_I (nI 24)]) X (fun h => by cases h) (t_MO_triesOr24 u301 _ _) lk_MO_218 d_MO_tries_316 rfl rfl (by first | assumption | decide | (show _ < 124; omega) | (show _ < 61; omega) | (show _ < 20; omega)) ⟨by first | exact Nat.le_of_ble_eq_true rfl | (simp only [ab_rm]; omega), by first | exact Nat.le_of_ble_eq_true rfl | (simp only [ab_rm]; omega)⟩ ⟨by first | exact Nat.le_of_ble_eq_true rfl | (simp only [ab_rm]; omega), by first | exact Nat.le_of_ble_eq_true rfl | (simp only [ab_rm]; omega)⟩ (Nat.le_of_ble_eq_true rfl) (fun u316 r316 h316 => ?_)
      obtain ⟨e316, rfl⟩ := h316
      subst u316
      refine ab_lv (List.forall_mem_cons.mpr ⟨List.mem_of_getElem? (i := 3) rfl, List.forall_mem_cons.mpr ⟨List.mem_of_getElem? (i := 4) rfl, fun _ h => absurd h List.not_mem_nil⟩⟩) ?_
      exact yes _ P301 (by unfold app; omega) (by rw [tL_24]; exact a301) (by rw [tG_24]; exact b301)
end SaXMTry

