/-! The reference's choice: the same as the account's. -/
/-- the ways that fit, from a number on -/
def apb (k a n w : Nat) : Bool := (w == 1 && k == 1) || (w == 2 && k == 5) || w == 8 || (w == 11 && k == 2) || (w == 12 && (k == 3 || k == 4)) || (w == 13 && k == 5) || (w == 14 && k == 5) || (w == 18 && (k == 7 && a == n)) || (w == 7 && k == 7) || (w == 21 && k == 5) || w == 24 || (k == 6 && (w == 3 || w == 4 || w == 5 || w == 6 || w == 15 || w == 16 || w == 17 || w == 22 || w == 23))
theorem apb_app {k a n w : Nat} : apb k a n w = true ↔ app k a n w := by
  unfold apb app
  simp only [Bool.or_eq_true, Bool.and_eq_true, beq_iff_eq]
  constructor
  · intro h; simp only [or_assoc] at h; exact h
  · intro h; simp only [or_assoc]; exact h
def fit (k a n lo : Nat) : Nat → List Nat
  | 0 => []
  | m + 1 => fit k a n lo m ++ (if apb k a n (lo + m) = true then [lo + m] else [])
theorem fit_0 {k a n : Nat} (hk : 1 ≤ k ∧ k ≤ 7) : fit k a n 11 8 ++ fit k a n 1 7 = wys k a n 0 := by
  obtain ⟨h1, h7⟩ := hk
  have k8 : k = 1 ∨ k = 2 ∨ k = 3 ∨ k = 4 ∨ k = 5 ∨ k = 6 ∨ k = 7 := by omega
  by_cases e : a = n
  · rcases k8 with rfl | rfl | rfl | rfl | rfl | rfl | rfl <;> simp [fit, apb, wys, e]
  · rcases k8 with rfl | rfl | rfl | rfl | rfl | rfl | rfl <;> simp [fit, apb, wys, e]
theorem fit_1 {k a n : Nat} (hk : 1 ≤ k ∧ k ≤ 7) : fit k a n 1 8 = wys k a n 1 := by
  obtain ⟨h1, h7⟩ := hk
  have k8 : k = 1 ∨ k = 2 ∨ k = 3 ∨ k = 4 ∨ k = 5 ∨ k = 6 ∨ k = 7 := by omega
  rcases k8 with rfl | rfl | rfl | rfl | rfl | rfl | rfl <;> simp [fit, apb, wys]
theorem fit_2 {k a n : Nat} (hk : 1 ≤ k ∧ k ≤ 7) : fit k a n 21 4 = wys k a n 2 := by
  obtain ⟨h1, h7⟩ := hk
  have k8 : k = 1 ∨ k = 2 ∨ k = 3 ∨ k = 4 ∨ k = 5 ∨ k = 6 ∨ k = 7 := by omega
  rcases k8 with rfl | rfl | rfl | rfl | rfl | rfl | rfl <;> simp [fit, apb, wys]
/-- what a choice has changed -/
def cG (u u1 : ab_S) (f : Nat) : Prop := gP [18, 19, 105, 106, 107] u u1 ∧ ∀ g, g ≠ f → u1.1 18 6 g = u.1 18 6 g ∧ u1.1 18 5 g = u.1 18 5 g ∧ u1.1 18 7 g = u.1 18 7 g
/-- what is chosen so far -/
def chO (u1 : ab_S) (f : Nat) : Option (Nat × Nat × Nat) → Prop
  | none => u1.1 18 6 f = nI 10000 ∧ u1.1 18 7 f = nI 10000
  | some t => u1.1 18 5 f = nI t.1 ∧ u1.1 18 6 f = nI t.2.1 ∧ u1.1 18 7 f = nI t.2.2 ∧ t.2.1 ≤ 1000 ∧ t.2.2 ≤ 1000
/-- the comparison with what is chosen so far -/
theorem chO.cmp {u1 : ab_S} {f : Nat} {o : Option (Nat × Nat × Nat)} (h : chO u1 f o) : ∃ L G, u1.1 18 6 f = nI L ∧ u1.1 18 7 f = nI G ∧ L ≤ 10000 ∧ G ≤ 10000 ∧ ∀ w n g, n ≤ 1000 → ((n < L ∨ (n = L ∧ g < G)) → pk o w n g = some (w, n, g)) ∧ (¬ (n < L ∨ (n = L ∧ g < G)) → pk o w n g = o) := by
  cases o with
  | none => exact ⟨10000, 10000, h.1, h.2, by decide, by decide, fun w n g hn => ⟨fun _ => rfl, fun z => absurd (Or.inl (by omega)) z⟩⟩
  | some t => exact ⟨t.2.1, t.2.2, h.2.1, h.2.2.1, by have := h.2.2.2.1; omega, by have := h.2.2.2.2; omega, fun w n g _ => ⟨fun z => if_pos z, fun z => if_neg z⟩⟩
theorem chO.ex {u1 u2 : ab_S} {f : Nat} {o : Option (Nat × Nat × Nat)} (h : chO u1 f o) (e5 : u2.1 18 5 f = u1.1 18 5 f) (e6 : u2.1 18 6 f = u1.1 18 6 f) (e7 : u2.1 18 7 f = u1.1 18 7 f) : chO u2 f o := by
  cases o with
  | none => exact ⟨e6.trans h.1, e7.trans h.2⟩
  | some t => exact ⟨e5.trans h.1, e6.trans h.2.1, e7.trans h.2.2.1, h.2.2.2⟩
theorem m3.cg {Y : Nat → Nat → Nat × Nat × Nat} {R : Nat → List Nat} {u u1 : ab_S} {c f : Nat} (h : m3 Y R u c) (g : cG u u1 f) (h0 : 3 * c ≠ f) (h1 : 3 * c + 1 ≠ f) (h2 : 3 * c + 2 ≠ f) : m3 Y R u1 c := ⟨⟨⟨(g.2 _ h0).1.trans h.1.1.1, (g.2 _ h0).2.2.trans h.1.1.2⟩, ⟨(g.2 _ h1).1.trans h.1.2.1.1, (g.2 _ h1).2.2.trans h.1.2.1.2⟩, (g.2 _ h2).1.trans h.1.2.2.1, (g.2 _ h2).2.2.trans h.1.2.2.2⟩, g.1.ai (by decide) h.2⟩
section SaXMChoose
variable {l : Launch} {D : va_G} {ca : Nat → ClassId}
set_option maxRecDepth 100000 in
set_option maxHeartbeats 4000000 in
theorem x_MO_choose (u : ab_S) (P : Nat) (kd ar cn lf : Nat → Nat) (ch : Nat → Nat → Nat) (Y : Nat → Nat → Nat × Nat × Nat) (R : Nat → List Nat) (W : tW P kd ar cn lf ch) (hB : ∀ q, q < P → xB lf Y R q) (T : tR P kd ar cn ch u) (p1 j ra rb rc rd : Nat) (h : mR u.2.1) (hp : p1 < P) (hj : j < 3) (hl : ∀ c, p1 < c → c < P → m3 Y R u c) (hr : ∀ w, (ra ≤ w ∧ w ≤ rb) ∨ (rc ≤ w ∧ w ≤ rd) → ways w ∧ (w = 8 ∨ w = 24 → 0 < j ∧ lw u (3 * p1) (Y p1 0).2.1 (Y p1 0).2.2)) (hab : ra ≤ rb + 1 ∧ rb ≤ 30) (hcd : rc ≤ rd + 1 ∧ rd ≤ 30) : ab_C false l D ca y_MO_choose b_MO_choose 9 none 4 ab_nQ u [ab_O 17 0, ab_I (nI p1), ab_I (nI (3 * p1 + j)), ab_I (nI ra), ab_I (nI rb), ab_I (nI rc), ab_I (nI rd)] (fun u' v => (cG u u' (3 * p1 + j) ∧ chO u' (3 * p1 + j) (pks (tL cn ch (xL Y) p1) (tG kd ar cn ch (xG Y) R p1) none (fit (kd p1) (ar p1) (cn p1) ra (rb + 1 - ra) ++ fit (kd p1) (ar p1) (cn p1) rc (rd + 1 - rc)))) ∧ v = none) := by
  refine ab_C.of (by decide) (Nat.le_of_ble_eq_true rfl) ?_
  intro p e s m args below meth c ad X hZ hr0 hlk
  have P0 : gP [18, 19, 105, 106, 107] u u := gP.rf h
  have hP19 := W.2.1
  have k17 := W.k17 hp
  have body : ∀ (t w : Nat) (u1 : ab_S) (o : Option (Nat × Nat × Nat)), cG u u1 (3 * p1 + j) → chO u1 (3 * p1 + j) o → ways w → (w = 8 ∨ w = 24 → 0 < j ∧ lw u (3 * p1) (Y p1 0).2.1 (Y p1 0).2.2) → (∀ u2, cG u u2 (3 * p1 + j) → chO u2 (3 * p1 + j) (pks (tL cn ch (xL Y) p1) (tG kd ar cn ch (xG Y) R p1) o (if apb (kd p1) (ar p1) (cn p1) w = true then [w] else [])) → ab_J p l e (ab_rm 4 0 0) s m args below meth c (MQ below (ab_Q D ca ad ab_nQ s.heap.size (fun u' v => (cG u u' (3 * p1 + j) ∧ chO u' (3 * p1 + j) (pks (tL cn ch (xL Y) p1) (tG kd ar cn ch (xG Y) R p1) none (fit (kd p1) (ar p1) (cn p1) ra (rb + 1 - ra) ++ fit (kd p1) (ar p1) (cn p1) rc (rd + 1 - rc)))) ∧ v = none)) args s 0 0 (ab_A ad ab_nQ s.heap.size)) D ca (ab_A ad ab_nQ s.heap.size) s.heap 9 0 0 ad ab_nQ u2 134 [(8, ab_I (nI w)), (7, ab_I (nI t)), (0, ab_O 17 0), (1, ab_I (nI p1)), (2, ab_I (nI (3 * p1 + j))), (3, ab_I (nI ra)), (4, ab_I (nI rb)), (5, ab_I (nI rc)), (6, ab_I (nI rd))] []) → ab_J p l e (ab_rm 4 0 0) s m args below meth c (MQ below (ab_Q D ca ad ab_nQ s.heap.size (fun u' v => (cG u u' (3 * p1 + j) ∧ chO u' (3 * p1 + j) (pks (tL cn ch (xL Y) p1) (tG kd ar cn ch (xG Y) R p1) none (fit (kd p1) (ar p1) (cn p1) ra (rb + 1 - ra) ++ fit (kd p1) (ar p1) (cn p1) rc (rd + 1 - rc)))) ∧ v = none)) args s 0 0 (ab_A ad ab_nQ s.heap.size)) D ca (ab_A ad ab_nQ s.heap.size) s.heap 9 0 0 ad ab_nQ u1 57 [(8, ab_I (nI w)), (7, ab_I (nI t)), (0, ab_O 17 0), (1, ab_I (nI p1)), (2, ab_I (nI (3 * p1 + j))), (3, ab_I (nI ra)), (4, ab_I (nI rb)), (5, ab_I (nI rc)), (6, ab_I (nI rd))] [] := by
    intro t w u1 o hF hI hw h8 nx
    have P1 := hF.1
    have hl1 : ∀ c, p1 < c → c < P → m3 Y R u1 c := fun c a b => (hl c a b).cg hF (by omega) (by omega) (by omega)
    have hO1 : w = 8 ∨ w = 24 → lw u1 (3 * p1) (Y p1 0).2.1 (Y p1 0).2.2 := fun z => ⟨(hF.2 _ (by have := (h8 z).1; omega)).1.trans (h8 z).2.1, (hF.2 _ (by have := (h8 z).1; omega)).2.2.trans (h8 z).2.2⟩
    obtain ⟨L, G, eL, eG, bL, bG, ipk⟩ := hI.cmp
    refine ab_aload_n X 2 d_MO_choose_57 rfl rfl ?_
    refine ab_iload_n X 3 d_MO_choose_58 rfl rfl ?_
    refine ab_iload X 0 d_MO_choose_59 rfl ?_
    refine ab_callV (as := [ab_I (nI p1), ab_I (nI w)]) X (fun h => by cases h) (x_MO_tries u1 P kd ar cn lf ch Y R W hB (T.fr P1 (by decide) (by decide) (by decide) (by decide) (by decide)) p1 w P1.1 hp hw hl1 hO1) lk_MO_228 d_MO_choose_61 rfl rfl (by first | assumption | decide | (show _ < 124; omega) | (show _ < 61; omega) | (show _ < 20; omega)) ⟨by first | exact Nat.le_of_ble_eq_true rfl | (simp only [ab_rm]; omega), by first | exact Nat.le_of_ble_eq_true rfl | (simp only [ab_rm]; omega)⟩ ⟨by first | exact Nat.le_of_ble_eq_true rfl | (simp only [ab_rm]; omega), by first | exact Nat.le_of_ble_eq_true rfl | (simp only [ab_rm]; omega)⟩ (Nat.le_of_ble_eq_true rfl) (fun u61 r61 h61 => ?_)
    obtain ⟨q61, b61, hb61, rfl⟩ := h61
    have P61 := P1.trans q61 (by decide)
    have F61 : cG u u61 (3 * p1 + j) := ⟨P61, fun g hg => ⟨(q61.ai (by decide) rfl).trans (hF.2 g hg).1, (q61.ai (by decide) rfl).trans (hF.2 g hg).2.1, (q61.ai (by decide) rfl).trans (hF.2 g hg).2.2⟩⟩
    have eL61 : u61.1 18 6 (3 * p1 + j) = nI L := q61.ai (by decide) eL
    have eG61 : u61.1 18 7 (3 * p1 + j) = nI G := q61.ai (by decide) eG
    have O61 : chO u61 (3 * p1 + j) o := hI.ex (q61.ai (by decide) rfl) (q61.ai (by decide) rfl) (q61.ai (by decide) rfl)
    refine ab_if_eq X 134 d_MO_choose_64 rfl (fun h64 => ?_) (fun h64 => ?_)
    ·
      have na : ¬ app (kd p1) (ar p1) (cn p1) w := by
        rcases hb61 with ⟨z, -⟩ | ⟨-, z⟩
        · exact absurd (z.symm.trans h64) (by decide)
        · exact z
      have ew : (if apb (kd p1) (ar p1) (cn p1) w = true then [w] else []) = [] := if_neg (fun z => na (apb_app.mp z))
      rw [ew] at nx
      first | exact nx _ F61 O61 | exact nx _ F61 (by show chO u61 (3 * p1 + j) (pk o w ((tL cn ch (xL Y) p1) w) ((tG kd ar cn ch (xG Y) R p1) w)); rw [nn cmp]; exact O61) | exact nx _ ⟨P61, fun g hg => by rw [e133, e125, e115]; simpa [ab_up, hg] using F61.2 g hg⟩ (by show chO u133 (3 * p1 + j) (pk o w ((tL cn ch (xL Y) p1) w) ((tG kd ar cn ch (xG Y) R p1) w)); rw [yy cmp]; exact ⟨by rw [e133]; exact ui_s _, by rw [e133, e125, e115]; exact (ui_n _ (by omega)).trans ((ui_n _ (by omega)).trans (ui_s _)), by rw [e133, e125]; exact (ui_n _ (by omega)).trans (ui_s _), by show (tL cn ch (xL Y) p1) w ≤ 1000; omega, by show (tG kd ar cn ch (xG Y) R p1) w ≤ 1000; omega⟩)
    ·
      obtain ⟨ha, et, eg⟩ : app (kd p1) (ar p1) (cn p1) w ∧ u61.1 17 0 18 = nI ((tL cn ch (xL Y) p1) w) ∧ u61.1 17 0 19 = nI ((tG kd ar cn ch (xG Y) R p1) w) := by
        rcases hb61 with ⟨-, z1, z2, z3⟩ | ⟨z, -⟩
        · exact ⟨z1, z2, z3⟩
        · exact absurd z h64
      obtain ⟨jj, hjj, wk⟩ := app_wok k17 hw ha
      obtain ⟨rg1, rg2, rg3⟩ := tv_rg W hB hp wk
      have ew : (if apb (kd p1) (ar p1) (cn p1) w = true then [w] else []) = [w] := if_pos (apb_app.mpr ha)
      rw [ew] at nx
      obtain ⟨yy, nn⟩ := ipk w ((tL cn ch (xL Y) p1) w) ((tG kd ar cn ch (xG Y) R p1) w) (by omega)
      refine ab_aload_n X 2 d_MO_choose_67 rfl rfl ?_
      refine ab_gI X fl_MO_66 d_MO_choose_68 (by first | assumption | decide | (show _ < 124; omega) | (show _ < 61; omega) | (show _ < 20; omega)) (et) ?_
      refine ab_aload_n X 2 d_MO_choose_71 rfl rfl ?_
      refine ab_gR X fl_MO_48 d_MO_choose_72 (by first | assumption | decide | (show _ < 124; omega) | (show _ < 61; omega) | (show _ < 20; omega)) (P61.1.mo12) ?_
      refine ab_iload_n X 4 d_MO_choose_75 rfl rfl ?_
      refine ab_iald X (3 * p1 + j) ⟨rfl, rfl⟩ d_MO_choose_76 (by first | assumption | decide | (show _ < 124; omega) | (show _ < 61; omega) | (show _ < 20; omega)) (rfl) (show 3 * p1 + j < 72 by omega) (ab_ln_lt _ _) ?_
      refine ab_top eL61 ?_
      refine ab_icmp_lt X 106 d_MO_choose_77 rfl (fun h77 => ?_) (fun h77 => ?_)
      ·
        have cmp : (tL cn ch (xL Y) p1) w < L ∨ ((tL cn ch (xL Y) p1) w = L ∧ (tG kd ar cn ch (xG Y) R p1) w < G) := Or.inl (nI_ltl h77 (by omega))
        refine ab_aload_n X 2 d_MO_choose_106 rfl rfl ?_
        refine ab_gR X fl_MO_48 d_MO_choose_107 (by first | assumption | decide | (show _ < 124; omega) | (show _ < 61; omega) | (show _ < 20; omega)) (P61.1.mo12) ?_
        refine ab_iload_n X 4 d_MO_choose_110 rfl rfl ?_
        refine ab_aload_n X 2 d_MO_choose_111 rfl rfl ?_
        refine ab_gI X fl_MO_66 d_MO_choose_112 (by first | assumption | decide | (show _ < 124; omega) | (show _ < 61; omega) | (show _ < 20; omega)) (et) ?_
        refine ab_iast X (3 * p1 + j) ⟨rfl, rfl⟩ d_MO_choose_115 (by first | assumption | decide | (show _ < 124; omega) | (show _ < 61; omega) | (show _ < 20; omega)) (rfl) (show 3 * p1 + j < 72 by omega) (ab_ln_lt _ _) ?_
        refine ab_gen (fun u115 e115 => ?_)
        have P115 : gP [18, 19, 105, 106, 107] u u115 := by rw [e115]; exact P61.ui rfl (by decide)
        refine ab_aload_n X 2 d_MO_choose_116 rfl rfl ?_
        refine ab_gR X fl_MO_51 d_MO_choose_117 (by first | assumption | decide | (show _ < 124; omega) | (show _ < 61; omega) | (show _ < 20; omega)) (P115.1.mo13) ?_
        refine ab_iload_n X 4 d_MO_choose_120 rfl rfl ?_
        refine ab_aload_n X 2 d_MO_choose_121 rfl rfl ?_
        refine ab_gI X fl_MO_69 d_MO_choose_122 (by first | assumption | decide | (show _ < 124; omega) | (show _ < 61; omega) | (show _ < 20; omega)) ((show _ = nI ((tG kd ar cn ch (xG Y) R p1) w) by rw [e115]; exact (ui_n _ (by omega)).trans eg)) ?_
        refine ab_iast X (3 * p1 + j) ⟨rfl, rfl⟩ d_MO_choose_125 (by first | assumption | decide | (show _ < 124; omega) | (show _ < 61; omega) | (show _ < 20; omega)) (rfl) (show 3 * p1 + j < 72 by omega) (ab_ln_lt _ _) ?_
        refine ab_gen (fun u125 e125 => ?_)
        have P125 : gP [18, 19, 105, 106, 107] u u125 := by rw [e125]; exact P115.ui rfl (by decide)
        refine ab_aload_n X 2 d_MO_choose_126 rfl rfl ?_
        refine ab_gR X fl_MO_45 d_MO_choose_127 (by first | assumption | decide | (show _ < 124; omega) | (show _ < 61; omega) | (show _ < 20; omega)) (P125.1.mo11) ?_
        refine ab_iload_n X 4 d_MO_choose_130 rfl rfl ?_
        refine ab_iload X 0 d_MO_choose_131 rfl ?_
        refine ab_iast X (3 * p1 + j) ⟨rfl, rfl⟩ d_MO_choose_133 (by first | assumption | decide | (show _ < 124; omega) | (show _ < 61; omega) | (show _ < 20; omega)) (rfl) (show 3 * p1 + j < 72 by omega) (ab_ln_lt _ _) ?_
        refine ab_gen (fun u133 e133 => ?_)
        have P133 : gP [18, 19, 105, 106, 107] u u133 := by rw [e133]; exact P125.ui rfl (by decide)
        first | exact nx _ F61 O61 | exact nx _ F61 (by show chO u61 (3 * p1 + j) (pk o w ((tL cn ch (xL Y) p1) w) ((tG kd ar cn ch (xG Y) R p1) w)); rw [nn cmp]; exact O61) | exact nx _ ⟨P133, fun g hg => by rw [e133, e125, e115]; simpa [ab_up, hg] using F61.2 g hg⟩ (by show chO u133 (3 * p1 + j) (pk o w ((tL cn ch (xL Y) p1) w) ((tG kd ar cn ch (xG Y) R p1) w)); rw [yy cmp]; exact ⟨by rw [e133]; exact ui_s _, by rw [e133, e125, e115]; exact (ui_n _ (by omega)).trans ((ui_n _ (by omega)).trans (ui_s _)), by rw [e133, e125]; exact (ui_n _ (by omega)).trans (ui_s _), by show (tL cn ch (xL Y) p1) w ≤ 1000; omega, by show (tG kd ar cn ch (xG Y) R p1) w ≤ 1000; omega⟩)
      ·
        have nlt : ¬ (tL cn ch (xL Y) p1) w < L := fun z => h77 (nI_lt z (by omega))
        refine ab_aload_n X 2 d_MO_choose_80 rfl rfl ?_
        refine ab_gI X fl_MO_66 d_MO_choose_81 (by first | assumption | decide | (show _ < 124; omega) | (show _ < 61; omega) | (show _ < 20; omega)) (et) ?_
        refine ab_aload_n X 2 d_MO_choose_84 rfl rfl ?_
        refine ab_gR X fl_MO_48 d_MO_choose_85 (by first | assumption | decide | (show _ < 124; omega) | (show _ < 61; omega) | (show _ < 20; omega)) (P61.1.mo12) ?_
        refine ab_iload_n X 4 d_MO_choose_88 rfl rfl ?_
        refine ab_iald X (3 * p1 + j) ⟨rfl, rfl⟩ d_MO_choose_89 (by first | assumption | decide | (show _ < 124; omega) | (show _ < 61; omega) | (show _ < 20; omega)) (rfl) (show 3 * p1 + j < 72 by omega) (ab_ln_lt _ _) ?_
        refine ab_top eL61 ?_
        refine ab_icmp_ne X 134 d_MO_choose_90 rfl (fun h90 => ?_) (fun h90 => ?_)
        ·
          have cmp : ¬ ((tL cn ch (xL Y) p1) w < L ∨ ((tL cn ch (xL Y) p1) w = L ∧ (tG kd ar cn ch (xG Y) R p1) w < G)) := fun z => z.elim nlt (fun y => h90 (by rw [y.1]))
          first | exact nx _ F61 O61 | exact nx _ F61 (by show chO u61 (3 * p1 + j) (pk o w ((tL cn ch (xL Y) p1) w) ((tG kd ar cn ch (xG Y) R p1) w)); rw [nn cmp]; exact O61) | exact nx _ ⟨P61, fun g hg => by rw [e133, e125, e115]; simpa [ab_up, hg] using F61.2 g hg⟩ (by show chO u133 (3 * p1 + j) (pk o w ((tL cn ch (xL Y) p1) w) ((tG kd ar cn ch (xG Y) R p1) w)); rw [yy cmp]; exact ⟨by rw [e133]; exact ui_s _, by rw [e133, e125, e115]; exact (ui_n _ (by omega)).trans ((ui_n _ (by omega)).trans (ui_s _)), by rw [e133, e125]; exact (ui_n _ (by omega)).trans (ui_s _), by show (tL cn ch (xL Y) p1) w ≤ 1000; omega, by show (tG kd ar cn ch (xG Y) R p1) w ≤ 1000; omega⟩)
        ·
          have ceq : (tL cn ch (xL Y) p1) w = L := (nI_eq (by omega) (by omega)).mp h90
          refine ab_aload_n X 2 d_MO_choose_93 rfl rfl ?_
          refine ab_gI X fl_MO_69 d_MO_choose_94 (by first | assumption | decide | (show _ < 124; omega) | (show _ < 61; omega) | (show _ < 20; omega)) (eg) ?_
          refine ab_aload_n X 2 d_MO_choose_97 rfl rfl ?_
          refine ab_gR X fl_MO_51 d_MO_choose_98 (by first | assumption | decide | (show _ < 124; omega) | (show _ < 61; omega) | (show _ < 20; omega)) (P61.1.mo13) ?_
          refine ab_iload_n X 4 d_MO_choose_101 rfl rfl ?_
          refine ab_iald X (3 * p1 + j) ⟨rfl, rfl⟩ d_MO_choose_102 (by first | assumption | decide | (show _ < 124; omega) | (show _ < 61; omega) | (show _ < 20; omega)) (rfl) (show 3 * p1 + j < 72 by omega) (ab_ln_lt _ _) ?_
          refine ab_top eG61 ?_
          refine ab_icmp_ge X 134 d_MO_choose_103 rfl (fun h103 => ?_) (fun h103 => ?_)
          ·
            have cmp : ¬ ((tL cn ch (xL Y) p1) w < L ∨ ((tL cn ch (xL Y) p1) w = L ∧ (tG kd ar cn ch (xG Y) R p1) w < G)) := fun z => z.elim nlt (fun y => absurd h103 (nI_ge y.2 (by omega)))
            first | exact nx _ F61 O61 | exact nx _ F61 (by show chO u61 (3 * p1 + j) (pk o w ((tL cn ch (xL Y) p1) w) ((tG kd ar cn ch (xG Y) R p1) w)); rw [nn cmp]; exact O61) | exact nx _ ⟨P61, fun g hg => by rw [e133, e125, e115]; simpa [ab_up, hg] using F61.2 g hg⟩ (by show chO u133 (3 * p1 + j) (pk o w ((tL cn ch (xL Y) p1) w) ((tG kd ar cn ch (xG Y) R p1) w)); rw [yy cmp]; exact ⟨by rw [e133]; exact ui_s _, by rw [e133, e125, e115]; exact (ui_n _ (by omega)).trans ((ui_n _ (by omega)).trans (ui_s _)), by rw [e133, e125]; exact (ui_n _ (by omega)).trans (ui_s _), by show (tL cn ch (xL Y) p1) w ≤ 1000; omega, by show (tG kd ar cn ch (xG Y) R p1) w ≤ 1000; omega⟩)
          ·
            have cmp : (tL cn ch (xL Y) p1) w < L ∨ ((tL cn ch (xL Y) p1) w = L ∧ (tG kd ar cn ch (xG Y) R p1) w < G) := Or.inr ⟨ceq, nI_lt_of h103 (by omega)⟩
            refine ab_aload_n X 2 d_MO_choose_106 rfl rfl ?_
            refine ab_gR X fl_MO_48 d_MO_choose_107 (by first | assumption | decide | (show _ < 124; omega) | (show _ < 61; omega) | (show _ < 20; omega)) (P61.1.mo12) ?_
            refine ab_iload_n X 4 d_MO_choose_110 rfl rfl ?_
            refine ab_aload_n X 2 d_MO_choose_111 rfl rfl ?_
            refine ab_gI X fl_MO_66 d_MO_choose_112 (by first | assumption | decide | (show _ < 124; omega) | (show _ < 61; omega) | (show _ < 20; omega)) (et) ?_
            refine ab_iast X (3 * p1 + j) ⟨rfl, rfl⟩ d_MO_choose_115 (by first | assumption | decide | (show _ < 124; omega) | (show _ < 61; omega) | (show _ < 20; omega)) (rfl) (show 3 * p1 + j < 72 by omega) (ab_ln_lt _ _) ?_
            refine ab_gen (fun u115 e115 => ?_)
            have P115 : gP [18, 19, 105, 106, 107] u u115 := by rw [e115]; exact P61.ui rfl (by decide)
            refine ab_aload_n X 2 d_MO_choose_116 rfl rfl ?_
            refine ab_gR X fl_MO_51 d_MO_choose_117 (by first | assumption | decide | (show _ < 124; omega) | (show _ < 61; omega) | (show _ < 20; omega)) (P115.1.mo13) ?_
            refine ab_iload_n X 4 d_MO_choose_120 rfl rfl ?_
            refine ab_aload_n X 2 d_MO_choose_121 rfl rfl ?_
            refine ab_gI X fl_MO_69 d_MO_choose_122 (by first | assumption | decide | (show _ < 124; omega) | (show _ < 61; omega) | (show _ < 20; omega)) ((show _ = nI ((tG kd ar cn ch (xG Y) R p1) w) by rw [e115]; exact (ui_n _ (by omega)).trans eg)) ?_
            refine ab_iast X (3 * p1 + j) ⟨rfl, rfl⟩ d_MO_choose_125 (by first | assumption | decide | (show _ < 124; omega) | (show _ < 61; omega) | (show _ < 20; omega)) (rfl) (show 3 * p1 + j < 72 by omega) (ab_ln_lt _ _) ?_
            refine ab_gen (fun u125 e125 => ?_)
            have P125 : gP [18, 19, 105, 106, 107] u u125 := by rw [e125]; exact P115.ui rfl (by decide)
            refine ab_aload_n X 2 d_MO_choose_126 rfl rfl ?_
            refine ab_gR X fl_MO_45 d_MO_choose_127 (by first | assumption | decide | (show _ < 124; omega) | (show _ < 61; omega) | (show _ < 20; omega)) (P125.1.mo11) ?_
            refine ab_iload_n X 4 d_MO_choose_130 rfl rfl ?_
            refine ab_iload X 0 d_MO_choose_131 rfl ?_
            refine ab_iast X (3 * p1 + j) ⟨rfl, rfl⟩ d_MO_choose_133 (by first | assumption | decide | (show _ < 124; omega) | (show _ < 61; omega) | (show _ < 20; omega)) (rfl) (show 3 * p1 + j < 72 by omega) (ab_ln_lt _ _) ?_
            refine ab_gen (fun u133 e133 => ?_)
            have P133 : gP [18, 19, 105, 106, 107] u u133 := by rw [e133]; exact P125.ui rfl (by decide)
            first | exact nx _ F61 O61 | exact nx _ F61 (by show chO u61 (3 * p1 + j) (pk o w ((tL cn ch (xL Y) p1) w) ((tG kd ar cn ch (xG Y) R p1) w)); rw [nn cmp]; exact O61) | exact nx _ ⟨P133, fun g hg => by rw [e133, e125, e115]; simpa [ab_up, hg] using F61.2 g hg⟩ (by show chO u133 (3 * p1 + j) (pk o w ((tL cn ch (xL Y) p1) w) ((tG kd ar cn ch (xG Y) R p1) w)); rw [yy cmp]; exact ⟨by rw [e133]; exact ui_s _, by rw [e133, e125, e115]; exact (ui_n _ (by omega)).trans ((ui_n _ (by omega)).trans (ui_s _)), by rw [e133, e125]; exact (ui_n _ (by omega)).trans (ui_s _), by show (tL cn ch (xL Y) p1) w ≤ 1000; omega, by show (tG kd ar cn ch (xG Y) R p1) w ≤ 1000; omega⟩)
  have in1 : ∀ (k w : Nat) (u1 : ab_S), w + k = rd + 1 → rc ≤ w → cG u u1 (3 * p1 + j) → chO u1 (3 * p1 + j) (pks (tL cn ch (xL Y) p1) (tG kd ar cn ch (xG Y) R p1) none (fit (kd p1) (ar p1) (cn p1) ra (rb + 1 - ra) ++ fit (kd p1) (ar p1) (cn p1) rc (w - rc))) → ab_J p l e (ab_rm 4 0 0) s m args below meth c (MQ below (ab_Q D ca ad ab_nQ s.heap.size (fun u' v => (cG u u' (3 * p1 + j) ∧ chO u' (3 * p1 + j) (pks (tL cn ch (xL Y) p1) (tG kd ar cn ch (xG Y) R p1) none (fit (kd p1) (ar p1) (cn p1) ra (rb + 1 - ra) ++ fit (kd p1) (ar p1) (cn p1) rc (rd + 1 - rc)))) ∧ v = none)) args s 0 0 (ab_A ad ab_nQ s.heap.size)) D ca (ab_A ad ab_nQ s.heap.size) s.heap 9 0 0 ad ab_nQ u1 40 [(8, ab_I (nI w)), (7, ab_I (nI 1)), (0, ab_O 17 0), (1, ab_I (nI p1)), (2, ab_I (nI (3 * p1 + j))), (3, ab_I (nI ra)), (4, ab_I (nI rb)), (5, ab_I (nI rc)), (6, ab_I (nI rd))] [] := by
    intro k
    induction k with
    | zero =>
      intro w u1 hk hc hF hI
      have P1 := hF.1
      refine ab_iload X 0 d_MO_choose_40 rfl ?_
      refine ab_iload X 1 d_MO_choose_42 rfl ?_
      refine ab_if_ne X 52 d_MO_choose_44 rfl (fun _ => ?_) (fun hb => absurd hb ((by decide)))
      refine ab_iload X 8 d_MO_choose_52 rfl ?_
      refine ab_icmp_gt X 140 d_MO_choose_54 rfl (fun _ => ?_) (fun hb => absurd ((nI_lt (by omega) (by omega))) hb)
      refine ab_iinc8 X 1 0 2 3 4 5 6 7 8 d_MO_choose_140 rfl (by decide) rfl rfl rfl rfl rfl rfl rfl rfl rfl rfl rfl rfl rfl rfl rfl rfl ?_
      refine ab_goto X 21 d_MO_choose_143 rfl ?_
      refine ab_iload X 0 d_MO_choose_21 rfl ?_
      refine ab_iconst (v := 2) X d_MO_choose_23 (by decide) ?_
      refine ab_icmp_ge X 146 d_MO_choose_24 rfl (fun _ => ?_) (fun hb => absurd ((by decide)) hb)
      exact ab_retv X hr0 hlk d_MO_choose_146 ⟨⟨hF, by rwa [show w = rd + 1 by omega] at hI⟩, rfl⟩
    | succ k ih =>
      intro w u1 hk hc hF hI
      have P1 := hF.1
      have hw := hr w (Or.inr ⟨hc, by omega⟩)
      refine ab_iload X 0 d_MO_choose_40 rfl ?_
      refine ab_iload X 1 d_MO_choose_42 rfl ?_
      refine ab_if_ne X 52 d_MO_choose_44 rfl (fun _ => ?_) (fun hb => absurd hb ((by decide)))
      refine ab_iload X 8 d_MO_choose_52 rfl ?_
      refine ab_icmp_gt X 140 d_MO_choose_54 rfl (fun hb => absurd hb ((nI_nlt (by omega) (by omega)))) (fun _ => ?_)
      refine body 1 w _ _ hF hI hw.1 hw.2 (fun u2 F2 I2 => ?_)
      have P2 := F2.1
      have ef : fit (kd p1) (ar p1) (cn p1) rc (w + 1 - rc) = fit (kd p1) (ar p1) (cn p1) rc (w - rc) ++ (if apb (kd p1) (ar p1) (cn p1) w = true then [w] else []) := by
        rw [show w + 1 - rc = (w - rc) + 1 by omega]
        show fit (kd p1) (ar p1) (cn p1) rc (w - rc) ++ (if apb (kd p1) (ar p1) (cn p1) (rc + (w - rc)) = true then [rc + (w - rc)] else []) = _
        rw [show rc + (w - rc) = w by omega]
      refine ab_iinc8 X 0 1 2 3 4 5 6 7 8 d_MO_choose_134 rfl (by decide) rfl rfl rfl rfl rfl rfl rfl rfl rfl rfl rfl rfl rfl rfl rfl rfl ?_
      refine ab_goto X 40 d_MO_choose_137 rfl ?_
      rw [show nI w + Int32.ofInt 1 = nI (w + 1) from nI_1 w]
      exact ih (w + 1) _ (by omega) (by omega) F2 (by rw [ef, ← List.append_assoc, pks_app]; exact I2)
  have in0 : ∀ (k w : Nat) (u1 : ab_S), w + k = rb + 1 → ra ≤ w → cG u u1 (3 * p1 + j) → chO u1 (3 * p1 + j) (pks (tL cn ch (xL Y) p1) (tG kd ar cn ch (xG Y) R p1) none (fit (kd p1) (ar p1) (cn p1) ra (w - ra))) → ab_J p l e (ab_rm 4 0 0) s m args below meth c (MQ below (ab_Q D ca ad ab_nQ s.heap.size (fun u' v => (cG u u' (3 * p1 + j) ∧ chO u' (3 * p1 + j) (pks (tL cn ch (xL Y) p1) (tG kd ar cn ch (xG Y) R p1) none (fit (kd p1) (ar p1) (cn p1) ra (rb + 1 - ra) ++ fit (kd p1) (ar p1) (cn p1) rc (rd + 1 - rc)))) ∧ v = none)) args s 0 0 (ab_A ad ab_nQ s.heap.size)) D ca (ab_A ad ab_nQ s.heap.size) s.heap 9 0 0 ad ab_nQ u1 40 [(8, ab_I (nI w)), (7, ab_I (nI 0)), (0, ab_O 17 0), (1, ab_I (nI p1)), (2, ab_I (nI (3 * p1 + j))), (3, ab_I (nI ra)), (4, ab_I (nI rb)), (5, ab_I (nI rc)), (6, ab_I (nI rd))] [] := by
    intro k
    induction k with
    | zero =>
      intro w u1 hk hc hF hI
      have P1 := hF.1
      refine ab_iload X 0 d_MO_choose_40 rfl ?_
      refine ab_iload X 1 d_MO_choose_42 rfl ?_
      refine ab_if_ne X 52 d_MO_choose_44 rfl (fun hb => absurd ((by decide)) hb) (fun _ => ?_)
      refine ab_iload X 6 d_MO_choose_47 rfl ?_
      refine ab_goto X 54 d_MO_choose_49 rfl ?_
      refine ab_icmp_gt X 140 d_MO_choose_54 rfl (fun _ => ?_) (fun hb => absurd ((nI_lt (by omega) (by omega))) hb)
      refine ab_iinc8 X 1 0 2 3 4 5 6 7 8 d_MO_choose_140 rfl (by decide) rfl rfl rfl rfl rfl rfl rfl rfl rfl rfl rfl rfl rfl rfl rfl rfl ?_
      refine ab_goto X 21 d_MO_choose_143 rfl ?_
      refine ab_iload X 0 d_MO_choose_21 rfl ?_
      refine ab_iconst (v := 2) X d_MO_choose_23 (by decide) ?_
      refine ab_icmp_ge X 146 d_MO_choose_24 rfl (fun hb => absurd hb ((by decide))) (fun _ => ?_)
      refine ab_iload X 0 d_MO_choose_27 rfl ?_
      refine ab_if_ne X 36 d_MO_choose_29 rfl (fun _ => ?_) (fun hb => absurd hb ((by decide)))
      refine ab_iload X 7 d_MO_choose_36 rfl ?_
      refine ab_istore8 X 0 2 3 4 5 6 7 8 d_MO_choose_38 (by decide) rfl rfl rfl rfl rfl rfl rfl rfl rfl rfl rfl rfl rfl rfl rfl rfl ?_
      exact in1 (rd + 1 - rc) rc _ (by omega) (by omega) hF (by rw [show rc - rc = 0 by omega, show rb + 1 = w by omega]; show chO u1 (3 * p1 + j) (pks (tL cn ch (xL Y) p1) (tG kd ar cn ch (xG Y) R p1) none (fit (kd p1) (ar p1) (cn p1) ra (w - ra) ++ [])); rw [List.append_nil]; exact hI)
    | succ k ih =>
      intro w u1 hk hc hF hI
      have P1 := hF.1
      have hw := hr w (Or.inl ⟨hc, by omega⟩)
      refine ab_iload X 0 d_MO_choose_40 rfl ?_
      refine ab_iload X 1 d_MO_choose_42 rfl ?_
      refine ab_if_ne X 52 d_MO_choose_44 rfl (fun hb => absurd ((by decide)) hb) (fun _ => ?_)
      refine ab_iload X 6 d_MO_choose_47 rfl ?_
      refine ab_goto X 54 d_MO_choose_49 rfl ?_
      refine ab_icmp_gt X 140 d_MO_choose_54 rfl (fun hb => absurd hb ((nI_nlt (by omega) (by omega)))) (fun _ => ?_)
      refine body 0 w _ _ hF hI hw.1 hw.2 (fun u2 F2 I2 => ?_)
      have P2 := F2.1
      have ef : fit (kd p1) (ar p1) (cn p1) ra (w + 1 - ra) = fit (kd p1) (ar p1) (cn p1) ra (w - ra) ++ (if apb (kd p1) (ar p1) (cn p1) w = true then [w] else []) := by
        rw [show w + 1 - ra = (w - ra) + 1 by omega]
        show fit (kd p1) (ar p1) (cn p1) ra (w - ra) ++ (if apb (kd p1) (ar p1) (cn p1) (ra + (w - ra)) = true then [ra + (w - ra)] else []) = _
        rw [show ra + (w - ra) = w by omega]
      refine ab_iinc8 X 0 1 2 3 4 5 6 7 8 d_MO_choose_134 rfl (by decide) rfl rfl rfl rfl rfl rfl rfl rfl rfl rfl rfl rfl rfl rfl rfl rfl ?_
      refine ab_goto X 40 d_MO_choose_137 rfl ?_
      rw [show nI w + Int32.ofInt 1 = nI (w + 1) from nI_1 w]
      exact ih (w + 1) _ (by omega) (by omega) F2 (by rw [ef, pks_app]; exact I2)
  refine ab_aload_n X 0 d_MO_choose_0 rfl rfl ?_
  refine ab_gR X fl_MO_48 d_MO_choose_1 (by first | assumption | decide | (show _ < 124; omega) | (show _ < 61; omega) | (show _ < 20; omega)) (P0.1.mo12) ?_
  refine ab_iload_n X 2 d_MO_choose_4 rfl rfl ?_
  refine ab_sipush (v := 10000) X d_MO_choose_5 (by decide) ?_
  refine ab_iast X (3 * p1 + j) ⟨rfl, rfl⟩ d_MO_choose_8 (by first | assumption | decide | (show _ < 124; omega) | (show _ < 61; omega) | (show _ < 20; omega)) (rfl) (show 3 * p1 + j < 72 by omega) (ab_ln_lt _ _) ?_
  refine ab_gen (fun u8 e8 => ?_)
  have P8 : gP [18, 19, 105, 106, 107] u u8 := by rw [e8]; exact P0.ui rfl (by decide)
  refine ab_aload_n X 0 d_MO_choose_9 rfl rfl ?_
  refine ab_gR X fl_MO_51 d_MO_choose_10 (by first | assumption | decide | (show _ < 124; omega) | (show _ < 61; omega) | (show _ < 20; omega)) (P8.1.mo13) ?_
  refine ab_iload_n X 2 d_MO_choose_13 rfl rfl ?_
  refine ab_sipush (v := 10000) X d_MO_choose_14 (by decide) ?_
  refine ab_iast X (3 * p1 + j) ⟨rfl, rfl⟩ d_MO_choose_17 (by first | assumption | decide | (show _ < 124; omega) | (show _ < 61; omega) | (show _ < 20; omega)) (rfl) (show 3 * p1 + j < 72 by omega) (ab_ln_lt _ _) ?_
  refine ab_gen (fun u17 e17 => ?_)
  have P17 : gP [18, 19, 105, 106, 107] u u17 := by rw [e17]; exact P8.ui rfl (by decide)
  refine ab_iconst (v := 0) X d_MO_choose_18 (by decide) ?_
  refine ab_istore7 X 0 1 2 3 4 5 6 d_MO_choose_19 (by decide) rfl rfl rfl rfl rfl rfl rfl rfl rfl rfl rfl rfl rfl rfl ?_
  refine ab_iload X 0 d_MO_choose_21 rfl ?_
  refine ab_iconst (v := 2) X d_MO_choose_23 (by decide) ?_
  refine ab_icmp_ge X 146 d_MO_choose_24 rfl (fun hb => absurd hb ((by decide))) (fun _ => ?_)
  refine ab_iload X 0 d_MO_choose_27 rfl ?_
  refine ab_if_ne X 36 d_MO_choose_29 rfl (fun hb => absurd (rfl) hb) (fun _ => ?_)
  refine ab_iload_n X 4 d_MO_choose_32 rfl rfl ?_
  refine ab_goto X 38 d_MO_choose_33 rfl ?_
  refine ab_istore8 X 0 1 2 3 4 5 6 7 d_MO_choose_38 (by decide) rfl rfl rfl rfl rfl rfl rfl rfl rfl rfl rfl rfl rfl rfl rfl rfl ?_
  exact in0 (rb + 1 - ra) ra _ (by omega) (by omega) ⟨P17, fun g hg => by rw [e17, e8]; simp [ab_up, hg]⟩ (by rw [show ra - ra = 0 by omega]; exact ⟨by rw [e17, e8]; exact (ui_n _ (by omega)).trans ((ui_s _).trans rfl), by rw [e17]; exact (ui_s _).trans rfl⟩)
end SaXMChoose

