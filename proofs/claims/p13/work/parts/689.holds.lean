/-! What holds: one function for both sides. -/
/-- whether a leaf holds -/
def hl (x y a1 a2 a3 a4 : Int32) : Int32 := if x = 1 then (if a1 >>> (y &&& 31) &&& 1 = 1 then 1 else 0) else if x = 2 then (if a2 >>> (y &&& 31) &&& 1 = 1 then 1 else 0) else if x = 3 then (if a3 < y then 0 else 1) else if x = 4 then (if a4 < y then 0 else 1) else 0
section Hl
variable {x y a1 a2 a3 a4 : Int32}
theorem hl1 : hl 1 y a1 a2 a3 a4 = if a1 >>> (y &&& 31) &&& 1 = 1 then 1 else 0 := if_pos rfl
theorem hl2 : hl 2 y a1 a2 a3 a4 = if a2 >>> (y &&& 31) &&& 1 = 1 then 1 else 0 := (if_neg (by decide)).trans (if_pos rfl)
theorem hl3 : hl 3 y a1 a2 a3 a4 = if a3 < y then 0 else 1 := (if_neg (by decide)).trans ((if_neg (by decide)).trans (if_pos rfl))
theorem hl4 : hl 4 y a1 a2 a3 a4 = if a4 < y then 0 else 1 := (if_neg (by decide)).trans ((if_neg (by decide)).trans ((if_neg (by decide)).trans (if_pos rfl)))
theorem hl0 (h1 : ¬ x = 1) (h2 : ¬ x = 2) (h3 : ¬ x = 3) (h4 : ¬ x = 4) : hl x y a1 a2 a3 a4 = 0 := (if_neg h1).trans ((if_neg h2).trans ((if_neg h3).trans (if_neg h4)))
theorem hl_b : hl x y a1 a2 a3 a4 = 0 ∨ hl x y a1 a2 a3 a4 = 1 := by
  unfold hl
  repeat' split
  all_goals first | exact Or.inl rfl | exact Or.inr rfl
end Hl
/-- how many hold -/
def hc (f : Nat → Int32) (c : Nat → Nat) : Nat → Nat
  | 0 => 0
  | i + 1 => hc f c i + (if f (c i) = 0 then 0 else 1)
theorem hc_le (f : Nat → Int32) (c : Nat → Nat) : ∀ n, hc f c n ≤ n := by
  intro n
  induction n with
  | zero => exact Nat.le_refl _
  | succ n ih =>
    show hc f c n + (if f (c n) = 0 then 0 else 1) ≤ n + 1
    split <;> omega
section HS
variable (kd ar cn : Nat → Nat) (ch : Nat → Nat → Nat) (a1 a2 a3 a4 : Int32)
def hS (f : Nat → Int32) (p : Nat) : Int32 := if kd p < 5 then hl (nI (kd p)) (nI (ar p)) a1 a2 a3 a4 else if hc f (ch p) (cn p) < cnu (kd p) (ar p) then 0 else 1
theorem hS_b (f : Nat → Int32) (p : Nat) : hS kd ar cn ch a1 a2 a3 a4 f p = 0 ∨ hS kd ar cn ch a1 a2 a3 a4 f p = 1 := by
  unfold hS
  split
  · exact hl_b
  · split
    · exact Or.inl rfl
    · exact Or.inr rfl
/-- the last n parts of M have been looked at -/
def hF (M : Nat) : Nat → Nat → Int32
  | 0 => fun _ => 0
  | n + 1 => fun y => if y = M - (n + 1) then hS kd ar cn ch a1 a2 a3 a4 (hF M n) (M - (n + 1)) else hF M n y
theorem hF_s {M n j : Nat} (h : j + (n + 1) = M) : hF kd ar cn ch a1 a2 a3 a4 M (n + 1) j = hS kd ar cn ch a1 a2 a3 a4 (hF kd ar cn ch a1 a2 a3 a4 M n) j := by
  show (if j = M - (n + 1) then _ else _) = _
  rw [if_pos (by omega), show M - (n + 1) = j by omega]
theorem hF_n {M n j q : Nat} (h : j + (n + 1) = M) (hq : q ≠ j) : hF kd ar cn ch a1 a2 a3 a4 M (n + 1) q = hF kd ar cn ch a1 a2 a3 a4 M n q := if_neg (by omega)
end HS
/-- after holds: only what was held has changed -/
def kH (u u' : ab_S) : Prop := CI u' ∧ cP [2, 6] u u' ∧ ∀ i k, k ≠ 7 → u'.1 2 i k = u.1 2 i k
theorem kH.w {u u1 u2 : ab_S} {p : Nat} {v : Int32} (h : kH u u1) (g : cP [2] u1 u2) (e : u2 = ab_ui u1 2 p 7 v) : kH u u2 := ⟨g.1, h.2.1.trans g (by decide), fun i k hk => by rw [e]; exact (ui_n _ (fun z => hk z.2.2)).trans (h.2.2 i k hk)⟩
section SaHolds
variable {l : Launch} {D : va_G} {ca : Nat → ClassId}
set_option maxRecDepth 100000 in
set_option maxHeartbeats 1000000 in
theorem t_FA_meetF (u : ab_S) (x y a1 a2 a3 a4 : Int32) (h : CI u) (f1 : u.1 6 0 0 = a1) (f2 : u.1 6 0 1 = a2) (f3 : u.1 6 0 2 = a3) (f4 : u.1 6 0 3 = a4) : ab_C false l D ca y_FA_meet b_FA_meet 3 (some FieldType.boolean) 0 ab_nQ u [ab_O 6 0, ab_I x, ab_I y] (fun u' v => u' = u ∧ v = some (ab_I (hl x y a1 a2 a3 a4))) := by
  refine ab_C.of (by decide) (Nat.le_of_ble_eq_true rfl) ?_
  intro p e s m args below meth c ad X hZ hr0 hlk
  have P0 : cP [6] u u := cQ.rf h
  refine ab_iload_n X 1 d_FA_meet_0 rfl rfl ?_
  refine ab_tsw X [(1, 32), (2, 50), (3, 68), (4, 82)] 96 d_FA_meet_1 (by decide +kernel) rfl (List.forall_mem_cons.mpr ⟨fun h1_1 => ?_, List.forall_mem_cons.mpr ⟨fun h1_2 => ?_, List.forall_mem_cons.mpr ⟨fun h1_3 => ?_, List.forall_mem_cons.mpr ⟨fun h1_4 => ?_, fun _ h => absurd h List.not_mem_nil⟩⟩⟩⟩) (fun h1 => ?_)
  ·
    obtain rfl : x = 1 := h1_1
    refine ab_aload_n X 0 d_FA_meet_32 rfl rfl ?_
    refine ab_gI X fl_FA_9 d_FA_meet_33 (by first | assumption | decide | (show _ < 124; omega) | (show _ < 61; omega) | (show _ < 20; omega)) (f1) ?_
    refine ab_iload_n X 2 d_FA_meet_36 rfl rfl ?_
    refine ab_ishr X d_FA_meet_37 ?_
    refine ab_iconst (v := 1) X d_FA_meet_38 (by decide) ?_
    refine ab_iand X d_FA_meet_39 ?_
    refine ab_iconst (v := 1) X d_FA_meet_40 (by decide) ?_
    refine ab_icmp_ne X 48 d_FA_meet_41 rfl (fun h41 => ?_) (fun h41 => ?_)
    ·
      refine ab_iconst (v := 0) X d_FA_meet_48 (by decide) ?_
      exact ab_retz X hr0 hlk (by first | exact Or.inl rfl | exact Or.inr rfl) d_FA_meet_49 ⟨rfl, by first | rw [hl1, if_pos h41] | rw [hl1, if_neg h41] | rw [hl2, if_pos h59] | rw [hl2, if_neg h59] | rw [hl3, if_pos h73] | rw [hl3, if_neg h73] | rw [hl4, if_pos h87] | rw [hl4, if_neg h87] | rw [hx0]⟩
    ·
      refine ab_iconst (v := 1) X d_FA_meet_44 (by decide) ?_
      refine ab_goto X 49 d_FA_meet_45 rfl ?_
      exact ab_retz X hr0 hlk (by first | exact Or.inl rfl | exact Or.inr rfl) d_FA_meet_49 ⟨rfl, by first | rw [hl1, if_pos h41] | rw [hl1, if_neg h41] | rw [hl2, if_pos h59] | rw [hl2, if_neg h59] | rw [hl3, if_pos h73] | rw [hl3, if_neg h73] | rw [hl4, if_pos h87] | rw [hl4, if_neg h87] | rw [hx0]⟩
  ·
    obtain rfl : x = 2 := h1_2
    refine ab_aload_n X 0 d_FA_meet_50 rfl rfl ?_
    refine ab_gI X fl_FA_15 d_FA_meet_51 (by first | assumption | decide | (show _ < 124; omega) | (show _ < 61; omega) | (show _ < 20; omega)) (f2) ?_
    refine ab_iload_n X 2 d_FA_meet_54 rfl rfl ?_
    refine ab_ishr X d_FA_meet_55 ?_
    refine ab_iconst (v := 1) X d_FA_meet_56 (by decide) ?_
    refine ab_iand X d_FA_meet_57 ?_
    refine ab_iconst (v := 1) X d_FA_meet_58 (by decide) ?_
    refine ab_icmp_ne X 66 d_FA_meet_59 rfl (fun h59 => ?_) (fun h59 => ?_)
    ·
      refine ab_iconst (v := 0) X d_FA_meet_66 (by decide) ?_
      exact ab_retz X hr0 hlk (by first | exact Or.inl rfl | exact Or.inr rfl) d_FA_meet_67 ⟨rfl, by first | rw [hl1, if_pos h41] | rw [hl1, if_neg h41] | rw [hl2, if_pos h59] | rw [hl2, if_neg h59] | rw [hl3, if_pos h73] | rw [hl3, if_neg h73] | rw [hl4, if_pos h87] | rw [hl4, if_neg h87] | rw [hx0]⟩
    ·
      refine ab_iconst (v := 1) X d_FA_meet_62 (by decide) ?_
      refine ab_goto X 67 d_FA_meet_63 rfl ?_
      exact ab_retz X hr0 hlk (by first | exact Or.inl rfl | exact Or.inr rfl) d_FA_meet_67 ⟨rfl, by first | rw [hl1, if_pos h41] | rw [hl1, if_neg h41] | rw [hl2, if_pos h59] | rw [hl2, if_neg h59] | rw [hl3, if_pos h73] | rw [hl3, if_neg h73] | rw [hl4, if_pos h87] | rw [hl4, if_neg h87] | rw [hx0]⟩
  ·
    obtain rfl : x = 3 := h1_3
    refine ab_aload_n X 0 d_FA_meet_68 rfl rfl ?_
    refine ab_gI X fl_FA_18 d_FA_meet_69 (by first | assumption | decide | (show _ < 124; omega) | (show _ < 61; omega) | (show _ < 20; omega)) (f3) ?_
    refine ab_iload_n X 2 d_FA_meet_72 rfl rfl ?_
    refine ab_icmp_lt X 80 d_FA_meet_73 rfl (fun h73 => ?_) (fun h73 => ?_)
    ·
      refine ab_iconst (v := 0) X d_FA_meet_80 (by decide) ?_
      exact ab_retz X hr0 hlk (by first | exact Or.inl rfl | exact Or.inr rfl) d_FA_meet_81 ⟨rfl, by first | rw [hl1, if_pos h41] | rw [hl1, if_neg h41] | rw [hl2, if_pos h59] | rw [hl2, if_neg h59] | rw [hl3, if_pos h73] | rw [hl3, if_neg h73] | rw [hl4, if_pos h87] | rw [hl4, if_neg h87] | rw [hx0]⟩
    ·
      refine ab_iconst (v := 1) X d_FA_meet_76 (by decide) ?_
      refine ab_goto X 81 d_FA_meet_77 rfl ?_
      exact ab_retz X hr0 hlk (by first | exact Or.inl rfl | exact Or.inr rfl) d_FA_meet_81 ⟨rfl, by first | rw [hl1, if_pos h41] | rw [hl1, if_neg h41] | rw [hl2, if_pos h59] | rw [hl2, if_neg h59] | rw [hl3, if_pos h73] | rw [hl3, if_neg h73] | rw [hl4, if_pos h87] | rw [hl4, if_neg h87] | rw [hx0]⟩
  ·
    obtain rfl : x = 4 := h1_4
    refine ab_aload_n X 0 d_FA_meet_82 rfl rfl ?_
    refine ab_gI X fl_FA_21 d_FA_meet_83 (by first | assumption | decide | (show _ < 124; omega) | (show _ < 61; omega) | (show _ < 20; omega)) (f4) ?_
    refine ab_iload_n X 2 d_FA_meet_86 rfl rfl ?_
    refine ab_icmp_lt X 94 d_FA_meet_87 rfl (fun h87 => ?_) (fun h87 => ?_)
    ·
      refine ab_iconst (v := 0) X d_FA_meet_94 (by decide) ?_
      exact ab_retz X hr0 hlk (by first | exact Or.inl rfl | exact Or.inr rfl) d_FA_meet_95 ⟨rfl, by first | rw [hl1, if_pos h41] | rw [hl1, if_neg h41] | rw [hl2, if_pos h59] | rw [hl2, if_neg h59] | rw [hl3, if_pos h73] | rw [hl3, if_neg h73] | rw [hl4, if_pos h87] | rw [hl4, if_neg h87] | rw [hx0]⟩
    ·
      refine ab_iconst (v := 1) X d_FA_meet_90 (by decide) ?_
      refine ab_goto X 95 d_FA_meet_91 rfl ?_
      exact ab_retz X hr0 hlk (by first | exact Or.inl rfl | exact Or.inr rfl) d_FA_meet_95 ⟨rfl, by first | rw [hl1, if_pos h41] | rw [hl1, if_neg h41] | rw [hl2, if_pos h59] | rw [hl2, if_neg h59] | rw [hl3, if_pos h73] | rw [hl3, if_neg h73] | rw [hl4, if_pos h87] | rw [hl4, if_neg h87] | rw [hx0]⟩
  ·
    have hx0 : hl x y a1 a2 a3 a4 = 0 := hl0 (h1 (1, 32) (by simp)) (h1 (2, 50) (by simp)) (h1 (3, 68) (by simp)) (h1 (4, 82) (by simp))
    refine ab_iconst (v := 0) X d_FA_meet_96 (by decide) ?_
    exact ab_retz X hr0 hlk (by first | exact Or.inl rfl | exact Or.inr rfl) d_FA_meet_97 ⟨rfl, by first | rw [hl1, if_pos h41] | rw [hl1, if_neg h41] | rw [hl2, if_pos h59] | rw [hl2, if_neg h59] | rw [hl3, if_pos h73] | rw [hl3, if_neg h73] | rw [hl4, if_pos h87] | rw [hl4, if_neg h87] | rw [hx0]⟩
set_option maxRecDepth 100000 in
set_option maxHeartbeats 1000000 in
theorem f_FA_set (u : ab_S) (a b c' d' : Int32) (h : CI u) : ab_C false l D ca y_FA_set b_FA_set 5 none 0 ab_nQ u [ab_O 6 0, ab_I a, ab_I b, ab_I c', ab_I d'] (fun u' v => cP [6] u u' ∧ (u'.1 6 0 0 = a ∧ u'.1 6 0 1 = b ∧ u'.1 6 0 2 = c' ∧ u'.1 6 0 3 = d') ∧ v = none) := by
  refine ab_C.of (by decide) (Nat.le_of_ble_eq_true rfl) ?_
  intro p e s m args below meth c ad X hZ hr0 hlk
  have P0 : cP [6] u u := cQ.rf h
  refine ab_aload_n X 0 d_FA_set_0 rfl rfl ?_
  refine ab_iload_n X 1 d_FA_set_1 rfl rfl ?_
  refine ab_putI X fp_FA_9 d_FA_set_2 (by first | assumption | decide | (show _ < 124; omega) | (show _ < 61; omega) | (show _ < 20; omega)) rfl rfl ?_
  refine ab_gen (fun u2 e2 => ?_)
  have P2 : cP [6] u u2 := by rw [e2]; exact P0.ui rfl (by decide)
  refine ab_aload_n X 0 d_FA_set_5 rfl rfl ?_
  refine ab_iload_n X 2 d_FA_set_6 rfl rfl ?_
  refine ab_putI X fp_FA_15 d_FA_set_7 (by first | assumption | decide | (show _ < 124; omega) | (show _ < 61; omega) | (show _ < 20; omega)) rfl rfl ?_
  refine ab_gen (fun u7 e7 => ?_)
  have P7 : cP [6] u u7 := by rw [e7]; exact P2.ui rfl (by decide)
  refine ab_aload_n X 0 d_FA_set_10 rfl rfl ?_
  refine ab_iload_n X 3 d_FA_set_11 rfl rfl ?_
  refine ab_putI X fp_FA_18 d_FA_set_12 (by first | assumption | decide | (show _ < 124; omega) | (show _ < 61; omega) | (show _ < 20; omega)) rfl rfl ?_
  refine ab_gen (fun u12 e12 => ?_)
  have P12 : cP [6] u u12 := by rw [e12]; exact P7.ui rfl (by decide)
  refine ab_aload_n X 0 d_FA_set_15 rfl rfl ?_
  refine ab_iload X 4 d_FA_set_16 rfl ?_
  refine ab_putI X fp_FA_21 d_FA_set_18 (by first | assumption | decide | (show _ < 124; omega) | (show _ < 61; omega) | (show _ < 20; omega)) rfl rfl ?_
  refine ab_gen (fun u18 e18 => ?_)
  have P18 : cP [6] u u18 := by rw [e18]; exact P12.ui rfl (by decide)
  exact ab_retv X hr0 hlk d_FA_set_21 ⟨P18, ⟨by rw [e18, e12, e7, e2]; simp [ab_up], by rw [e18, e12, e7]; simp [ab_up], by rw [e18, e12]; simp [ab_up], by rw [e18]; simp [ab_up]⟩, rfl⟩
set_option maxRecDepth 100000 in
set_option maxHeartbeats 1000000 in
theorem f_PT_weigh (u : ab_S) (pp M : Nat) (kd ar cn lf : Nat → Nat) (ch : Nat → Nat → Nat) (W : tW M kd ar cn lf ch) (hp : pp < M) (f : Nat → Int32) (a1 a2 a3 a4 : Int32) (h : CI u) (f1 : u.1 6 0 0 = a1) (f2 : u.1 6 0 1 = a2) (f3 : u.1 6 0 2 = a3) (f4 : u.1 6 0 3 = a4) (mm : pm kd ar cn ch pp u) (hf : ∀ q, pp < q → q < M → u.1 2 (q + 1) 7 = f q) : ab_C false l D ca y_PT_weigh b_PT_weigh 4 none 1 ab_nQ u [ab_O 2 (pp + 1), ab_O 6 0] (fun u' v => cP [2] u u' ∧ u' = ab_ui u 2 (pp + 1) 7 (hS kd ar cn ch a1 a2 a3 a4 f pp) ∧ v = none) := by
  refine ab_C.of (by decide) (Nat.le_of_ble_eq_true rfl) ?_
  intro p e s m args below meth c ad X hZ hr0 hlk
  have P0 : cP [2] u u := cQ.rf h
  have hP19 := W.2.1
  obtain ⟨m4, m5, m6, m7⟩ := mm
  obtain ⟨⟨l1, l2, k1, k7, r9⟩, kl, kb⟩ := W.2.2 pp hp
  have ek : u.1 2 (pp + 1) 4 = ab_kinds (kd pp - 1) := by rw [m4, ck_kd (kd pp - 1) (by omega), show kd pp - 1 + 1 = kd pp by omega]
  have bb := hS_b kd ar cn ch a1 a2 a3 a4 f pp
  by_cases h5 : kd pp < 5
  · have eS : hS kd ar cn ch a1 a2 a3 a4 f pp = hl (nI (kd pp)) (nI (ar pp)) a1 a2 a3 a4 := if_pos h5
    have e4 : u.1 2 (pp + 1) 4 = nI (kd pp) := by rw [m4]; unfold ck; rw [if_pos h5]
    have e5 : u.1 2 (pp + 1) 5 = nI (ar pp) := by rw [m5]; unfold cnu; rw [if_neg (by omega), if_neg (by omega)]
    refine ab_aload_n X 0 d_PT_weigh_0 rfl rfl ?_
    refine ab_gI X fl_PT_30 d_PT_weigh_1 (by first | assumption | decide | (show _ < 124; omega) | (show _ < 61; omega) | (show _ < 20; omega)) (ek) ?_
    refine ab_callSN (as := [ab_I (ab_kinds (kd pp - 1))]) X (fun h => by cases h) (t_PF_leafk u (kd pp - 1) h (by omega)) ls_PT_44 d_PT_weigh_4 rfl rfl ⟨by first | exact Nat.le_of_ble_eq_true rfl | (simp only [ab_rm]; omega), by first | exact Nat.le_of_ble_eq_true rfl | (simp only [ab_rm]; omega)⟩ ⟨by first | exact Nat.le_of_ble_eq_true rfl | (simp only [ab_rm]; omega), by first | exact Nat.le_of_ble_eq_true rfl | (simp only [ab_rm]; omega)⟩ (Nat.le_of_ble_eq_true rfl) (fun u4 r4 h4 => ?_)
    obtain ⟨e4, rfl⟩ := h4
    subst u4
    refine ab_if_eq X 27 d_PT_weigh_7 rfl (fun hb => absurd hb ((by rw [if_pos (by omega)]; decide))) (fun _ => ?_)
    refine ab_aload_n X 0 d_PT_weigh_10 rfl rfl ?_
    refine ab_aload_n X 1 d_PT_weigh_11 rfl rfl ?_
    refine ab_aload_n X 0 d_PT_weigh_12 rfl rfl ?_
    refine ab_gI X fl_PT_30 d_PT_weigh_13 (by first | assumption | decide | (show _ < 124; omega) | (show _ < 61; omega) | (show _ < 20; omega)) (e4) ?_
    refine ab_aload_n X 0 d_PT_weigh_16 rfl rfl ?_
    refine ab_gI X fl_PT_34 d_PT_weigh_17 (by first | assumption | decide | (show _ < 124; omega) | (show _ < 61; omega) | (show _ < 20; omega)) (e5) ?_
    refine ab_callV (as := [ab_I (nI (kd pp)), ab_I (nI (ar pp))]) X (fun h => by cases h) (t_FA_meetF u _ _ a1 a2 a3 a4 h f1 f2 f3 f4) lk_PT_48 d_PT_weigh_20 rfl rfl (by first | assumption | decide | (show _ < 124; omega) | (show _ < 61; omega) | (show _ < 20; omega)) ⟨by first | exact Nat.le_of_ble_eq_true rfl | (simp only [ab_rm]; omega), by first | exact Nat.le_of_ble_eq_true rfl | (simp only [ab_rm]; omega)⟩ ⟨by first | exact Nat.le_of_ble_eq_true rfl | (simp only [ab_rm]; omega), by first | exact Nat.le_of_ble_eq_true rfl | (simp only [ab_rm]; omega)⟩ (Nat.le_of_ble_eq_true rfl) (fun u20 r20 h20 => ?_)
    obtain ⟨e20, rfl⟩ := h20
    subst u20
    rw [← eS]
    refine ab_putI X fp_PT_40 d_PT_weigh_23 (by first | assumption | decide | (show _ < 124; omega) | (show _ < 61; omega) | (show _ < 20; omega)) (by rcases bb with z | z <;> rw [z] <;> rfl) (by rcases bb with z | z <;> rw [z] <;> rfl) ?_
    refine ab_gen (fun u23 e23 => ?_)
    have P23 : cP [2] u u23 := by rw [e23]; exact P0.hd (by decide) bb
    exact ab_retv X hr0 hlk d_PT_weigh_26 ⟨P23, e23, rfl⟩
  · obtain ⟨n2, n4, n5, n7, b5, -⟩ := kb (by omega)
    have eS : hS kd ar cn ch a1 a2 a3 a4 f pp = if hc f (ch pp) (cn pp) < cnu (kd pp) (ar pp) then 0 else 1 := if_neg h5
    have cu4 : cnu (kd pp) (ar pp) ≤ 4 := by unfold cnu; split; (· omega); split; (· omega); have := n7 (by omega); omega
    have loop : ∀ (k i : Nat), k + i = cn pp → ab_J p l e (ab_rm 1 0 0) s m args below meth c (MQ below (ab_Q D ca ad ab_nQ s.heap.size (fun u' v => cP [2] u u' ∧ u' = ab_ui u 2 (pp + 1) 7 (hS kd ar cn ch a1 a2 a3 a4 f pp) ∧ v = none)) args s 0 0 (ab_A ad ab_nQ s.heap.size)) D ca (ab_A ad ab_nQ s.heap.size) s.heap 4 0 0 ad ab_nQ u 31 [(3, ab_I (nI i)), (2, ab_I (nI (hc f (ch pp) i))), (0, ab_O 2 (pp + 1)), (1, ab_O 6 0)] [] := by
      intro k
      induction k with
      | zero =>
        intro i hi
        obtain rfl : i = cn pp := by omega
        have h4 := hc_le f (ch pp) (cn pp)
        refine ab_iload_n X 0 d_PT_weigh_31 rfl rfl ?_
        refine ab_aload_n X 2 d_PT_weigh_32 rfl rfl ?_
        refine ab_gI X fl_PT_37 d_PT_weigh_33 (by first | assumption | decide | (show _ < 124; omega) | (show _ < 61; omega) | (show _ < 20; omega)) (m6) ?_
        refine ab_icmp_ge X 65 d_PT_weigh_36 rfl (fun _ => ?_) (fun hb => absurd ((nI_le (Nat.le_refl _) (by omega))) hb)
        refine ab_aload_n X 2 d_PT_weigh_65 rfl rfl ?_
        refine ab_iload_n X 1 d_PT_weigh_66 rfl rfl ?_
        refine ab_aload_n X 2 d_PT_weigh_67 rfl rfl ?_
        refine ab_gI X fl_PT_34 d_PT_weigh_68 (by first | assumption | decide | (show _ < 124; omega) | (show _ < 61; omega) | (show _ < 20; omega)) (m5) ?_
        refine ab_icmp_lt X 78 d_PT_weigh_71 rfl (fun h71 => ?_) (fun h71 => ?_)
        ·
          have eS2 : hS kd ar cn ch a1 a2 a3 a4 f pp = 0 := eS.trans (if_pos (nI_ltl h71 (by omega)))
          refine ab_iconst (v := 0) X d_PT_weigh_78 (by decide) ?_
          refine ab_putI X fp_PT_40 d_PT_weigh_79 (by first | assumption | decide | (show _ < 124; omega) | (show _ < 61; omega) | (show _ < 20; omega)) rfl rfl ?_
          refine ab_gen (fun u79 e79 => ?_)
          have P79 : cP [2] u u79 := by rw [e79]; exact P0.hd (by decide) (by first | exact Or.inl rfl | exact Or.inr rfl)
          exact ab_retv X hr0 hlk d_PT_weigh_82 ⟨P79, by rw [eS2]; exact e79, rfl⟩
        ·
          have eS2 : hS kd ar cn ch a1 a2 a3 a4 f pp = 1 := eS.trans (if_neg (fun z => h71 (nI_lt z (by omega))))
          refine ab_iconst (v := 1) X d_PT_weigh_74 (by decide) ?_
          refine ab_goto X 79 d_PT_weigh_75 rfl ?_
          refine ab_putI X fp_PT_40 d_PT_weigh_79 (by first | assumption | decide | (show _ < 124; omega) | (show _ < 61; omega) | (show _ < 20; omega)) rfl rfl ?_
          refine ab_gen (fun u79 e79 => ?_)
          have P79 : cP [2] u u79 := by rw [e79]; exact P0.hd (by decide) (by first | exact Or.inl rfl | exact Or.inr rfl)
          exact ab_retv X hr0 hlk d_PT_weigh_82 ⟨P79, by rw [eS2]; exact e79, rfl⟩
      | succ k ih =>
        intro i hi
        obtain ⟨c1, c2⟩ := b5 i (by omega)
        refine ab_iload_n X 0 d_PT_weigh_31 rfl rfl ?_
        refine ab_aload_n X 2 d_PT_weigh_32 rfl rfl ?_
        refine ab_gI X fl_PT_37 d_PT_weigh_33 (by first | assumption | decide | (show _ < 124; omega) | (show _ < 61; omega) | (show _ < 20; omega)) (m6) ?_
        refine ab_icmp_ge X 65 d_PT_weigh_36 rfl (fun hb => absurd hb ((nI_ge (by omega) (by omega)))) (fun _ => ?_)
        refine ab_iload_n X 1 d_PT_weigh_39 rfl rfl ?_
        refine ab_aload_n X 2 d_PT_weigh_40 rfl rfl ?_
        refine ab_gR X fl_PT_11 d_PT_weigh_41 (by first | assumption | decide | (show _ < 124; omega) | (show _ < 61; omega) | (show _ < 20; omega)) (P0.1.pt0 (by first | assumption | decide | omega)) ?_
        refine ab_iload_n X 0 d_PT_weigh_44 rfl rfl ?_
        refine ab_aalv X (i) ⟨rfl, _, fun _ => rfl⟩ d_PT_weigh_45 (by first | assumption | decide | (show _ < 124; omega) | (show _ < 61; omega) | (show _ < 20; omega)) (rfl) (show i < 4 by omega) (ab_ln_lt _ _) (m7 i (by omega)) ?_
        refine ab_gI X fl_PT_40 d_PT_weigh_46 (by first | assumption | decide | (show _ < 124; omega) | (show _ < 61; omega) | (show _ < 20; omega)) (hf (ch pp i) c1 c2) ?_
        refine ab_if_eq X 56 d_PT_weigh_49 rfl (fun h49 => ?_) (fun h49 => ?_)
        ·
          have hz : hc f (ch pp) (i + 1) = hc f (ch pp) i := by show hc f (ch pp) i + (if f (ch pp i) = 0 then 0 else 1) = _; rw [if_pos h49]; rfl
          have hz2 : nI (hc f (ch pp) i) + 0 = nI (hc f (ch pp) (i + 1)) := by rw [hz]; exact Int32.add_zero _
          refine ab_iconst (v := 0) X d_PT_weigh_56 (by decide) ?_
          refine ab_iadd X d_PT_weigh_57 ?_
          refine ab_top hz2 ?_
          refine ab_istore_n3 X 0 2 3 d_PT_weigh_58 rfl (by decide) rfl rfl rfl rfl rfl rfl ?_
          refine ab_iinc3 X 1 0 2 3 d_PT_weigh_59 rfl (by decide) rfl rfl rfl rfl rfl rfl ?_
          refine ab_goto X 31 d_PT_weigh_62 rfl ?_
          rw [show nI i + Int32.ofInt 1 = nI (i + 1) from nI_1 i]
          exact ih (i + 1) (by omega)
        ·
          have hz : hc f (ch pp) (i + 1) = hc f (ch pp) i + 1 := by show hc f (ch pp) i + (if f (ch pp i) = 0 then 0 else 1) = _; rw [if_neg h49]
          have hz2 : nI (hc f (ch pp) i) + 1 = nI (hc f (ch pp) (i + 1)) := by rw [hz]; exact nI_1 _
          refine ab_iconst (v := 1) X d_PT_weigh_52 (by decide) ?_
          refine ab_goto X 57 d_PT_weigh_53 rfl ?_
          refine ab_iadd X d_PT_weigh_57 ?_
          refine ab_top hz2 ?_
          refine ab_istore_n3 X 0 2 3 d_PT_weigh_58 rfl (by decide) rfl rfl rfl rfl rfl rfl ?_
          refine ab_iinc3 X 1 0 2 3 d_PT_weigh_59 rfl (by decide) rfl rfl rfl rfl rfl rfl ?_
          refine ab_goto X 31 d_PT_weigh_62 rfl ?_
          rw [show nI i + Int32.ofInt 1 = nI (i + 1) from nI_1 i]
          exact ih (i + 1) (by omega)
    refine ab_aload_n X 0 d_PT_weigh_0 rfl rfl ?_
    refine ab_gI X fl_PT_30 d_PT_weigh_1 (by first | assumption | decide | (show _ < 124; omega) | (show _ < 61; omega) | (show _ < 20; omega)) (ek) ?_
    refine ab_callSN (as := [ab_I (ab_kinds (kd pp - 1))]) X (fun h => by cases h) (t_PF_leafk u (kd pp - 1) h (by omega)) ls_PT_44 d_PT_weigh_4 rfl rfl ⟨by first | exact Nat.le_of_ble_eq_true rfl | (simp only [ab_rm]; omega), by first | exact Nat.le_of_ble_eq_true rfl | (simp only [ab_rm]; omega)⟩ ⟨by first | exact Nat.le_of_ble_eq_true rfl | (simp only [ab_rm]; omega), by first | exact Nat.le_of_ble_eq_true rfl | (simp only [ab_rm]; omega)⟩ (Nat.le_of_ble_eq_true rfl) (fun u4 r4 h4 => ?_)
    obtain ⟨e4, rfl⟩ := h4
    subst u4
    refine ab_if_eq X 27 d_PT_weigh_7 rfl (fun _ => ?_) (fun hb => absurd ((by rw [if_neg (by omega)])) hb)
    refine ab_iconst (v := 0) X d_PT_weigh_27 (by decide) ?_
    refine ab_istore_n2 X 0 1 d_PT_weigh_28 rfl (by decide) rfl rfl rfl rfl ?_
    refine ab_iconst (v := 0) X d_PT_weigh_29 (by decide) ?_
    refine ab_istore_n3 X 0 1 2 d_PT_weigh_30 rfl (by decide) rfl rfl rfl rfl rfl rfl ?_
    exact loop (cn pp) 0 (by omega)
set_option maxRecDepth 100000 in
set_option maxHeartbeats 1000000 in
theorem f_PF_holds (hfl : ab_fl0 l) (u : ab_S) (a1 a2 a3 a4 : Int32) (M : Nat) (kd ar cn lf : Nat → Nat) (ch : Nat → Nat → Nat) (h : CI u) (hp : u.2.1 0 0 7 = none ∨ (u.2.1 0 0 7 = some (2, 1) ∧ tW M kd ar cn lf ch ∧ cT M kd ar cn ch u)) : ab_CT l D ca y_PF_holds b_PF_holds 6 (some FieldType.boolean) 8 ab_nQ u [ab_O 0 0, ab_I a1, ab_I a2, ab_I a3, ab_I a4] (fun u' v => u.2.1 0 0 7 = some (2, 1) ∧ kH u u' ∧ v = some (ab_I (hF kd ar cn ch a1 a2 a3 a4 M M 0))) (fun u' E => (u' = u ∧ u.2.1 0 0 7 = none) ∧ E = ab_NSE) := by
  refine ab_CT.of (by decide) (Nat.le_of_ble_eq_true rfl) ?_
  intro p e s m args below meth c ad X hZ hW0 hnh hr0 hlk
  have P0 : kH u u := ⟨h, cQ.rf h, fun _ _ _ => rfl⟩
  rcases hp with hn | ⟨hg, W, C⟩
  ·
    refine ab_aload_n X 0 d_PF_holds_0 rfl rfl ?_
    refine ab_gR X fl_PF_58 d_PF_holds_1 (by first | assumption | decide | (show _ < 124; omega) | (show _ < 61; omega) | (show _ < 20; omega)) (hn) ?_
    refine ab_ifnonnull X 15 d_PF_holds_4 rfl (fun hb => absurd (rfl) hb) (fun _ => ?_)
    exact ab_throw (cells := 0) (slots := 0) X hfl hZ hW0 hnh hlk ow_PF_107 d_PF_holds_7 d_PF_holds_10 d_PF_holds_11 d_PF_holds_14 ⟨Nat.le_of_ble_eq_true rfl, Nat.le_of_ble_eq_true rfl⟩ ⟨Nat.le_of_ble_eq_true rfl, Nat.le_of_ble_eq_true rfl⟩ ⟨⟨rfl, hn⟩, rfl⟩
  · have hP19 := W.2.1
    have loop : ∀ (j n : Nat) (u1 : ab_S), j + n = M → kH u u1 → (u1.1 6 0 0 = a1 ∧ u1.1 6 0 1 = a2 ∧ u1.1 6 0 2 = a3 ∧ u1.1 6 0 3 = a4) → (∀ q, j ≤ q → q < M → u1.1 2 (q + 1) 7 = hF kd ar cn ch a1 a2 a3 a4 M n q) → ab_J p l e (ab_rm 8 1 6) s m args below meth c (ab_MQ below (ab_QT D ca ad ab_nQ s.heap.size (fun u' v => u.2.1 0 0 7 = some (2, 1) ∧ kH u u' ∧ v = some (ab_I (hF kd ar cn ch a1 a2 a3 a4 M M 0))) (fun u' E => (u' = u ∧ u.2.1 0 0 7 = none) ∧ E = ab_NSE)) args s 1 6 (ab_A ad ab_nQ s.heap.size)) D ca (ab_A ad ab_nQ s.heap.size) s.heap 6 0 0 ad ab_nQ u1 38 [(5, ab_I (nI j - 1)), (0, ab_O 0 0), (1, ab_I a1), (2, ab_I a2), (3, ab_I a3), (4, ab_I a4)] [] := by
      intro j
      induction j with
      | zero =>
        intro n u1 hj P1 ff hq
        obtain rfl : n = M := by omega
        have e7 := hq 0 (Nat.le_refl _) W.1
        have eg : u1.2.1 0 0 7 = some (2, 1) := P1.2.1.rr (by decide) hg
        refine ab_iload X 0 d_PF_holds_38 rfl ?_
        refine ab_if_lt X 66 d_PF_holds_40 rfl (fun _ => ?_) (fun hb => absurd ((by decide)) hb)
        refine ab_aload_n X 1 d_PF_holds_66 rfl rfl ?_
        refine ab_gR X fl_PF_58 d_PF_holds_67 (by first | assumption | decide | (show _ < 124; omega) | (show _ < 61; omega) | (show _ < 20; omega)) (eg) ?_
        refine ab_gI X fl_PF_118 d_PF_holds_70 (by first | assumption | decide | (show _ < 124; omega) | (show _ < 61; omega) | (show _ < 20; omega)) (e7) ?_
        exact ab_retTz X hr0 hlk (by have := P1.1.held (p := 0 + 1) (by decide); rw [e7] at this; exact this) d_PF_holds_73 ⟨hg, P1, rfl⟩
      | succ j ih =>
        intro n u1 hj P1 ff hq
        rw [nI_m1 (by omega), show j + 1 - 1 = j by omega]
        have m1 : pm kd ar cn ch j u1 := (C.2.2 hP19 j (by omega)).cong (fun i k z => P1.2.2 i k (by omega)) (fun i k => (P1.2.1.2.2.1 10 i k (by decide)).2)
        refine ab_iload X 0 d_PF_holds_38 rfl ?_
        refine ab_if_lt X 66 d_PF_holds_40 rfl (fun hb => absurd hb ((nI_pos (by omega)))) (fun _ => ?_)
        refine ab_aload_n X 1 d_PF_holds_43 rfl rfl ?_
        refine ab_gR X fl_PF_12 d_PF_holds_44 (by first | assumption | decide | (show _ < 124; omega) | (show _ < 61; omega) | (show _ < 20; omega)) (P1.1.pf0) ?_
        refine ab_gR X fl_PF_84 d_PF_holds_47 (by first | assumption | decide | (show _ < 124; omega) | (show _ < 61; omega) | (show _ < 20; omega)) (P1.1.rd1) ?_
        refine ab_iload X 0 d_PF_holds_50 rfl ?_
        refine ab_aalv X (j) ⟨rfl, _, fun _ => rfl⟩ d_PF_holds_52 (by first | assumption | decide | (show _ < 124; omega) | (show _ < 61; omega) | (show _ < 20; omega)) (rfl) (show j < 19 by omega) (ab_ln_lt _ _) (P1.1.rp (by omega)) ?_
        refine ab_aload_n X 1 d_PF_holds_53 rfl rfl ?_
        refine ab_gR X fl_PF_44 d_PF_holds_54 (by first | assumption | decide | (show _ < 124; omega) | (show _ < 61; omega) | (show _ < 20; omega)) (P1.1.pf4) ?_
        refine ab_callV (as := [ab_O 6 0]) X (fun h => by cases h) (f_PT_weigh u1 j M kd ar cn lf ch W (by omega) (hF kd ar cn ch a1 a2 a3 a4 M n) a1 a2 a3 a4 P1.1 ff.1 ff.2.1 ff.2.2.1 ff.2.2.2 m1 (fun q a b => hq q (by omega) b)) lk_PF_114 d_PF_holds_57 rfl rfl (by first | assumption | decide | (show _ < 124; omega) | (show _ < 61; omega) | (show _ < 20; omega)) ⟨by first | exact Nat.le_of_ble_eq_true rfl | (simp only [ab_rm]; omega), by first | exact Nat.le_of_ble_eq_true rfl | (simp only [ab_rm]; omega)⟩ ⟨by first | exact Nat.le_of_ble_eq_true rfl | (simp only [ab_rm]; omega), by first | exact Nat.le_of_ble_eq_true rfl | (simp only [ab_rm]; omega)⟩ (Nat.le_of_ble_eq_true rfl) (fun u57 r57 h57 => ?_)
        obtain ⟨q57, e57, rfl⟩ := h57
        have P57 := kH.w P1 q57 e57
        refine ab_iinc5 X 0 1 2 3 4 5 d_PF_holds_60 rfl (by decide) rfl rfl rfl rfl rfl rfl rfl rfl rfl rfl ?_
        refine ab_goto X 38 d_PF_holds_63 rfl ?_
        rw [show nI j + Int32.ofInt (-1) = nI j - 1 from by rw [Int32.sub_eq_add_neg]; rfl]
        refine ih (n + 1) _ (by omega) P57 ⟨q57.ii (by decide) ff.1, q57.ii (by decide) ff.2.1, q57.ii (by decide) ff.2.2.1, q57.ii (by decide) ff.2.2.2⟩ (fun q a b => ?_)
        by_cases z : q = j
        · rw [z, hF_s kd ar cn ch a1 a2 a3 a4 (by omega), e57]; exact ui_s _
        · rw [hF_n kd ar cn ch a1 a2 a3 a4 (j := j) (by omega) z, e57]; exact (ui_n _ (by omega)).trans (hq q (by omega) b)
    refine ab_aload_n X 0 d_PF_holds_0 rfl rfl ?_
    refine ab_gR X fl_PF_58 d_PF_holds_1 (by first | assumption | decide | (show _ < 124; omega) | (show _ < 61; omega) | (show _ < 20; omega)) (hg) ?_
    refine ab_ifnonnull X 15 d_PF_holds_4 rfl (fun _ => ?_) (fun hb => absurd hb ((by intro z; cases z)))
    refine ab_aload_n X 0 d_PF_holds_15 rfl rfl ?_
    refine ab_gR X fl_PF_44 d_PF_holds_16 (by first | assumption | decide | (show _ < 124; omega) | (show _ < 61; omega) | (show _ < 20; omega)) (P0.1.pf4) ?_
    refine ab_iload_n X 1 d_PF_holds_19 rfl rfl ?_
    refine ab_iload_n X 2 d_PF_holds_20 rfl rfl ?_
    refine ab_iload_n X 3 d_PF_holds_21 rfl rfl ?_
    refine ab_iload X 4 d_PF_holds_22 rfl ?_
    refine ab_callV (as := [ab_I a1, ab_I a2, ab_I a3, ab_I a4]) X (fun h => by cases h) (f_FA_set u a1 a2 a3 a4 h) lk_PF_110 d_PF_holds_24 rfl rfl (by first | assumption | decide | (show _ < 124; omega) | (show _ < 61; omega) | (show _ < 20; omega)) ⟨by first | exact Nat.le_of_ble_eq_true rfl | (simp only [ab_rm]; omega), by first | exact Nat.le_of_ble_eq_true rfl | (simp only [ab_rm]; omega)⟩ ⟨by first | exact Nat.le_of_ble_eq_true rfl | (simp only [ab_rm]; omega), by first | exact Nat.le_of_ble_eq_true rfl | (simp only [ab_rm]; omega)⟩ (Nat.le_of_ble_eq_true rfl) (fun u24 r24 h24 => ?_)
    obtain ⟨q24, f24, rfl⟩ := h24
    have P24 := (⟨q24.1, q24.wk (by decide), fun i k _ => q24.ii (by decide) rfl⟩ : kH u u24)
    refine ab_aload_n X 0 d_PF_holds_27 rfl rfl ?_
    refine ab_gR X fl_PF_12 d_PF_holds_28 (by first | assumption | decide | (show _ < 124; omega) | (show _ < 61; omega) | (show _ < 20; omega)) (P24.1.pf0) ?_
    refine ab_gI X fl_PF_81 d_PF_holds_31 (by first | assumption | decide | (show _ < 124; omega) | (show _ < 61; omega) | (show _ < 20; omega)) (q24.ii (by decide) (C.1.trans (by unfold mn; rw [show (if M < 19 then M else 19) = M by split <;> omega]))) ?_
    refine ab_iconst (v := 1) X d_PF_holds_34 (by decide) ?_
    refine ab_isub X d_PF_holds_35 ?_
    refine ab_istore5 X 0 1 2 3 4 d_PF_holds_36 (by decide) rfl rfl rfl rfl rfl rfl rfl rfl rfl rfl ?_
    exact loop M 0 _ (by omega) P24 f24 (fun q a b => absurd b (by omega))
set_option maxRecDepth 100000 in
set_option maxHeartbeats 1000000 in
theorem t_MO_leafF (u : ab_S) (p1 : Nat) (x y a1 a2 a3 a4 : Int32) (h : mR u.2.1) (hp : p1 < 40) (ek : u.1 18 1 p1 = x) (ea : u.1 18 2 p1 = y) (hx : x = 1 ∨ x = 2 ∨ x = 3 ∨ x = 4) : ab_C false l D ca y_MO_leafHolds b_MO_leafHolds 7 (some FieldType.boolean) 0 ab_nQ u [ab_O 17 0, ab_I (nI p1), ab_I a1, ab_I a2, ab_I a3, ab_I a4] (fun u' v => u' = u ∧ v = some (ab_I (hl x y a1 a2 a3 a4))) := by
  refine ab_C.of (by decide) (Nat.le_of_ble_eq_true rfl) ?_
  intro p e s m args below meth c ad X hZ hr0 hlk
  have P0 : gP [0] u u := gP.rf h
  refine ab_aload_n X 0 d_MO_leafHolds_0 rfl rfl ?_
  refine ab_gR X fl_MO_33 d_MO_leafHolds_1 (by first | assumption | decide | (show _ < 124; omega) | (show _ < 61; omega) | (show _ < 20; omega)) (P0.1.mo7) ?_
  refine ab_iload_n X 1 d_MO_leafHolds_4 rfl rfl ?_
  refine ab_iald X (p1) ⟨rfl, rfl⟩ d_MO_leafHolds_5 (by first | assumption | decide | (show _ < 124; omega) | (show _ < 61; omega) | (show _ < 20; omega)) (rfl) (hp) (ab_ln_lt _ _) ?_
  refine ab_top ek ?_
  refine ab_istore6 X 0 1 2 3 4 5 d_MO_leafHolds_6 (by decide) rfl rfl rfl rfl rfl rfl rfl rfl rfl rfl rfl rfl ?_
  refine ab_iload X 0 d_MO_leafHolds_8 rfl ?_
  refine ab_iconst (v := 1) X d_MO_leafHolds_10 (by decide) ?_
  refine ab_icmp_ne X 36 d_MO_leafHolds_11 rfl (fun h11 => ?_) (fun h11 => ?_)
  ·
    refine ab_iload X 0 d_MO_leafHolds_36 rfl ?_
    refine ab_iconst (v := 2) X d_MO_leafHolds_38 (by decide) ?_
    refine ab_icmp_ne X 64 d_MO_leafHolds_39 rfl (fun h39 => ?_) (fun h39 => ?_)
    ·
      refine ab_iload X 0 d_MO_leafHolds_64 rfl ?_
      refine ab_iconst (v := 3) X d_MO_leafHolds_66 (by decide) ?_
      refine ab_icmp_ne X 89 d_MO_leafHolds_67 rfl (fun h67 => ?_) (fun h67 => ?_)
      ·
        refine ab_iload X 6 d_MO_leafHolds_89 rfl ?_
        refine ab_aload_n X 1 d_MO_leafHolds_91 rfl rfl ?_
        refine ab_gR X fl_MO_36 d_MO_leafHolds_92 (by first | assumption | decide | (show _ < 124; omega) | (show _ < 61; omega) | (show _ < 20; omega)) (P0.1.mo8) ?_
        refine ab_iload_n X 2 d_MO_leafHolds_95 rfl rfl ?_
        refine ab_iald X (p1) ⟨rfl, rfl⟩ d_MO_leafHolds_96 (by first | assumption | decide | (show _ < 124; omega) | (show _ < 61; omega) | (show _ < 20; omega)) (rfl) (hp) (ab_ln_lt _ _) ?_
        refine ab_top ea ?_
        refine ab_icmp_lt X 104 d_MO_leafHolds_97 rfl (fun h97 => ?_) (fun h97 => ?_)
        ·
          refine ab_iconst (v := 0) X d_MO_leafHolds_104 (by decide) ?_
          exact ab_retz X hr0 hlk (by first | exact Or.inl rfl | exact Or.inr rfl) d_MO_leafHolds_105 ⟨rfl, by first | rw [h11, hl1, if_pos h25] | rw [h11, hl1, if_neg h25] | rw [h39, hl2, if_pos h53] | rw [h39, hl2, if_neg h53] | rw [h67, hl3, if_pos h78] | rw [h67, hl3, if_neg h78] | rw [((hx.resolve_left h11).resolve_left h39).resolve_left h67, hl4, if_pos h97] | rw [((hx.resolve_left h11).resolve_left h39).resolve_left h67, hl4, if_neg h97]⟩
        ·
          refine ab_iconst (v := 1) X d_MO_leafHolds_100 (by decide) ?_
          refine ab_goto X 105 d_MO_leafHolds_101 rfl ?_
          exact ab_retz X hr0 hlk (by first | exact Or.inl rfl | exact Or.inr rfl) d_MO_leafHolds_105 ⟨rfl, by first | rw [h11, hl1, if_pos h25] | rw [h11, hl1, if_neg h25] | rw [h39, hl2, if_pos h53] | rw [h39, hl2, if_neg h53] | rw [h67, hl3, if_pos h78] | rw [h67, hl3, if_neg h78] | rw [((hx.resolve_left h11).resolve_left h39).resolve_left h67, hl4, if_pos h97] | rw [((hx.resolve_left h11).resolve_left h39).resolve_left h67, hl4, if_neg h97]⟩
      ·
        refine ab_iload X 5 d_MO_leafHolds_70 rfl ?_
        refine ab_aload_n X 1 d_MO_leafHolds_72 rfl rfl ?_
        refine ab_gR X fl_MO_36 d_MO_leafHolds_73 (by first | assumption | decide | (show _ < 124; omega) | (show _ < 61; omega) | (show _ < 20; omega)) (P0.1.mo8) ?_
        refine ab_iload_n X 2 d_MO_leafHolds_76 rfl rfl ?_
        refine ab_iald X (p1) ⟨rfl, rfl⟩ d_MO_leafHolds_77 (by first | assumption | decide | (show _ < 124; omega) | (show _ < 61; omega) | (show _ < 20; omega)) (rfl) (hp) (ab_ln_lt _ _) ?_
        refine ab_top ea ?_
        refine ab_icmp_lt X 85 d_MO_leafHolds_78 rfl (fun h78 => ?_) (fun h78 => ?_)
        ·
          refine ab_iconst (v := 0) X d_MO_leafHolds_85 (by decide) ?_
          refine ab_goto X 105 d_MO_leafHolds_86 rfl ?_
          exact ab_retz X hr0 hlk (by first | exact Or.inl rfl | exact Or.inr rfl) d_MO_leafHolds_105 ⟨rfl, by first | rw [h11, hl1, if_pos h25] | rw [h11, hl1, if_neg h25] | rw [h39, hl2, if_pos h53] | rw [h39, hl2, if_neg h53] | rw [h67, hl3, if_pos h78] | rw [h67, hl3, if_neg h78] | rw [((hx.resolve_left h11).resolve_left h39).resolve_left h67, hl4, if_pos h97] | rw [((hx.resolve_left h11).resolve_left h39).resolve_left h67, hl4, if_neg h97]⟩
        ·
          refine ab_iconst (v := 1) X d_MO_leafHolds_81 (by decide) ?_
          refine ab_goto X 105 d_MO_leafHolds_82 rfl ?_
          exact ab_retz X hr0 hlk (by first | exact Or.inl rfl | exact Or.inr rfl) d_MO_leafHolds_105 ⟨rfl, by first | rw [h11, hl1, if_pos h25] | rw [h11, hl1, if_neg h25] | rw [h39, hl2, if_pos h53] | rw [h39, hl2, if_neg h53] | rw [h67, hl3, if_pos h78] | rw [h67, hl3, if_neg h78] | rw [((hx.resolve_left h11).resolve_left h39).resolve_left h67, hl4, if_pos h97] | rw [((hx.resolve_left h11).resolve_left h39).resolve_left h67, hl4, if_neg h97]⟩
    ·
      refine ab_iload_n X 4 d_MO_leafHolds_42 rfl rfl ?_
      refine ab_aload_n X 1 d_MO_leafHolds_43 rfl rfl ?_
      refine ab_gR X fl_MO_36 d_MO_leafHolds_44 (by first | assumption | decide | (show _ < 124; omega) | (show _ < 61; omega) | (show _ < 20; omega)) (P0.1.mo8) ?_
      refine ab_iload_n X 2 d_MO_leafHolds_47 rfl rfl ?_
      refine ab_iald X (p1) ⟨rfl, rfl⟩ d_MO_leafHolds_48 (by first | assumption | decide | (show _ < 124; omega) | (show _ < 61; omega) | (show _ < 20; omega)) (rfl) (hp) (ab_ln_lt _ _) ?_
      refine ab_top ea ?_
      refine ab_ishr X d_MO_leafHolds_49 ?_
      refine ab_iconst (v := 1) X d_MO_leafHolds_50 (by decide) ?_
      refine ab_iand X d_MO_leafHolds_51 ?_
      refine ab_iconst (v := 1) X d_MO_leafHolds_52 (by decide) ?_
      refine ab_icmp_ne X 60 d_MO_leafHolds_53 rfl (fun h53 => ?_) (fun h53 => ?_)
      ·
        refine ab_iconst (v := 0) X d_MO_leafHolds_60 (by decide) ?_
        refine ab_goto X 105 d_MO_leafHolds_61 rfl ?_
        exact ab_retz X hr0 hlk (by first | exact Or.inl rfl | exact Or.inr rfl) d_MO_leafHolds_105 ⟨rfl, by first | rw [h11, hl1, if_pos h25] | rw [h11, hl1, if_neg h25] | rw [h39, hl2, if_pos h53] | rw [h39, hl2, if_neg h53] | rw [h67, hl3, if_pos h78] | rw [h67, hl3, if_neg h78] | rw [((hx.resolve_left h11).resolve_left h39).resolve_left h67, hl4, if_pos h97] | rw [((hx.resolve_left h11).resolve_left h39).resolve_left h67, hl4, if_neg h97]⟩
      ·
        refine ab_iconst (v := 1) X d_MO_leafHolds_56 (by decide) ?_
        refine ab_goto X 105 d_MO_leafHolds_57 rfl ?_
        exact ab_retz X hr0 hlk (by first | exact Or.inl rfl | exact Or.inr rfl) d_MO_leafHolds_105 ⟨rfl, by first | rw [h11, hl1, if_pos h25] | rw [h11, hl1, if_neg h25] | rw [h39, hl2, if_pos h53] | rw [h39, hl2, if_neg h53] | rw [h67, hl3, if_pos h78] | rw [h67, hl3, if_neg h78] | rw [((hx.resolve_left h11).resolve_left h39).resolve_left h67, hl4, if_pos h97] | rw [((hx.resolve_left h11).resolve_left h39).resolve_left h67, hl4, if_neg h97]⟩
  ·
    refine ab_iload_n X 3 d_MO_leafHolds_14 rfl rfl ?_
    refine ab_aload_n X 1 d_MO_leafHolds_15 rfl rfl ?_
    refine ab_gR X fl_MO_36 d_MO_leafHolds_16 (by first | assumption | decide | (show _ < 124; omega) | (show _ < 61; omega) | (show _ < 20; omega)) (P0.1.mo8) ?_
    refine ab_iload_n X 2 d_MO_leafHolds_19 rfl rfl ?_
    refine ab_iald X (p1) ⟨rfl, rfl⟩ d_MO_leafHolds_20 (by first | assumption | decide | (show _ < 124; omega) | (show _ < 61; omega) | (show _ < 20; omega)) (rfl) (hp) (ab_ln_lt _ _) ?_
    refine ab_top ea ?_
    refine ab_ishr X d_MO_leafHolds_21 ?_
    refine ab_iconst (v := 1) X d_MO_leafHolds_22 (by decide) ?_
    refine ab_iand X d_MO_leafHolds_23 ?_
    refine ab_iconst (v := 1) X d_MO_leafHolds_24 (by decide) ?_
    refine ab_icmp_ne X 32 d_MO_leafHolds_25 rfl (fun h25 => ?_) (fun h25 => ?_)
    ·
      refine ab_iconst (v := 0) X d_MO_leafHolds_32 (by decide) ?_
      refine ab_goto X 105 d_MO_leafHolds_33 rfl ?_
      exact ab_retz X hr0 hlk (by first | exact Or.inl rfl | exact Or.inr rfl) d_MO_leafHolds_105 ⟨rfl, by first | rw [h11, hl1, if_pos h25] | rw [h11, hl1, if_neg h25] | rw [h39, hl2, if_pos h53] | rw [h39, hl2, if_neg h53] | rw [h67, hl3, if_pos h78] | rw [h67, hl3, if_neg h78] | rw [((hx.resolve_left h11).resolve_left h39).resolve_left h67, hl4, if_pos h97] | rw [((hx.resolve_left h11).resolve_left h39).resolve_left h67, hl4, if_neg h97]⟩
    ·
      refine ab_iconst (v := 1) X d_MO_leafHolds_28 (by decide) ?_
      refine ab_goto X 105 d_MO_leafHolds_29 rfl ?_
      exact ab_retz X hr0 hlk (by first | exact Or.inl rfl | exact Or.inr rfl) d_MO_leafHolds_105 ⟨rfl, by first | rw [h11, hl1, if_pos h25] | rw [h11, hl1, if_neg h25] | rw [h39, hl2, if_pos h53] | rw [h39, hl2, if_neg h53] | rw [h67, hl3, if_pos h78] | rw [h67, hl3, if_neg h78] | rw [((hx.resolve_left h11).resolve_left h39).resolve_left h67, hl4, if_pos h97] | rw [((hx.resolve_left h11).resolve_left h39).resolve_left h67, hl4, if_neg h97]⟩
set_option maxRecDepth 100000 in
set_option maxHeartbeats 1000000 in
theorem f_MO_holds (u : ab_S) (a1 a2 a3 a4 : Int32) (P : Nat) (kd ar cn lf : Nat → Nat) (ch : Nat → Nat → Nat) (h : MI u) (hz : u.1 17 0 4 = 0 ∨ (u.1 17 0 4 = 1 ∧ tW P kd ar cn lf ch ∧ tR P kd ar cn ch u)) : ab_C false l D ca y_MO_holds b_MO_holds 8 (some FieldType.boolean) 1 ab_nQ u [ab_O 17 0, ab_I a1, ab_I a2, ab_I a3, ab_I a4] (fun u' v => oP u u' ∧ ((u.1 17 0 4 = 0 ∧ u'.1 17 0 0 = 1 ∧ v = some (ab_I 0)) ∨ (u.1 17 0 4 = 1 ∧ u'.1 17 0 0 = 0 ∧ v = some (ab_I (hF kd ar cn ch a1 a2 a3 a4 P P 0))))) := by
  refine ab_C.of (by decide) (Nat.le_of_ble_eq_true rfl) ?_
  intro p e s m args below meth c ad X hZ hr0 hlk
  obtain ⟨hm, -, -, -⟩ := id h
  have P0 : gP [0] u u := gP.rf hm
  rcases hz with z | ⟨z, W, T⟩
  ·
    refine ab_aload_n X 0 d_MO_holds_0 rfl rfl ?_
    refine ab_aload_n X 0 d_MO_holds_1 rfl rfl ?_
    refine ab_gI X fl_MO_23 d_MO_holds_2 (by first | assumption | decide | (show _ < 124; omega) | (show _ < 61; omega) | (show _ < 20; omega)) (z) ?_
    refine ab_if_eq X 12 d_MO_holds_5 rfl (fun _ => ?_) (fun hb => absurd (rfl) hb)
    refine ab_iconst (v := 1) X d_MO_holds_12 (by decide) ?_
    refine ab_putI X fp_MO_7 d_MO_holds_13 (by first | assumption | decide | (show _ < 124; omega) | (show _ < 61; omega) | (show _ < 20; omega)) rfl rfl ?_
    refine ab_gen (fun u13 e13 => ?_)
    have P13 : gP [0] u u13 := by rw [e13]; exact P0.ui rfl (by decide)
    refine ab_aload_n X 0 d_MO_holds_16 rfl rfl ?_
    refine ab_gI X fl_MO_23 d_MO_holds_17 (by first | assumption | decide | (show _ < 124; omega) | (show _ < 61; omega) | (show _ < 20; omega)) ((show _ = (0 : Int32) by rw [e13]; simpa [ab_up] using z)) ?_
    refine ab_if_ne X 25 d_MO_holds_20 rfl (fun hb => absurd (rfl) hb) (fun _ => ?_)
    refine ab_iconst (v := 0) X d_MO_holds_23 (by decide) ?_
    exact ab_retz X hr0 hlk (Or.inl rfl) d_MO_holds_24 ⟨h.oP P13 (by decide), Or.inl ⟨z, by rw [e13]; simp [ab_up], rfl⟩⟩
  · have hP19 := W.2.1
    have out : ∀ (j n : Nat) (u1 : ab_S), j + n = P → gP [0] u u1 → u1.1 17 0 0 = 0 → (∀ q, j ≤ q → q < P → u1.1 19 0 q = hF kd ar cn ch a1 a2 a3 a4 P n q) → ab_J p l e (ab_rm 1 0 0) s m args below meth c (MQ below (ab_Q D ca ad ab_nQ s.heap.size (fun u' v => oP u u' ∧ ((u.1 17 0 4 = 0 ∧ u'.1 17 0 0 = 1 ∧ v = some (ab_I 0)) ∨ (u.1 17 0 4 = 1 ∧ u'.1 17 0 0 = 0 ∧ v = some (ab_I (hF kd ar cn ch a1 a2 a3 a4 P P 0)))))) args s 0 0 (ab_A ad ab_nQ s.heap.size)) D ca (ab_A ad ab_nQ s.heap.size) s.heap 8 0 0 ad ab_nQ u1 33 [(5, ab_I (nI j - 1)), (0, ab_O 17 0), (1, ab_I a1), (2, ab_I a2), (3, ab_I a3), (4, ab_I a4)] [] := by
      intro j
      induction j with
      | zero =>
        intro n u1 hj P1 t0 hb
        obtain rfl : n = P := by omega
        have e0 := hb 0 (Nat.le_refl _) W.1
        have hb0 : hF kd ar cn ch a1 a2 a3 a4 n n 0 = 0 ∨ hF kd ar cn ch a1 a2 a3 a4 n n 0 = 1 := by
          obtain ⟨m, rfl⟩ : ∃ m, n = m + 1 := ⟨n - 1, by have := W.1; omega⟩
          rw [hF_s kd ar cn ch a1 a2 a3 a4 (by omega)]; exact hS_b ..
        refine ab_iload X 0 d_MO_holds_33 rfl ?_
        refine ab_if_lt X 178 d_MO_holds_35 rfl (fun _ => ?_) (fun hb => absurd ((by decide)) hb)
        refine ab_aload_n X 1 d_MO_holds_178 rfl rfl ?_
        refine ab_gR X fl_MO_141 d_MO_holds_179 (by first | assumption | decide | (show _ < 124; omega) | (show _ < 61; omega) | (show _ < 20; omega)) (P1.1.mo43) ?_
        refine ab_iconst (v := 0) X d_MO_holds_182 (by decide) ?_
        refine ab_zald X (0) ⟨rfl, rfl⟩ d_MO_holds_183 (by first | assumption | decide | (show _ < 124; omega) | (show _ < 61; omega) | (show _ < 20; omega)) (rfl) (show 0 < 24 by decide) (ab_ln_lt _ _) ?_
        refine ab_top e0 ?_
        exact ab_retz X hr0 hlk hb0 d_MO_holds_184 ⟨h.oP P1 (by decide), Or.inr ⟨z, t0, rfl⟩⟩
      | succ j ih =>
        intro n u1 hj P1 t0 hb
        rw [nI_m1 (by omega), show j + 1 - 1 = j by omega]
        obtain ⟨ek, ea, ec, ech⟩ := T.2 j (by omega)
        obtain ⟨⟨l1, l2, k1, k7, r9⟩, kl, kb⟩ := W.2.2 j (by omega)
        have bb := hS_b kd ar cn ch a1 a2 a3 a4 (hF kd ar cn ch a1 a2 a3 a4 P n) j
        have ek1 : u1.1 18 1 j = nI (kd j) := P1.ai (by decide) ek
        have ea1 : u1.1 18 2 j = nI (ar j) := P1.ai (by decide) ea
        have c4 : cn j ≤ 4 := by by_cases z : kd j < 5; (rw [kl z]; decide); exact (kb (by omega)).2.1
        have h4 := hc_le (hF kd ar cn ch a1 a2 a3 a4 P n) (ch j) (cn j)
        have nxt : ∀ (u2 : ab_S), gP [0] u u2 → u2 = ab_ui u1 19 0 j (hS kd ar cn ch a1 a2 a3 a4 (hF kd ar cn ch a1 a2 a3 a4 P n) j) → ab_J p l e (ab_rm 1 0 0) s m args below meth c (MQ below (ab_Q D ca ad ab_nQ s.heap.size (fun u' v => oP u u' ∧ ((u.1 17 0 4 = 0 ∧ u'.1 17 0 0 = 1 ∧ v = some (ab_I 0)) ∨ (u.1 17 0 4 = 1 ∧ u'.1 17 0 0 = 0 ∧ v = some (ab_I (hF kd ar cn ch a1 a2 a3 a4 P P 0)))))) args s 0 0 (ab_A ad ab_nQ s.heap.size)) D ca (ab_A ad ab_nQ s.heap.size) s.heap 8 0 0 ad ab_nQ u2 172 [(5, ab_I (nI j)), (0, ab_O 17 0), (1, ab_I a1), (2, ab_I a2), (3, ab_I a3), (4, ab_I a4)] [] := by
          intro u2 P2 e2
          refine ab_iinc5 X 0 1 2 3 4 5 d_MO_holds_172 rfl (by decide) rfl rfl rfl rfl rfl rfl rfl rfl rfl rfl ?_
          refine ab_goto X 33 d_MO_holds_175 rfl ?_
          rw [show nI j + Int32.ofInt (-1) = nI j - 1 from by rw [Int32.sub_eq_add_neg]; rfl]
          refine ih (n + 1) _ (by omega) P2 (by rw [e2]; exact (ui_n _ (by omega)).trans t0) (fun q a b => ?_)
          by_cases w : q = j
          · rw [w, hF_s kd ar cn ch a1 a2 a3 a4 (by omega), e2]; exact ui_s _
          · rw [hF_n kd ar cn ch a1 a2 a3 a4 (j := j) (by omega) w, e2]; exact (ui_n _ (by omega)).trans (hb q (by omega) b)
        have inn : ∀ (k i : Nat), k + i = cn j → ab_J p l e (ab_rm 1 0 0) s m args below meth c (MQ below (ab_Q D ca ad ab_nQ s.heap.size (fun u' v => oP u u' ∧ ((u.1 17 0 4 = 0 ∧ u'.1 17 0 0 = 1 ∧ v = some (ab_I 0)) ∨ (u.1 17 0 4 = 1 ∧ u'.1 17 0 0 = 0 ∧ v = some (ab_I (hF kd ar cn ch a1 a2 a3 a4 P P 0)))))) args s 0 0 (ab_A ad ab_nQ s.heap.size)) D ca (ab_A ad ab_nQ s.heap.size) s.heap 8 0 0 ad ab_nQ u1 44 [(7, ab_I (nI i)), (6, ab_I (nI (hc (hF kd ar cn ch a1 a2 a3 a4 P n) (ch j) i))), (5, ab_I (nI j)), (0, ab_O 17 0), (1, ab_I a1), (2, ab_I a2), (3, ab_I a3), (4, ab_I a4)] [] := by
          intro k
          induction k with
          | zero =>
            intro i hi
            obtain rfl : i = cn j := by omega
            by_cases h5 : kd j < 5
            · have eS : hS kd ar cn ch a1 a2 a3 a4 (hF kd ar cn ch a1 a2 a3 a4 P n) j = hl (nI (kd j)) (nI (ar j)) a1 a2 a3 a4 := if_pos h5
              have hx : nI (kd j) = 1 ∨ nI (kd j) = 2 ∨ nI (kd j) = 3 ∨ nI (kd j) = 4 := by
                have w : kd j = 1 ∨ kd j = 2 ∨ kd j = 3 ∨ kd j = 4 := by omega
                rcases w with w | w | w | w <;> rw [w] <;> decide
              refine ab_iload X 0 d_MO_holds_44 rfl ?_
              refine ab_aload_n X 3 d_MO_holds_46 rfl rfl ?_
              refine ab_gR X fl_MO_39 d_MO_holds_47 (by first | assumption | decide | (show _ < 124; omega) | (show _ < 61; omega) | (show _ < 20; omega)) (P1.1.mo9) ?_
              refine ab_iload X 2 d_MO_holds_50 rfl ?_
              refine ab_iald X (j) ⟨rfl, rfl⟩ d_MO_holds_52 (by first | assumption | decide | (show _ < 124; omega) | (show _ < 61; omega) | (show _ < 20; omega)) (rfl) (show j < 40 by omega) (ab_ln_lt _ _) ?_
              refine ab_top (P1.ai (by decide) ec) ?_
              refine ab_icmp_ge X 92 d_MO_holds_53 rfl (fun _ => ?_) (fun hb => absurd ((nI_le (Nat.le_refl _) (by omega))) hb)
              refine ab_aload_n X 3 d_MO_holds_92 rfl rfl ?_
              refine ab_gR X fl_MO_141 d_MO_holds_93 (by first | assumption | decide | (show _ < 124; omega) | (show _ < 61; omega) | (show _ < 20; omega)) (P1.1.mo43) ?_
              refine ab_iload X 2 d_MO_holds_96 rfl ?_
              refine ab_aload_n X 3 d_MO_holds_98 rfl rfl ?_
              refine ab_gR X fl_MO_33 d_MO_holds_99 (by first | assumption | decide | (show _ < 124; omega) | (show _ < 61; omega) | (show _ < 20; omega)) (P1.1.mo7) ?_
              refine ab_iload X 2 d_MO_holds_102 rfl ?_
              refine ab_iald X (j) ⟨rfl, rfl⟩ d_MO_holds_104 (by first | assumption | decide | (show _ < 124; omega) | (show _ < 61; omega) | (show _ < 20; omega)) (rfl) (show j < 40 by omega) (ab_ln_lt _ _) ?_
              refine ab_top ek1 ?_
              refine ab_iconst (v := 5) X d_MO_holds_105 (by decide) ?_
              refine ab_icmp_ge X 123 d_MO_holds_106 rfl (fun hb => absurd hb ((nI_ge (b := 5) h5 (by decide)))) (fun _ => ?_)
              refine ab_aload_n X 3 d_MO_holds_109 rfl rfl ?_
              refine ab_iload X 2 d_MO_holds_110 rfl ?_
              refine ab_iload_n X 4 d_MO_holds_112 rfl rfl ?_
              refine ab_iload_n X 5 d_MO_holds_113 rfl rfl ?_
              refine ab_iload_n X 6 d_MO_holds_114 rfl rfl ?_
              refine ab_iload X 7 d_MO_holds_115 rfl ?_
              refine ab_callV (as := [ab_I (nI j), ab_I a1, ab_I a2, ab_I a3, ab_I a4]) X (fun h => by cases h) (t_MO_leafF u1 j _ _ a1 a2 a3 a4 P1.1 (by omega) ek1 ea1 hx) lk_MO_319 d_MO_holds_117 rfl rfl (by first | assumption | decide | (show _ < 124; omega) | (show _ < 61; omega) | (show _ < 20; omega)) ⟨by first | exact Nat.le_of_ble_eq_true rfl | (simp only [ab_rm]; omega), by first | exact Nat.le_of_ble_eq_true rfl | (simp only [ab_rm]; omega)⟩ ⟨by first | exact Nat.le_of_ble_eq_true rfl | (simp only [ab_rm]; omega), by first | exact Nat.le_of_ble_eq_true rfl | (simp only [ab_rm]; omega)⟩ (Nat.le_of_ble_eq_true rfl) (fun u117 r117 h117 => ?_)
              obtain ⟨e117, rfl⟩ := h117
              subst u117
              rw [← eS]
              refine ab_goto X 171 d_MO_holds_120 rfl ?_
              refine ab_zast X (j) ⟨rfl, rfl⟩ d_MO_holds_171 (by first | assumption | decide | (show _ < 124; omega) | (show _ < 61; omega) | (show _ < 20; omega)) (rfl) (show j < 24 by omega) (ab_ln_lt _ _) (bb) ?_
              refine ab_gen (fun u171 e171 => ?_)
              have P171 : gP [0] u u171 := by rw [e171]; exact P1.ui rfl (by decide)
              refine ab_lv (List.forall_mem_cons.mpr ⟨List.mem_of_getElem? (i := 2) rfl, List.forall_mem_cons.mpr ⟨List.mem_of_getElem? (i := 3) rfl, List.forall_mem_cons.mpr ⟨List.mem_of_getElem? (i := 4) rfl, List.forall_mem_cons.mpr ⟨List.mem_of_getElem? (i := 5) rfl, List.forall_mem_cons.mpr ⟨List.mem_of_getElem? (i := 6) rfl, List.forall_mem_cons.mpr ⟨List.mem_of_getElem? (i := 7) rfl, fun _ h => absurd h List.not_mem_nil⟩⟩⟩⟩⟩⟩) ?_
              exact nxt _ P171 e171
            · have eS : hS kd ar cn ch a1 a2 a3 a4 (hF kd ar cn ch a1 a2 a3 a4 P n) j = if hc (hF kd ar cn ch a1 a2 a3 a4 P n) (ch j) (cn j) < cnu (kd j) (ar j) then 0 else 1 := if_neg h5
              obtain ⟨n2, n4, n5, n7, b5, -⟩ := kb (by omega)
              have K163 : ∀ (mq : Nat), mq = cnu (kd j) (ar j) → mq ≤ 4 → ab_J p l e (ab_rm 1 0 0) s m args below meth c (MQ below (ab_Q D ca ad ab_nQ s.heap.size (fun u' v => oP u u' ∧ ((u.1 17 0 4 = 0 ∧ u'.1 17 0 0 = 1 ∧ v = some (ab_I 0)) ∨ (u.1 17 0 4 = 1 ∧ u'.1 17 0 0 = 0 ∧ v = some (ab_I (hF kd ar cn ch a1 a2 a3 a4 P P 0)))))) args s 0 0 (ab_A ad ab_nQ s.heap.size)) D ca (ab_A ad ab_nQ s.heap.size) s.heap 8 0 0 ad ab_nQ u1 163 [(5, ab_I (nI j)), (0, ab_O 17 0), (1, ab_I a1), (2, ab_I a2), (3, ab_I a3), (4, ab_I a4)] [ab_I (nI mq), ab_I (nI (hc (hF kd ar cn ch a1 a2 a3 a4 P n) (ch j) (cn j))), ab_I (nI j), ab_O 19 0] := by
                intro mq hmq m4
                rw [← hmq] at eS
                refine ab_icmp_lt X 170 d_MO_holds_163 rfl (fun h163 => ?_) (fun h163 => ?_)
                ·
                  have eS2 : hS kd ar cn ch a1 a2 a3 a4 (hF kd ar cn ch a1 a2 a3 a4 P n) j = 0 := eS.trans (if_pos (nI_ltl h163 (by omega)))
                  refine ab_iconst (v := 0) X d_MO_holds_170 (by decide) ?_
                  refine ab_zast X (j) ⟨rfl, rfl⟩ d_MO_holds_171 (by first | assumption | decide | (show _ < 124; omega) | (show _ < 61; omega) | (show _ < 20; omega)) (rfl) (show j < 24 by omega) (ab_ln_lt _ _) (by first | exact Or.inl rfl | exact Or.inr rfl) ?_
                  refine ab_gen (fun u171 e171 => ?_)
                  have P171 : gP [0] u u171 := by rw [e171]; exact P1.ui rfl (by decide)
                  exact nxt _ P171 (by rw [eS2]; exact e171)
                ·
                  have eS2 : hS kd ar cn ch a1 a2 a3 a4 (hF kd ar cn ch a1 a2 a3 a4 P n) j = 1 := eS.trans (if_neg (fun z => h163 (nI_lt z (by omega))))
                  refine ab_iconst (v := 1) X d_MO_holds_166 (by decide) ?_
                  refine ab_goto X 171 d_MO_holds_167 rfl ?_
                  refine ab_zast X (j) ⟨rfl, rfl⟩ d_MO_holds_171 (by first | assumption | decide | (show _ < 124; omega) | (show _ < 61; omega) | (show _ < 20; omega)) (rfl) (show j < 24 by omega) (ab_ln_lt _ _) (by first | exact Or.inl rfl | exact Or.inr rfl) ?_
                  refine ab_gen (fun u171 e171 => ?_)
                  have P171 : gP [0] u u171 := by rw [e171]; exact P1.ui rfl (by decide)
                  exact nxt _ P171 (by rw [eS2]; exact e171)
              refine ab_iload X 0 d_MO_holds_44 rfl ?_
              refine ab_aload_n X 3 d_MO_holds_46 rfl rfl ?_
              refine ab_gR X fl_MO_39 d_MO_holds_47 (by first | assumption | decide | (show _ < 124; omega) | (show _ < 61; omega) | (show _ < 20; omega)) (P1.1.mo9) ?_
              refine ab_iload X 2 d_MO_holds_50 rfl ?_
              refine ab_iald X (j) ⟨rfl, rfl⟩ d_MO_holds_52 (by first | assumption | decide | (show _ < 124; omega) | (show _ < 61; omega) | (show _ < 20; omega)) (rfl) (show j < 40 by omega) (ab_ln_lt _ _) ?_
              refine ab_top (P1.ai (by decide) ec) ?_
              refine ab_icmp_ge X 92 d_MO_holds_53 rfl (fun _ => ?_) (fun hb => absurd ((nI_le (Nat.le_refl _) (by omega))) hb)
              refine ab_aload_n X 3 d_MO_holds_92 rfl rfl ?_
              refine ab_gR X fl_MO_141 d_MO_holds_93 (by first | assumption | decide | (show _ < 124; omega) | (show _ < 61; omega) | (show _ < 20; omega)) (P1.1.mo43) ?_
              refine ab_iload X 2 d_MO_holds_96 rfl ?_
              refine ab_aload_n X 3 d_MO_holds_98 rfl rfl ?_
              refine ab_gR X fl_MO_33 d_MO_holds_99 (by first | assumption | decide | (show _ < 124; omega) | (show _ < 61; omega) | (show _ < 20; omega)) (P1.1.mo7) ?_
              refine ab_iload X 2 d_MO_holds_102 rfl ?_
              refine ab_iald X (j) ⟨rfl, rfl⟩ d_MO_holds_104 (by first | assumption | decide | (show _ < 124; omega) | (show _ < 61; omega) | (show _ < 20; omega)) (rfl) (show j < 40 by omega) (ab_ln_lt _ _) ?_
              refine ab_top ek1 ?_
              refine ab_iconst (v := 5) X d_MO_holds_105 (by decide) ?_
              refine ab_icmp_ge X 123 d_MO_holds_106 rfl (fun _ => ?_) (fun hb => absurd ((nI_le (a := 5) (by omega) (by omega))) hb)
              refine ab_iload X 1 d_MO_holds_123 rfl ?_
              refine ab_aload_n X 3 d_MO_holds_125 rfl rfl ?_
              refine ab_gR X fl_MO_33 d_MO_holds_126 (by first | assumption | decide | (show _ < 124; omega) | (show _ < 61; omega) | (show _ < 20; omega)) (P1.1.mo7) ?_
              refine ab_iload X 2 d_MO_holds_129 rfl ?_
              refine ab_iald X (j) ⟨rfl, rfl⟩ d_MO_holds_131 (by first | assumption | decide | (show _ < 124; omega) | (show _ < 61; omega) | (show _ < 20; omega)) (rfl) (show j < 40 by omega) (ab_ln_lt _ _) ?_
              refine ab_top ek1 ?_
              refine ab_iconst (v := 5) X d_MO_holds_132 (by decide) ?_
              refine ab_icmp_ne X 140 d_MO_holds_133 rfl (fun h133 => ?_) (fun h133 => ?_)
              ·
                have k5 : kd j ≠ 5 := fun w => h133 (by rw [w]; rfl)
                refine ab_aload_n X 3 d_MO_holds_140 rfl rfl ?_
                refine ab_gR X fl_MO_33 d_MO_holds_141 (by first | assumption | decide | (show _ < 124; omega) | (show _ < 61; omega) | (show _ < 20; omega)) (P1.1.mo7) ?_
                refine ab_iload X 2 d_MO_holds_144 rfl ?_
                refine ab_iald X (j) ⟨rfl, rfl⟩ d_MO_holds_146 (by first | assumption | decide | (show _ < 124; omega) | (show _ < 61; omega) | (show _ < 20; omega)) (rfl) (show j < 40 by omega) (ab_ln_lt _ _) ?_
                refine ab_top ek1 ?_
                refine ab_bipush (v := 6) X d_MO_holds_147 (by decide) ?_
                refine ab_icmp_ne X 156 d_MO_holds_149 rfl (fun h149 => ?_) (fun h149 => ?_)
                ·
                  have k6 : kd j ≠ 6 := fun w => h149 (by rw [w]; rfl)
                  have cu : ar j = cnu (kd j) (ar j) := by unfold cnu; rw [if_neg k5, if_neg k6]
                  have ar4 := n7 (by omega)
                  refine ab_aload_n X 3 d_MO_holds_156 rfl rfl ?_
                  refine ab_gR X fl_MO_36 d_MO_holds_157 (by first | assumption | decide | (show _ < 124; omega) | (show _ < 61; omega) | (show _ < 20; omega)) (P1.1.mo8) ?_
                  refine ab_iload X 2 d_MO_holds_160 rfl ?_
                  refine ab_iald X (j) ⟨rfl, rfl⟩ d_MO_holds_162 (by first | assumption | decide | (show _ < 124; omega) | (show _ < 61; omega) | (show _ < 20; omega)) (rfl) (show j < 40 by omega) (ab_ln_lt _ _) ?_
                  refine ab_top ea1 ?_
                  refine ab_lv (List.forall_mem_cons.mpr ⟨List.mem_of_getElem? (i := 2) rfl, List.forall_mem_cons.mpr ⟨List.mem_of_getElem? (i := 3) rfl, List.forall_mem_cons.mpr ⟨List.mem_of_getElem? (i := 4) rfl, List.forall_mem_cons.mpr ⟨List.mem_of_getElem? (i := 5) rfl, List.forall_mem_cons.mpr ⟨List.mem_of_getElem? (i := 6) rfl, List.forall_mem_cons.mpr ⟨List.mem_of_getElem? (i := 7) rfl, fun _ h => absurd h List.not_mem_nil⟩⟩⟩⟩⟩⟩) ?_
                  first | exact K163 2 cu (by decide) | exact K163 1 cu (by decide) | exact K163 (ar j) cu (by omega)
                ·
                  have k6 : kd j = 6 := (nI_eq (b := 6) (by omega) (by omega)).mp h149
                  have cu : 1 = cnu (kd j) (ar j) := by rw [k6]; rfl
                  refine ab_iconst (v := 1) X d_MO_holds_152 (by decide) ?_
                  refine ab_goto X 163 d_MO_holds_153 rfl ?_
                  refine ab_lv (List.forall_mem_cons.mpr ⟨List.mem_of_getElem? (i := 2) rfl, List.forall_mem_cons.mpr ⟨List.mem_of_getElem? (i := 3) rfl, List.forall_mem_cons.mpr ⟨List.mem_of_getElem? (i := 4) rfl, List.forall_mem_cons.mpr ⟨List.mem_of_getElem? (i := 5) rfl, List.forall_mem_cons.mpr ⟨List.mem_of_getElem? (i := 6) rfl, List.forall_mem_cons.mpr ⟨List.mem_of_getElem? (i := 7) rfl, fun _ h => absurd h List.not_mem_nil⟩⟩⟩⟩⟩⟩) ?_
                  first | exact K163 2 cu (by decide) | exact K163 1 cu (by decide) | exact K163 (ar j) cu (by omega)
              ·
                have k5 : kd j = 5 := (nI_eq (b := 5) (by omega) (by omega)).mp h133
                have cu : 2 = cnu (kd j) (ar j) := by rw [k5]; rfl
                refine ab_iconst (v := 2) X d_MO_holds_136 (by decide) ?_
                refine ab_goto X 163 d_MO_holds_137 rfl ?_
                refine ab_lv (List.forall_mem_cons.mpr ⟨List.mem_of_getElem? (i := 2) rfl, List.forall_mem_cons.mpr ⟨List.mem_of_getElem? (i := 3) rfl, List.forall_mem_cons.mpr ⟨List.mem_of_getElem? (i := 4) rfl, List.forall_mem_cons.mpr ⟨List.mem_of_getElem? (i := 5) rfl, List.forall_mem_cons.mpr ⟨List.mem_of_getElem? (i := 6) rfl, List.forall_mem_cons.mpr ⟨List.mem_of_getElem? (i := 7) rfl, fun _ h => absurd h List.not_mem_nil⟩⟩⟩⟩⟩⟩) ?_
                first | exact K163 2 cu (by decide) | exact K163 1 cu (by decide) | exact K163 (ar j) cu (by omega)
          | succ k ih2 =>
            intro i hi
            have k5' : 5 ≤ kd j := Nat.le_of_not_lt (fun q => by have := kl q; omega)
            obtain ⟨n2, n4, -, -, b5, -⟩ := kb k5'
            obtain ⟨c1, c2⟩ := b5 i (by omega)
            refine ab_iload X 0 d_MO_holds_44 rfl ?_
            refine ab_aload_n X 3 d_MO_holds_46 rfl rfl ?_
            refine ab_gR X fl_MO_39 d_MO_holds_47 (by first | assumption | decide | (show _ < 124; omega) | (show _ < 61; omega) | (show _ < 20; omega)) (P1.1.mo9) ?_
            refine ab_iload X 2 d_MO_holds_50 rfl ?_
            refine ab_iald X (j) ⟨rfl, rfl⟩ d_MO_holds_52 (by first | assumption | decide | (show _ < 124; omega) | (show _ < 61; omega) | (show _ < 20; omega)) (rfl) (show j < 40 by omega) (ab_ln_lt _ _) ?_
            refine ab_top (P1.ai (by decide) ec) ?_
            refine ab_icmp_ge X 92 d_MO_holds_53 rfl (fun hb => absurd hb ((nI_ge (by omega) (by omega)))) (fun _ => ?_)
            refine ab_iload X 1 d_MO_holds_56 rfl ?_
            refine ab_aload_n X 3 d_MO_holds_58 rfl rfl ?_
            refine ab_gR X fl_MO_141 d_MO_holds_59 (by first | assumption | decide | (show _ < 124; omega) | (show _ < 61; omega) | (show _ < 20; omega)) (P1.1.mo43) ?_
            refine ab_aload_n X 3 d_MO_holds_62 rfl rfl ?_
            refine ab_gR X fl_MO_42 d_MO_holds_63 (by first | assumption | decide | (show _ < 124; omega) | (show _ < 61; omega) | (show _ < 20; omega)) (P1.1.mo10) ?_
            refine ab_iconst (v := 4) X d_MO_holds_66 (by decide) ?_
            refine ab_iload X 2 d_MO_holds_67 rfl ?_
            refine ab_imul X d_MO_holds_69 ?_
            refine ab_iload X 0 d_MO_holds_70 rfl ?_
            refine ab_iadd X d_MO_holds_72 ?_
            refine ab_iald X (4 * j + i) ⟨rfl, rfl⟩ d_MO_holds_73 (by first | assumption | decide | (show _ < 124; omega) | (show _ < 61; omega) | (show _ < 20; omega)) (nI_4a j i) (show 4 * j + i < 160 by omega) (ab_ln_lt _ _) ?_
            refine ab_top (P1.ai (by decide) (ech i (by omega))) ?_
            refine ab_zald X (ch j i) ⟨rfl, rfl⟩ d_MO_holds_74 (by first | assumption | decide | (show _ < 124; omega) | (show _ < 61; omega) | (show _ < 20; omega)) (rfl) (show ch j i < 24 by omega) (ab_ln_lt _ _) ?_
            refine ab_top (hb (ch j i) (by omega) c2) ?_
            refine ab_if_eq X 82 d_MO_holds_75 rfl (fun h75 => ?_) (fun h75 => ?_)
            ·
              have hz2 : nI (hc (hF kd ar cn ch a1 a2 a3 a4 P n) (ch j) i) + 0 = nI (hc (hF kd ar cn ch a1 a2 a3 a4 P n) (ch j) (i + 1)) := by show _ = nI (hc (hF kd ar cn ch a1 a2 a3 a4 P n) (ch j) i + (if hF kd ar cn ch a1 a2 a3 a4 P n (ch j i) = 0 then 0 else 1)); rw [if_pos h75]; exact Int32.add_zero _
              refine ab_iconst (v := 0) X d_MO_holds_82 (by decide) ?_
              refine ab_iadd X d_MO_holds_83 ?_
              refine ab_top hz2 ?_
              refine ab_istore7 X 0 2 3 4 5 6 7 d_MO_holds_84 (by decide) rfl rfl rfl rfl rfl rfl rfl rfl rfl rfl rfl rfl rfl rfl ?_
              refine ab_iinc7 X 1 0 2 3 4 5 6 7 d_MO_holds_86 rfl (by decide) rfl rfl rfl rfl rfl rfl rfl rfl rfl rfl rfl rfl rfl rfl ?_
              refine ab_goto X 44 d_MO_holds_89 rfl ?_
              rw [show nI i + Int32.ofInt 1 = nI (i + 1) from nI_1 i]
              exact ih2 (i + 1) (by omega)
            ·
              have hz2 : nI (hc (hF kd ar cn ch a1 a2 a3 a4 P n) (ch j) i) + 1 = nI (hc (hF kd ar cn ch a1 a2 a3 a4 P n) (ch j) (i + 1)) := by show _ = nI (hc (hF kd ar cn ch a1 a2 a3 a4 P n) (ch j) i + (if hF kd ar cn ch a1 a2 a3 a4 P n (ch j i) = 0 then 0 else 1)); rw [if_neg h75]; exact nI_1 _
              refine ab_iconst (v := 1) X d_MO_holds_78 (by decide) ?_
              refine ab_goto X 83 d_MO_holds_79 rfl ?_
              refine ab_iadd X d_MO_holds_83 ?_
              refine ab_top hz2 ?_
              refine ab_istore7 X 0 2 3 4 5 6 7 d_MO_holds_84 (by decide) rfl rfl rfl rfl rfl rfl rfl rfl rfl rfl rfl rfl rfl rfl ?_
              refine ab_iinc7 X 1 0 2 3 4 5 6 7 d_MO_holds_86 rfl (by decide) rfl rfl rfl rfl rfl rfl rfl rfl rfl rfl rfl rfl rfl rfl ?_
              refine ab_goto X 44 d_MO_holds_89 rfl ?_
              rw [show nI i + Int32.ofInt 1 = nI (i + 1) from nI_1 i]
              exact ih2 (i + 1) (by omega)
        refine ab_iload X 0 d_MO_holds_33 rfl ?_
        refine ab_if_lt X 178 d_MO_holds_35 rfl (fun hb => absurd hb ((nI_pos (by omega)))) (fun _ => ?_)
        refine ab_iconst (v := 0) X d_MO_holds_38 (by decide) ?_
        refine ab_istore6 X 0 1 2 3 4 5 d_MO_holds_39 (by decide) rfl rfl rfl rfl rfl rfl rfl rfl rfl rfl rfl rfl ?_
        refine ab_iconst (v := 0) X d_MO_holds_41 (by decide) ?_
        refine ab_istore7 X 0 1 2 3 4 5 6 d_MO_holds_42 (by decide) rfl rfl rfl rfl rfl rfl rfl rfl rfl rfl rfl rfl rfl rfl ?_
        exact inn (cn j) 0 (by omega)
    refine ab_aload_n X 0 d_MO_holds_0 rfl rfl ?_
    refine ab_aload_n X 0 d_MO_holds_1 rfl rfl ?_
    refine ab_gI X fl_MO_23 d_MO_holds_2 (by first | assumption | decide | (show _ < 124; omega) | (show _ < 61; omega) | (show _ < 20; omega)) (z) ?_
    refine ab_if_eq X 12 d_MO_holds_5 rfl (fun hb => absurd hb ((by decide))) (fun _ => ?_)
    refine ab_iconst (v := 0) X d_MO_holds_8 (by decide) ?_
    refine ab_goto X 13 d_MO_holds_9 rfl ?_
    refine ab_putI X fp_MO_7 d_MO_holds_13 (by first | assumption | decide | (show _ < 124; omega) | (show _ < 61; omega) | (show _ < 20; omega)) rfl rfl ?_
    refine ab_gen (fun u13 e13 => ?_)
    have P13 : gP [0] u u13 := by rw [e13]; exact P0.ui rfl (by decide)
    refine ab_aload_n X 0 d_MO_holds_16 rfl rfl ?_
    refine ab_gI X fl_MO_23 d_MO_holds_17 (by first | assumption | decide | (show _ < 124; omega) | (show _ < 61; omega) | (show _ < 20; omega)) ((show _ = (1 : Int32) by rw [e13]; simpa [ab_up] using z)) ?_
    refine ab_if_ne X 25 d_MO_holds_20 rfl (fun _ => ?_) (fun hb => absurd hb ((by decide)))
    refine ab_aload_n X 0 d_MO_holds_25 rfl rfl ?_
    refine ab_gI X fl_MO_27 d_MO_holds_26 (by first | assumption | decide | (show _ < 124; omega) | (show _ < 61; omega) | (show _ < 20; omega)) (P13.fi (by decide) T.1) ?_
    refine ab_iconst (v := 1) X d_MO_holds_29 (by decide) ?_
    refine ab_isub X d_MO_holds_30 ?_
    refine ab_istore5 X 0 1 2 3 4 d_MO_holds_31 (by decide) rfl rfl rfl rfl rfl rfl rfl rfl rfl rfl ?_
    exact out P 0 _ (by omega) P13 (by rw [e13]; simp [ab_up]) (fun q a b => absurd b (by omega))
end SaHolds

