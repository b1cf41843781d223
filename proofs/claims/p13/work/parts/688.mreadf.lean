/-! How the reference goes through a policy: the same, without a stack of calls. -/
def bM (T : Nat → Int32) (t : Nat) (F : Cf → Option Cf) (r : Nat) (x : Option Cf) : Option Cf := match x with
  | none => none
  | some c2 => pK T t F r c2
section PkL
variable {T : Nat → Int32} {t q M O r : Nat} {kd ar cn op : Nat → Nat} {ch : Nat → Nat → Nat} {F : Cf → Option Cf}
theorem pK_s (c : Cf) : pK T t F (r + 1) c = if pG T t c = true then (match pC T t c with | none => none | some c1 => bM T t F r (F c1)) else pE T t c := rfl
theorem pG_o : pG T t (q, M, O + 1, kd, ar, cn, op, ch) = (decide (cn (op O) < 2) || (decide (ta T t q = 44) && decide (cn (op O) < if kd (op O) < 7 then 2 else 4))) := rfl
theorem pC_o : pC T t (q, M, O + 1, kd, ar, cn, op, ch) = if cn (op O) = 0 then some (q, M, O + 1, kd, ar, cn, op, ch) else if ta T t q = 44 then some (q + 1, M, O + 1, kd, ar, cn, op, ch) else none := rfl
theorem pE_o : pE T t (q, M, O + 1, kd, ar, cn, op, ch) = if (kd (op O) = 7 → ar (op O) ≤ cn (op O)) ∧ ta T t q = 41 then some (q + 1, M, O, kd, ar, cn, op, ch) else none := rfl
theorem pK_zero (h : cn (op O) = 0) : pK T t F (r + 1) (q, M, O + 1, kd, ar, cn, op, ch) = bM T t F r (F (q, M, O + 1, kd, ar, cn, op, ch)) := by
  rw [pK_s, pG_o, pC_o, h, if_pos (by simp), if_pos rfl]
theorem pK_go (h : 1 ≤ cn (op O)) (h4 : ta T t q = 44) (hl : cn (op O) < if kd (op O) < 7 then 2 else 4) : pK T t F (r + 1) (q, M, O + 1, kd, ar, cn, op, ch) = bM T t F r (F (q + 1, M, O + 1, kd, ar, cn, op, ch)) := by
  rw [pK_s, pG_o, pC_o, if_pos (by simp [h4, hl]), if_neg (by omega), if_pos h4]
/-- it may end here -/
def mE (k n a : Nat) : Prop := (k < 7 → n = 2) ∧ (7 ≤ k → 2 ≤ n ∧ a ≤ n)
theorem pK_end (hk : kd (op O) ≤ 7) (hn : ¬ (ta T t q = 44 ∧ cn (op O) < if kd (op O) < 7 then 2 else 4)) (hE : mE (kd (op O)) (cn (op O)) (ar (op O))) (h1 : ta T t q = 41) : pK T t F r (q, M, O + 1, kd, ar, cn, op, ch) = some (q + 1, M, O, kd, ar, cn, op, ch) := by
  have c2 : ¬ cn (op O) < 2 := by
    by_cases z : kd (op O) < 7
    · have := hE.1 z; omega
    · have := hE.2 (by omega); omega
  have e : pE T t (q, M, O + 1, kd, ar, cn, op, ch) = some (q + 1, M, O, kd, ar, cn, op, ch) := by
    rw [pE_o, if_pos ⟨fun z => (hE.2 (by omega)).2, h1⟩]
  cases r with
  | zero => exact e
  | succ r => rw [pK_s, pG_o, if_neg (by simp only [Bool.or_eq_true, Bool.and_eq_true, decide_eq_true_eq]; exact fun z => z.elim c2 hn)]; exact e
theorem pK_bad (hk : kd (op O) ≤ 7) (h2 : kd (op O) < 7 → cn (op O) ≤ 2) (hr : r + cn (op O) = 4) (h : 1 ≤ cn (op O)) (hn : ¬ (ta T t q = 44 ∧ cn (op O) < if kd (op O) < 7 then 2 else 4)) (hE : ¬ (ta T t q = 41 ∧ mE (kd (op O)) (cn (op O)) (ar (op O)))) : pK T t F r (q, M, O + 1, kd, ar, cn, op, ch) = none := by
  have e : 2 ≤ cn (op O) → pE T t (q, M, O + 1, kd, ar, cn, op, ch) = none := fun c2 => by
    rw [pE_o, if_neg]
    rintro ⟨z1, z2⟩
    refine hE ⟨z2, fun y => ?_, fun y => ⟨c2, z1 (by omega)⟩⟩
    have := h2 y; omega
  cases r with
  | zero => exact e (by omega)
  | succ r =>
    rw [pK_s, pG_o]
    by_cases c2 : cn (op O) < 2
    · rw [if_pos (by simp [c2]), pC_o, if_neg (by omega), if_neg (fun z => hn ⟨z, by split <;> omega⟩)]
    · rw [if_neg (by simp only [Bool.or_eq_true, Bool.and_eq_true, decide_eq_true_eq]; exact fun z => z.elim c2 hn)]; exact e (by omega)
theorem pP_up {n : Nat} {q' M' O' a : Nat} {kd' ar' cn' op' : Nat → Nat} {ch' : Nat → Nat → Nat} (h : pP T t n (q, M, O + 1, kd, ar, cn, op, ch) = some (q', M', O', kd', ar', cn', op', ch')) (ho : op O = a) (hM : a < M) : O' = O + 1 ∧ op' O = a ∧ cn' a = cn a + 1 ∧ kd' a = kd a ∧ ar' a = ar a := by
  obtain ⟨a1, a2, a3, a4⟩ := (pP_fr n _ _ h : fT _ _ _ _ _ _ _ _ _ _ _ _ _ _)
  obtain ⟨b1, b2, b3, -⟩ := a4 a hM
  refine ⟨a1, (a3 O (by omega)).trans ho, ?_, b1, b2⟩
  rw [b3]; unfold c1f; rw [if_pos (by omega), show O + 1 - 1 = O by omega, ho, up1_s]
end PkL
theorem bP_lf {T : Nat → Int32} {t O : Nat} {F : Cf → Option Cf} {c1 : Cf} (h : c1.2.2.1 = O) : bP T t F O (some c1) = some c1 := if_pos h
theorem bP_op {T : Nat → Int32} {t O : Nat} {F : Cf → Option Cf} {c1 : Cf} (h : ¬ c1.2.2.1 = O) : bP T t F O (some c1) = pK T t F 4 c1 := if_neg h
section SaMReadF
variable {l : Launch} {D : va_G} {ca : Nat → ClassId}
set_option maxRecDepth 100000 in
set_option maxHeartbeats 1000000 in
theorem t_MO_goF (u : ab_S) (o k n : Nat) (h : mR u.2.1) (ho : o < 40) (ek : u.1 18 1 o = nI k) (en : u.1 18 3 o = nI n) (hk : k ≤ 7) (hn : n ≤ 4) : ab_C false l D ca y_MO_mayGoOn b_MO_mayGoOn 2 (some FieldType.boolean) 0 ab_nQ u [ab_O 17 0, ab_I (nI o)] (fun u' v => u' = u ∧ ∃ b : Int32, ((b = 0 ∧ ¬ n < (if k < 7 then 2 else 4)) ∨ (b = 1 ∧ n < (if k < 7 then 2 else 4))) ∧ v = some (ab_I b)) := by
  refine ab_C.of (by decide) (Nat.le_of_ble_eq_true rfl) ?_
  intro p e s m args below meth c ad X hZ hr0 hlk
  have P0 : gP [] u u := gP.rf h
  refine ab_aload_n X 0 d_MO_mayGoOn_0 rfl rfl ?_
  refine ab_gR X fl_MO_33 d_MO_mayGoOn_1 (by first | assumption | decide | (show _ < 124; omega) | (show _ < 61; omega) | (show _ < 20; omega)) (P0.1.mo7) ?_
  refine ab_iload_n X 1 d_MO_mayGoOn_4 rfl rfl ?_
  refine ab_iald X (o) ⟨rfl, rfl⟩ d_MO_mayGoOn_5 (by first | assumption | decide | (show _ < 124; omega) | (show _ < 61; omega) | (show _ < 20; omega)) (rfl) (ho) (ab_ln_lt _ _) ?_
  refine ab_top ek ?_
  refine ab_bipush (v := 7) X d_MO_mayGoOn_6 (by decide) ?_
  refine ab_icmp_ge X 29 d_MO_mayGoOn_8 rfl (fun h8 => ?_) (fun h8 => ?_)
  ·
    have k7 := nI_le_of (b := 7) h8 (by omega)
    refine ab_aload_n X 0 d_MO_mayGoOn_29 rfl rfl ?_
    refine ab_gR X fl_MO_39 d_MO_mayGoOn_30 (by first | assumption | decide | (show _ < 124; omega) | (show _ < 61; omega) | (show _ < 20; omega)) (P0.1.mo9) ?_
    refine ab_iload_n X 1 d_MO_mayGoOn_33 rfl rfl ?_
    refine ab_iald X (o) ⟨rfl, rfl⟩ d_MO_mayGoOn_34 (by first | assumption | decide | (show _ < 124; omega) | (show _ < 61; omega) | (show _ < 20; omega)) (rfl) (ho) (ab_ln_lt _ _) ?_
    refine ab_top en ?_
    refine ab_iconst (v := 4) X d_MO_mayGoOn_35 (by decide) ?_
    refine ab_icmp_ge X 43 d_MO_mayGoOn_36 rfl (fun h36 => ?_) (fun h36 => ?_)
    ·
      have n4 := nI_le_of (b := 4) h36 (by omega)
      refine ab_iconst (v := 0) X d_MO_mayGoOn_43 (by decide) ?_
      first | exact ab_retz X hr0 hlk (Or.inl rfl) d_MO_mayGoOn_44 ⟨rfl, _, Or.inl ⟨rfl, by split <;> omega⟩, rfl⟩ | exact ab_retz X hr0 hlk (Or.inr rfl) d_MO_mayGoOn_44 ⟨rfl, _, Or.inr ⟨rfl, by split <;> omega⟩, rfl⟩
    ·
      have n4 := nI_lt_of (b := 4) h36 (by omega)
      refine ab_iconst (v := 1) X d_MO_mayGoOn_39 (by decide) ?_
      refine ab_goto X 44 d_MO_mayGoOn_40 rfl ?_
      first | exact ab_retz X hr0 hlk (Or.inl rfl) d_MO_mayGoOn_44 ⟨rfl, _, Or.inl ⟨rfl, by split <;> omega⟩, rfl⟩ | exact ab_retz X hr0 hlk (Or.inr rfl) d_MO_mayGoOn_44 ⟨rfl, _, Or.inr ⟨rfl, by split <;> omega⟩, rfl⟩
  ·
    have k7 := nI_lt_of (b := 7) h8 (by omega)
    refine ab_aload_n X 0 d_MO_mayGoOn_11 rfl rfl ?_
    refine ab_gR X fl_MO_39 d_MO_mayGoOn_12 (by first | assumption | decide | (show _ < 124; omega) | (show _ < 61; omega) | (show _ < 20; omega)) (P0.1.mo9) ?_
    refine ab_iload_n X 1 d_MO_mayGoOn_15 rfl rfl ?_
    refine ab_iald X (o) ⟨rfl, rfl⟩ d_MO_mayGoOn_16 (by first | assumption | decide | (show _ < 124; omega) | (show _ < 61; omega) | (show _ < 20; omega)) (rfl) (ho) (ab_ln_lt _ _) ?_
    refine ab_top en ?_
    refine ab_iconst (v := 2) X d_MO_mayGoOn_17 (by decide) ?_
    refine ab_icmp_ge X 25 d_MO_mayGoOn_18 rfl (fun h18 => ?_) (fun h18 => ?_)
    ·
      have n2 := nI_le_of (b := 2) h18 (by omega)
      refine ab_iconst (v := 0) X d_MO_mayGoOn_25 (by decide) ?_
      refine ab_goto X 44 d_MO_mayGoOn_26 rfl ?_
      first | exact ab_retz X hr0 hlk (Or.inl rfl) d_MO_mayGoOn_44 ⟨rfl, _, Or.inl ⟨rfl, by split <;> omega⟩, rfl⟩ | exact ab_retz X hr0 hlk (Or.inr rfl) d_MO_mayGoOn_44 ⟨rfl, _, Or.inr ⟨rfl, by split <;> omega⟩, rfl⟩
    ·
      have n2 := nI_lt_of (b := 2) h18 (by omega)
      refine ab_iconst (v := 1) X d_MO_mayGoOn_21 (by decide) ?_
      refine ab_goto X 44 d_MO_mayGoOn_22 rfl ?_
      first | exact ab_retz X hr0 hlk (Or.inl rfl) d_MO_mayGoOn_44 ⟨rfl, _, Or.inl ⟨rfl, by split <;> omega⟩, rfl⟩ | exact ab_retz X hr0 hlk (Or.inr rfl) d_MO_mayGoOn_44 ⟨rfl, _, Or.inr ⟨rfl, by split <;> omega⟩, rfl⟩
set_option maxRecDepth 100000 in
set_option maxHeartbeats 1000000 in
theorem t_MO_endF (u : ab_S) (o k n a : Nat) (h : mR u.2.1) (ho : o < 40) (ek : u.1 18 1 o = nI k) (en : u.1 18 3 o = nI n) (ea : u.1 18 2 o = nI a) (hk : k ≤ 7) (hn : n ≤ 4) (ha : a ≤ 999) : ab_C false l D ca y_MO_mayEnd b_MO_mayEnd 2 (some FieldType.boolean) 0 ab_nQ u [ab_O 17 0, ab_I (nI o)] (fun u' v => u' = u ∧ ∃ b : Int32, ((b = 0 ∧ ¬ mE k n a) ∨ (b = 1 ∧ mE k n a)) ∧ v = some (ab_I b)) := by
  refine ab_C.of (by decide) (Nat.le_of_ble_eq_true rfl) ?_
  intro p e s m args below meth c ad X hZ hr0 hlk
  have P0 : gP [] u u := gP.rf h
  refine ab_aload_n X 0 d_MO_mayEnd_0 rfl rfl ?_
  refine ab_gR X fl_MO_33 d_MO_mayEnd_1 (by first | assumption | decide | (show _ < 124; omega) | (show _ < 61; omega) | (show _ < 20; omega)) (P0.1.mo7) ?_
  refine ab_iload_n X 1 d_MO_mayEnd_4 rfl rfl ?_
  refine ab_iald X (o) ⟨rfl, rfl⟩ d_MO_mayEnd_5 (by first | assumption | decide | (show _ < 124; omega) | (show _ < 61; omega) | (show _ < 20; omega)) (rfl) (ho) (ab_ln_lt _ _) ?_
  refine ab_top ek ?_
  refine ab_bipush (v := 7) X d_MO_mayEnd_6 (by decide) ?_
  refine ab_icmp_ge X 29 d_MO_mayEnd_8 rfl (fun h8 => ?_) (fun h8 => ?_)
  ·
    have k7 := nI_le_of (b := 7) h8 (by omega)
    refine ab_aload_n X 0 d_MO_mayEnd_29 rfl rfl ?_
    refine ab_gR X fl_MO_39 d_MO_mayEnd_30 (by first | assumption | decide | (show _ < 124; omega) | (show _ < 61; omega) | (show _ < 20; omega)) (P0.1.mo9) ?_
    refine ab_iload_n X 1 d_MO_mayEnd_33 rfl rfl ?_
    refine ab_iald X (o) ⟨rfl, rfl⟩ d_MO_mayEnd_34 (by first | assumption | decide | (show _ < 124; omega) | (show _ < 61; omega) | (show _ < 20; omega)) (rfl) (ho) (ab_ln_lt _ _) ?_
    refine ab_top en ?_
    refine ab_iconst (v := 1) X d_MO_mayEnd_35 (by decide) ?_
    refine ab_icmp_le X 58 d_MO_mayEnd_36 rfl (fun h36 => ?_) (fun h36 => ?_)
    ·
      have n1 := nI_le_of (a := 1) h36 (by omega)
      refine ab_iconst (v := 0) X d_MO_mayEnd_58 (by decide) ?_
      first | exact ab_retz X hr0 hlk (Or.inl rfl) d_MO_mayEnd_59 ⟨rfl, _, Or.inl ⟨rfl, by unfold mE; omega⟩, rfl⟩ | exact ab_retz X hr0 hlk (Or.inr rfl) d_MO_mayEnd_59 ⟨rfl, _, Or.inr ⟨rfl, by unfold mE; omega⟩, rfl⟩
    ·
      have n1 : 1 < n := Nat.lt_of_not_le (fun z => h36 (nI_le (b := 1) z (by decide)))
      refine ab_aload_n X 0 d_MO_mayEnd_39 rfl rfl ?_
      refine ab_gR X fl_MO_39 d_MO_mayEnd_40 (by first | assumption | decide | (show _ < 124; omega) | (show _ < 61; omega) | (show _ < 20; omega)) (P0.1.mo9) ?_
      refine ab_iload_n X 1 d_MO_mayEnd_43 rfl rfl ?_
      refine ab_iald X (o) ⟨rfl, rfl⟩ d_MO_mayEnd_44 (by first | assumption | decide | (show _ < 124; omega) | (show _ < 61; omega) | (show _ < 20; omega)) (rfl) (ho) (ab_ln_lt _ _) ?_
      refine ab_top en ?_
      refine ab_aload_n X 0 d_MO_mayEnd_45 rfl rfl ?_
      refine ab_gR X fl_MO_36 d_MO_mayEnd_46 (by first | assumption | decide | (show _ < 124; omega) | (show _ < 61; omega) | (show _ < 20; omega)) (P0.1.mo8) ?_
      refine ab_iload_n X 1 d_MO_mayEnd_49 rfl rfl ?_
      refine ab_iald X (o) ⟨rfl, rfl⟩ d_MO_mayEnd_50 (by first | assumption | decide | (show _ < 124; omega) | (show _ < 61; omega) | (show _ < 20; omega)) (rfl) (ho) (ab_ln_lt _ _) ?_
      refine ab_top ea ?_
      refine ab_icmp_lt X 58 d_MO_mayEnd_51 rfl (fun h51 => ?_) (fun h51 => ?_)
      ·
        have na := nI_ltl h51 (by omega)
        refine ab_iconst (v := 0) X d_MO_mayEnd_58 (by decide) ?_
        first | exact ab_retz X hr0 hlk (Or.inl rfl) d_MO_mayEnd_59 ⟨rfl, _, Or.inl ⟨rfl, by unfold mE; omega⟩, rfl⟩ | exact ab_retz X hr0 hlk (Or.inr rfl) d_MO_mayEnd_59 ⟨rfl, _, Or.inr ⟨rfl, by unfold mE; omega⟩, rfl⟩
      ·
        have na : a ≤ n := Nat.le_of_not_lt (fun z => h51 (nI_lt z (by omega)))
        refine ab_iconst (v := 1) X d_MO_mayEnd_54 (by decide) ?_
        refine ab_goto X 59 d_MO_mayEnd_55 rfl ?_
        first | exact ab_retz X hr0 hlk (Or.inl rfl) d_MO_mayEnd_59 ⟨rfl, _, Or.inl ⟨rfl, by unfold mE; omega⟩, rfl⟩ | exact ab_retz X hr0 hlk (Or.inr rfl) d_MO_mayEnd_59 ⟨rfl, _, Or.inr ⟨rfl, by unfold mE; omega⟩, rfl⟩
  ·
    have k7 := nI_lt_of (b := 7) h8 (by omega)
    refine ab_aload_n X 0 d_MO_mayEnd_11 rfl rfl ?_
    refine ab_gR X fl_MO_39 d_MO_mayEnd_12 (by first | assumption | decide | (show _ < 124; omega) | (show _ < 61; omega) | (show _ < 20; omega)) (P0.1.mo9) ?_
    refine ab_iload_n X 1 d_MO_mayEnd_15 rfl rfl ?_
    refine ab_iald X (o) ⟨rfl, rfl⟩ d_MO_mayEnd_16 (by first | assumption | decide | (show _ < 124; omega) | (show _ < 61; omega) | (show _ < 20; omega)) (rfl) (ho) (ab_ln_lt _ _) ?_
    refine ab_top en ?_
    refine ab_iconst (v := 2) X d_MO_mayEnd_17 (by decide) ?_
    refine ab_icmp_ne X 25 d_MO_mayEnd_18 rfl (fun h18 => ?_) (fun h18 => ?_)
    ·
      have n2 : ¬ n = 2 := fun z => h18 (by rw [z]; rfl)
      refine ab_iconst (v := 0) X d_MO_mayEnd_25 (by decide) ?_
      refine ab_goto X 59 d_MO_mayEnd_26 rfl ?_
      first | exact ab_retz X hr0 hlk (Or.inl rfl) d_MO_mayEnd_59 ⟨rfl, _, Or.inl ⟨rfl, by unfold mE; omega⟩, rfl⟩ | exact ab_retz X hr0 hlk (Or.inr rfl) d_MO_mayEnd_59 ⟨rfl, _, Or.inr ⟨rfl, by unfold mE; omega⟩, rfl⟩
    ·
      have n2 : n = 2 := (nI_eq (b := 2) (by omega) (by omega)).mp h18
      refine ab_iconst (v := 1) X d_MO_mayEnd_21 (by decide) ?_
      refine ab_goto X 59 d_MO_mayEnd_22 rfl ?_
      first | exact ab_retz X hr0 hlk (Or.inl rfl) d_MO_mayEnd_59 ⟨rfl, _, Or.inl ⟨rfl, by unfold mE; omega⟩, rfl⟩ | exact ab_retz X hr0 hlk (Or.inr rfl) d_MO_mayEnd_59 ⟨rfl, _, Or.inr ⟨rfl, by unfold mE; omega⟩, rfl⟩
theorem rt.OM {M O : Nat} {kd ar cn en cl op : Nat → Nat} {ch : Nat → Nat → Nat} (R : rt M O kd ar cn en cl op ch) : O ≤ M := by
  by_cases z : O = 0
  · omega
  · have mono := rt.mono (h := R.2)
    have : ∀ j, j < O → j ≤ op j := by
      intro j
      induction j with
      | zero => intro _; exact Nat.zero_le _
      | succ j ih => intro hj; have := ih (by omega); have := mono (j + 1) j (by omega) hj; omega
    have z1 := this (O - 1) (by omega)
    have z2 := (R.2.2.1 (O - 1) (by omega)).1
    omega
set_option maxRecDepth 100000 in
set_option maxHeartbeats 4000000 in
theorem f_MO_readAll (u : ab_S) (T : Nat → Int32) (t : Nat) (ht : t ≤ 100) (et : u.1 17 0 2 = nI t) (hT : ∀ k, k < t → u.1 18 0 k = T k) (h : mR u.2.1) : ab_C false l D ca y_MO_readAll b_MO_readAll 5 (some FieldType.int) 3 ab_nQ u [ab_O 17 0] (fun u' v => gP [5, 6, 39, 101, 102, 103, 104, 120] u u' ∧ ∃ x : Int32, ((¬ x < 0 ∧ parse T t = none) ∨ (x < 0 ∧ ∃ (q M O : Nat) (kd ar cn op lf : Nat → Nat) (ch : Nat → Nat → Nat), parse T t = some (q, M, O, kd, ar, cn, op, ch) ∧ tW M kd ar cn lf ch ∧ tR M kd ar cn ch u' ∧ u'.1 17 0 6 = nI (lcn kd M))) ∧ v = some (ab_I x)) := by
  refine ab_C.of (by decide) (Nat.le_of_ble_eq_true rfl) ?_
  intro p e s m args below meth c ad X hZ hr0 hlk
  have P0 : gP [5, 6, 39, 101, 102, 103, 104, 120] u u := gP.rf h
  have neg34 : ∀ (u2 : ab_S) (y b : Int32), y < 0 → parse T t = none → gP [5, 6, 39, 101, 102, 103, 104, 120] u u2 → ab_J p l e (ab_rm 3 0 0) s m args below meth c (MQ below (ab_Q D ca ad ab_nQ s.heap.size (fun u' v => gP [5, 6, 39, 101, 102, 103, 104, 120] u u' ∧ ∃ x : Int32, ((¬ x < 0 ∧ parse T t = none) ∨ (x < 0 ∧ ∃ (q M O : Nat) (kd ar cn op lf : Nat → Nat) (ch : Nat → Nat → Nat), parse T t = some (q, M, O, kd, ar, cn, op, ch) ∧ tW M kd ar cn lf ch ∧ tR M kd ar cn ch u' ∧ u'.1 17 0 6 = nI (lcn kd M))) ∧ v = some (ab_I x))) args s 0 0 (ab_A ad ab_nQ s.heap.size)) D ca (ab_A ad ab_nQ s.heap.size) s.heap 5 0 0 ad ab_nQ u2 34 [(2, ab_I b), (1, ab_I y), (0, ab_O 17 0)] [] := by
    intro u2 y b hy hN P2
    refine ab_iload_n X 1 d_MO_readAll_34 rfl rfl ?_
    refine ab_if_lt X 173 d_MO_readAll_35 rfl (fun _ => ?_) (fun hb => absurd (hy) hb)
    refine ab_iload_n X 1 d_MO_readAll_173 rfl rfl ?_
    refine ab_if_ge X 183 d_MO_readAll_174 rfl (fun hb => absurd hb ((Int32.not_le.mpr hy))) (fun _ => ?_)
    refine ab_iconst (v := (-1)) X d_MO_readAll_177 (by decide) ?_
    refine ab_iload_n X 1 d_MO_readAll_178 rfl rfl ?_
    refine ab_isub X d_MO_readAll_179 ?_
    refine ab_goto X 184 d_MO_readAll_180 rfl ?_
    exact ab_reti X hr0 hlk d_MO_readAll_184 ⟨P2, _, Or.inl ⟨neg_neg' hy, hN⟩, rfl⟩
  obtain ⟨jt, hjt⟩ : ∃ jt : Cf → Int32 → Prop, ∀ (q M O : Nat) (kd ar cn op : Nat → Nat) (ch : Nat → Nat → Nat) (b : Int32), jt (q, M, O, kd, ar, cn, op, ch) b ↔ (∀ (en cl : Nat → Nat) (u1 : ab_S), gP [5, 6, 39, 101, 102, 103, 104, 120] u u1 → rI t q M O kd ar cn en cl op ch u1 → 1 ≤ M → (b = 1 ∨ (b = 0 ∧ rR O kd cn op)) → ab_J p l e (ab_rm 3 0 0) s m args below meth c (MQ below (ab_Q D ca ad ab_nQ s.heap.size (fun u' v => gP [5, 6, 39, 101, 102, 103, 104, 120] u u' ∧ ∃ x : Int32, ((¬ x < 0 ∧ parse T t = none) ∨ (x < 0 ∧ ∃ (q M O : Nat) (kd ar cn op lf : Nat → Nat) (ch : Nat → Nat → Nat), parse T t = some (q, M, O, kd, ar, cn, op, ch) ∧ tW M kd ar cn lf ch ∧ tR M kd ar cn ch u' ∧ u'.1 17 0 6 = nI (lcn kd M))) ∧ v = some (ab_I x))) args s 0 0 (ab_A ad ab_nQ s.heap.size)) D ca (ab_A ad ab_nQ s.heap.size) s.heap 5 0 0 ad ab_nQ u1 34 [(2, ab_I b), (1, ab_I (nI q)), (0, ab_O 17 0)] []) := ⟨fun cf b => match cf with | (q, M, O, kd, ar, cn, op, ch) => (∀ (en cl : Nat → Nat) (u1 : ab_S), gP [5, 6, 39, 101, 102, 103, 104, 120] u u1 → rI t q M O kd ar cn en cl op ch u1 → 1 ≤ M → (b = 1 ∨ (b = 0 ∧ rR O kd cn op)) → ab_J p l e (ab_rm 3 0 0) s m args below meth c (MQ below (ab_Q D ca ad ab_nQ s.heap.size (fun u' v => gP [5, 6, 39, 101, 102, 103, 104, 120] u u' ∧ ∃ x : Int32, ((¬ x < 0 ∧ parse T t = none) ∨ (x < 0 ∧ ∃ (q M O : Nat) (kd ar cn op lf : Nat → Nat) (ch : Nat → Nat → Nat), parse T t = some (q, M, O, kd, ar, cn, op, ch) ∧ tW M kd ar cn lf ch ∧ tR M kd ar cn ch u' ∧ u'.1 17 0 6 = nI (lcn kd M))) ∧ v = some (ab_I x))) args s 0 0 (ab_A ad ab_nQ s.heap.size)) D ca (ab_A ad ab_nQ s.heap.size) s.heap 5 0 0 ad ab_nQ u1 34 [(2, ab_I b), (1, ab_I (nI q)), (0, ab_O 17 0)] []), fun _ _ _ _ _ _ _ _ _ => Iff.rfl⟩
  have step : ∀ (n O r q M : Nat) (kd ar cn op : Nat → Nat) (ch : Nat → Nat → Nat), r + cn (op O) = 4 → 1 ≤ cn (op O) → (ta T t q = 44 → cn (op O) < (if kd (op O) < 7 then 2 else 4) → op O < M → jt (q + 1, M, O + 1, kd, ar, cn, op, ch) 0) → (∀ c', pK T t (pP T t n) r (q, M, O + 1, kd, ar, cn, op, ch) = some c' → jt c' 1) → (pK T t (pP T t n) r (q, M, O + 1, kd, ar, cn, op, ch) = none → parse T t = none) → jt (q, M, O + 1, kd, ar, cn, op, ch) 1 := by
    intro n O r q M kd ar cn op ch hr hc1 Hgo H1 H2
    rw [hjt]
    intro en cl u1 P1 I hM1 hb
    have OM := rt.OM I.2.1
    obtain ⟨⟨eM, eL, eO, eS, eop⟩, R, hL, hM, hqt, h0, hA⟩ := I
    have et1 := P1.fi (s := 2) (by decide) et
    have hT1 : ∀ k, k < t → u1.1 18 0 k = T k := fun k hk => P1.ai (by decide) (hT k hk)
    obtain ⟨t1, t5, -, -⟩ := R.2.2.1 O (by omega)
    obtain ⟨y1, y2, y3, -⟩ := eS _ t1
    obtain ⟨⟨k1, k7, r9⟩, -, a3, -⟩ := R.1 _ t1
    obtain ⟨c4, c5, -⟩ := a3 t5
    refine ab_iload_n X 1 d_MO_readAll_34 rfl rfl ?_
    refine ab_if_lt X 173 d_MO_readAll_35 rfl (fun hb => absurd hb ((nI_pos (by omega)))) (fun _ => ?_)
    refine ab_aload_n X 2 d_MO_readAll_38 rfl rfl ?_
    refine ab_gI X fl_MO_129 d_MO_readAll_39 (by first | assumption | decide | (show _ < 124; omega) | (show _ < 61; omega) | (show _ < 20; omega)) (eO) ?_
    refine ab_if_gt X 53 d_MO_readAll_42 rfl (fun _ => ?_) (fun hb => absurd ((nI_lt (a := 0) (by omega) (by omega))) hb)
    refine ab_aload_n X 2 d_MO_readAll_53 rfl rfl ?_
    refine ab_gI X fl_MO_129 d_MO_readAll_54 (by first | assumption | decide | (show _ < 124; omega) | (show _ < 61; omega) | (show _ < 20; omega)) (eO) ?_
    refine ab_if_ne X 62 d_MO_readAll_57 rfl (fun _ => ?_) (fun hb => absurd hb ((fun z => absurd ((nI_eq (b := 0) (by omega) (by omega)).mp z) (by omega))))
    refine ab_aload_n X 2 d_MO_readAll_62 rfl rfl ?_
    refine ab_gR X fl_MO_126 d_MO_readAll_63 (by first | assumption | decide | (show _ < 124; omega) | (show _ < 61; omega) | (show _ < 20; omega)) (P1.1.mo38) ?_
    refine ab_aload_n X 2 d_MO_readAll_66 rfl rfl ?_
    refine ab_gI X fl_MO_129 d_MO_readAll_67 (by first | assumption | decide | (show _ < 124; omega) | (show _ < 61; omega) | (show _ < 20; omega)) (eO) ?_
    refine ab_iconst (v := 1) X d_MO_readAll_70 (by decide) ?_
    refine ab_isub X d_MO_readAll_71 ?_
    refine ab_top (nI_p1 O) ?_
    refine ab_iald X (O) ⟨rfl, rfl⟩ d_MO_readAll_72 (by first | assumption | decide | (show _ < 124; omega) | (show _ < 61; omega) | (show _ < 20; omega)) (rfl) (show O < 40 by omega) (ab_ln_lt _ _) ?_
    refine ab_top (eop O (by omega)) ?_
    refine ab_istore_n3 X 0 1 2 d_MO_readAll_73 rfl (by decide) rfl rfl rfl rfl rfl rfl ?_
    refine ab_iload_n X 1 d_MO_readAll_74 rfl rfl ?_
    refine ab_if_ne X 108 d_MO_readAll_75 rfl (fun _ => ?_) (fun hb => absurd hb ((by decide)))
    refine ab_aload_n X 3 d_MO_readAll_108 rfl rfl ?_
    refine ab_iload_n X 2 d_MO_readAll_109 rfl rfl ?_
    refine ab_callV (as := [ab_I (nI q)]) X (fun h => by cases h) (t_MO_ta u1 q T t ht et1 hT1 P1.1 (by omega)) lk_MO_145 d_MO_readAll_110 rfl rfl (by first | assumption | decide | (show _ < 124; omega) | (show _ < 61; omega) | (show _ < 20; omega)) ⟨by first | exact Nat.le_of_ble_eq_true rfl | (simp only [ab_rm]; omega), by first | exact Nat.le_of_ble_eq_true rfl | (simp only [ab_rm]; omega)⟩ ⟨by first | exact Nat.le_of_ble_eq_true rfl | (simp only [ab_rm]; omega), by first | exact Nat.le_of_ble_eq_true rfl | (simp only [ab_rm]; omega)⟩ (Nat.le_of_ble_eq_true rfl) (fun u110 r110 h110 => ?_)
    obtain ⟨e110, rfl⟩ := h110
    subst u110
    refine ab_bipush (v := 44) X d_MO_readAll_113 (by decide) ?_
    refine ab_icmp_ne X 134 d_MO_readAll_115 rfl (fun h115 => ?_) (fun h115 => ?_)
    ·
      have ngo : ¬ (ta T t q = 44 ∧ cn (op O) < if kd (op O) < 7 then 2 else 4) := fun z => h115 z.1
      refine ab_aload_n X 3 d_MO_readAll_134 rfl rfl ?_
      refine ab_iload_n X 2 d_MO_readAll_135 rfl rfl ?_
      refine ab_callV (as := [ab_I (nI q)]) X (fun h => by cases h) (t_MO_ta u1 q T t ht et1 hT1 P1.1 (by omega)) lk_MO_145 d_MO_readAll_136 rfl rfl (by first | assumption | decide | (show _ < 124; omega) | (show _ < 61; omega) | (show _ < 20; omega)) ⟨by first | exact Nat.le_of_ble_eq_true rfl | (simp only [ab_rm]; omega), by first | exact Nat.le_of_ble_eq_true rfl | (simp only [ab_rm]; omega)⟩ ⟨by first | exact Nat.le_of_ble_eq_true rfl | (simp only [ab_rm]; omega), by first | exact Nat.le_of_ble_eq_true rfl | (simp only [ab_rm]; omega)⟩ (Nat.le_of_ble_eq_true rfl) (fun u136 r136 h136 => ?_)
      obtain ⟨e136, rfl⟩ := h136
      subst u136
      refine ab_bipush (v := 41) X d_MO_readAll_139 (by decide) ?_
      refine ab_icmp_ne X 168 d_MO_readAll_141 rfl (fun h141 => ?_) (fun h141 => ?_)
      ·
        have nen : ¬ (ta T t q = 41 ∧ mE (kd (op O)) (cn (op O)) (ar (op O))) := fun z => h141 z.1
        refine ab_iload_n X 2 d_MO_readAll_168 rfl rfl ?_
        exact ab_reti X hr0 hlk d_MO_readAll_169 ⟨P1, _, Or.inl ⟨nI_pos (by omega), H2 (pK_bad k7 c5 hr hc1 ngo nen)⟩, rfl⟩
      ·
        have hlt : q < t := ta_lt h141 (by decide)
        refine ab_aload_n X 3 d_MO_readAll_144 rfl rfl ?_
        refine ab_iload_n X 0 d_MO_readAll_145 rfl rfl ?_
        refine ab_callV (as := [ab_I (nI (op O))]) X (fun h => by cases h) (t_MO_endF u1 (op O) _ _ _ P1.1 (by omega) y1 y3 y2 k7 c4 r9) lk_MO_185 d_MO_readAll_146 rfl rfl (by first | assumption | decide | (show _ < 124; omega) | (show _ < 61; omega) | (show _ < 20; omega)) ⟨by first | exact Nat.le_of_ble_eq_true rfl | (simp only [ab_rm]; omega), by first | exact Nat.le_of_ble_eq_true rfl | (simp only [ab_rm]; omega)⟩ ⟨by first | exact Nat.le_of_ble_eq_true rfl | (simp only [ab_rm]; omega), by first | exact Nat.le_of_ble_eq_true rfl | (simp only [ab_rm]; omega)⟩ (Nat.le_of_ble_eq_true rfl) (fun u146 r146 h146 => ?_)
        obtain ⟨e146, b146, hb146, rfl⟩ := h146
        subst u146
        refine ab_if_eq X 168 d_MO_readAll_149 rfl (fun h149 => ?_) (fun h149 => ?_)
        ·
          have nen : ¬ (ta T t q = 41 ∧ mE (kd (op O)) (cn (op O)) (ar (op O))) := fun z => (hb146.resolve_right (fun y => absurd (y.1.symm.trans h149) (by decide))).2 z.2
          refine ab_iload_n X 2 d_MO_readAll_168 rfl rfl ?_
          exact ab_reti X hr0 hlk d_MO_readAll_169 ⟨P1, _, Or.inl ⟨nI_pos (by omega), H2 (pK_bad k7 c5 hr hc1 ngo nen)⟩, rfl⟩
        ·
          have g3 := (hb146.resolve_left (fun z => h149 z.1)).2
          refine ab_iinc3 X 2 0 1 3 d_MO_readAll_152 rfl (by decide) rfl rfl rfl rfl rfl rfl ?_
          refine ab_aload_n X 3 d_MO_readAll_155 rfl rfl ?_
          refine ab_dup X d_MO_readAll_156 rfl ?_
          refine ab_gI X fl_MO_129 d_MO_readAll_157 (by first | assumption | decide | (show _ < 124; omega) | (show _ < 61; omega) | (show _ < 20; omega)) (eO) ?_
          refine ab_iconst (v := 1) X d_MO_readAll_160 (by decide) ?_
          refine ab_isub X d_MO_readAll_161 ?_
          refine ab_top (nI_p1 O) ?_
          refine ab_putI X fp_MO_129 d_MO_readAll_162 (by first | assumption | decide | (show _ < 124; omega) | (show _ < 61; omega) | (show _ < 20; omega)) rfl rfl ?_
          refine ab_gen (fun u162 e162 => ?_)
          have P162 : gP [5, 6, 39, 101, 102, 103, 104, 120] u u162 := by rw [e162]; exact P1.ui rfl (by decide)
          refine ab_goto X 170 d_MO_readAll_165 rfl ?_
          refine ab_goto X 34 d_MO_readAll_170 rfl ?_
          refine ab_lv (List.forall_mem_cons.mpr ⟨List.mem_of_getElem? (i := 2) rfl, List.forall_mem_cons.mpr ⟨List.mem_of_getElem? (i := 0) rfl, List.forall_mem_cons.mpr ⟨List.mem_of_getElem? (i := 3) rfl, fun _ h => absurd h List.not_mem_nil⟩⟩⟩) ?_
          rw [show nI q + Int32.ofInt 1 = nI (q + 1) from nI_1 q]
          first | exact (hjt _ _ _ _ _ _ _ _ _).mp (Hgo h115 g2 t1) en cl _ P162 ⟨⟨eM, eL, eO, eS, eop⟩, R, hL, by omega, by omega, h0, hA⟩ hM1 (Or.inr ⟨rfl, by omega, by show cn (op O) < 4; revert g2; split <;> omega, fun z => by show cn (op O) < 2; have z' : kd (op O) < 7 := z; rw [if_pos z'] at g2; exact g2⟩) | exact (hjt _ _ _ _ _ _ _ _ _).mp (H1 _ (pK_end k7 ngo g3 h141)) _ _ _ P162 ⟨⟨by rw [e162]; simpa [ab_up] using eM, by rw [e162]; simpa [ab_up] using eL, by rw [e162]; simp [ab_up], fun p hp => by rw [e162]; simpa [ab_up] using eS p hp, fun j hj => by rw [e162]; simpa [ab_up] using eop j (by omega)⟩, rt.close R (by omega) (h0 (by omega)) ⟨by show 2 ≤ cn (op O); by_cases z : kd (op O) < 7; (· have := g3.1 z; omega); exact (g3.2 (by omega)).1, g3.1, fun z => ⟨(hA _ t1 z).1, (g3.2 (by have z' : kd (op O) = 7 := z; omega)).2⟩⟩, hL, by omega, by omega, fun _ => h0 (by omega), hA⟩ hM1 (Or.inl rfl)
    ·
      have hlt : q < t := ta_lt h115 (by decide)
      refine ab_aload_n X 3 d_MO_readAll_118 rfl rfl ?_
      refine ab_iload_n X 0 d_MO_readAll_119 rfl rfl ?_
      refine ab_callV (as := [ab_I (nI (op O))]) X (fun h => by cases h) (t_MO_goF u1 (op O) _ _ P1.1 (by omega) y1 y3 k7 c4) lk_MO_181 d_MO_readAll_120 rfl rfl (by first | assumption | decide | (show _ < 124; omega) | (show _ < 61; omega) | (show _ < 20; omega)) ⟨by first | exact Nat.le_of_ble_eq_true rfl | (simp only [ab_rm]; omega), by first | exact Nat.le_of_ble_eq_true rfl | (simp only [ab_rm]; omega)⟩ ⟨by first | exact Nat.le_of_ble_eq_true rfl | (simp only [ab_rm]; omega), by first | exact Nat.le_of_ble_eq_true rfl | (simp only [ab_rm]; omega)⟩ (Nat.le_of_ble_eq_true rfl) (fun u120 r120 h120 => ?_)
      obtain ⟨e120, b120, hb120, rfl⟩ := h120
      subst u120
      refine ab_if_eq X 134 d_MO_readAll_123 rfl (fun h123 => ?_) (fun h123 => ?_)
      ·
        have ngo : ¬ (ta T t q = 44 ∧ cn (op O) < if kd (op O) < 7 then 2 else 4) := fun z => (hb120.resolve_right (fun y => absurd (y.1.symm.trans h123) (by decide))).2 z.2
        refine ab_aload_n X 3 d_MO_readAll_134 rfl rfl ?_
        refine ab_iload_n X 2 d_MO_readAll_135 rfl rfl ?_
        refine ab_callV (as := [ab_I (nI q)]) X (fun h => by cases h) (t_MO_ta u1 q T t ht et1 hT1 P1.1 (by omega)) lk_MO_145 d_MO_readAll_136 rfl rfl (by first | assumption | decide | (show _ < 124; omega) | (show _ < 61; omega) | (show _ < 20; omega)) ⟨by first | exact Nat.le_of_ble_eq_true rfl | (simp only [ab_rm]; omega), by first | exact Nat.le_of_ble_eq_true rfl | (simp only [ab_rm]; omega)⟩ ⟨by first | exact Nat.le_of_ble_eq_true rfl | (simp only [ab_rm]; omega), by first | exact Nat.le_of_ble_eq_true rfl | (simp only [ab_rm]; omega)⟩ (Nat.le_of_ble_eq_true rfl) (fun u136 r136 h136 => ?_)
        obtain ⟨e136, rfl⟩ := h136
        subst u136
        refine ab_bipush (v := 41) X d_MO_readAll_139 (by decide) ?_
        refine ab_icmp_ne X 168 d_MO_readAll_141 rfl (fun h141 => ?_) (fun h141 => ?_)
        ·
          have nen : ¬ (ta T t q = 41 ∧ mE (kd (op O)) (cn (op O)) (ar (op O))) := fun z => h141 z.1
          refine ab_iload_n X 2 d_MO_readAll_168 rfl rfl ?_
          exact ab_reti X hr0 hlk d_MO_readAll_169 ⟨P1, _, Or.inl ⟨nI_pos (by omega), H2 (pK_bad k7 c5 hr hc1 ngo nen)⟩, rfl⟩
        ·
          have hlt : q < t := ta_lt h141 (by decide)
          refine ab_aload_n X 3 d_MO_readAll_144 rfl rfl ?_
          refine ab_iload_n X 0 d_MO_readAll_145 rfl rfl ?_
          refine ab_callV (as := [ab_I (nI (op O))]) X (fun h => by cases h) (t_MO_endF u1 (op O) _ _ _ P1.1 (by omega) y1 y3 y2 k7 c4 r9) lk_MO_185 d_MO_readAll_146 rfl rfl (by first | assumption | decide | (show _ < 124; omega) | (show _ < 61; omega) | (show _ < 20; omega)) ⟨by first | exact Nat.le_of_ble_eq_true rfl | (simp only [ab_rm]; omega), by first | exact Nat.le_of_ble_eq_true rfl | (simp only [ab_rm]; omega)⟩ ⟨by first | exact Nat.le_of_ble_eq_true rfl | (simp only [ab_rm]; omega), by first | exact Nat.le_of_ble_eq_true rfl | (simp only [ab_rm]; omega)⟩ (Nat.le_of_ble_eq_true rfl) (fun u146 r146 h146 => ?_)
          obtain ⟨e146, b146, hb146, rfl⟩ := h146
          subst u146
          refine ab_if_eq X 168 d_MO_readAll_149 rfl (fun h149 => ?_) (fun h149 => ?_)
          ·
            have nen : ¬ (ta T t q = 41 ∧ mE (kd (op O)) (cn (op O)) (ar (op O))) := fun z => (hb146.resolve_right (fun y => absurd (y.1.symm.trans h149) (by decide))).2 z.2
            refine ab_iload_n X 2 d_MO_readAll_168 rfl rfl ?_
            exact ab_reti X hr0 hlk d_MO_readAll_169 ⟨P1, _, Or.inl ⟨nI_pos (by omega), H2 (pK_bad k7 c5 hr hc1 ngo nen)⟩, rfl⟩
          ·
            have g3 := (hb146.resolve_left (fun z => h149 z.1)).2
            refine ab_iinc3 X 2 0 1 3 d_MO_readAll_152 rfl (by decide) rfl rfl rfl rfl rfl rfl ?_
            refine ab_aload_n X 3 d_MO_readAll_155 rfl rfl ?_
            refine ab_dup X d_MO_readAll_156 rfl ?_
            refine ab_gI X fl_MO_129 d_MO_readAll_157 (by first | assumption | decide | (show _ < 124; omega) | (show _ < 61; omega) | (show _ < 20; omega)) (eO) ?_
            refine ab_iconst (v := 1) X d_MO_readAll_160 (by decide) ?_
            refine ab_isub X d_MO_readAll_161 ?_
            refine ab_top (nI_p1 O) ?_
            refine ab_putI X fp_MO_129 d_MO_readAll_162 (by first | assumption | decide | (show _ < 124; omega) | (show _ < 61; omega) | (show _ < 20; omega)) rfl rfl ?_
            refine ab_gen (fun u162 e162 => ?_)
            have P162 : gP [5, 6, 39, 101, 102, 103, 104, 120] u u162 := by rw [e162]; exact P1.ui rfl (by decide)
            refine ab_goto X 170 d_MO_readAll_165 rfl ?_
            refine ab_goto X 34 d_MO_readAll_170 rfl ?_
            refine ab_lv (List.forall_mem_cons.mpr ⟨List.mem_of_getElem? (i := 2) rfl, List.forall_mem_cons.mpr ⟨List.mem_of_getElem? (i := 0) rfl, List.forall_mem_cons.mpr ⟨List.mem_of_getElem? (i := 3) rfl, fun _ h => absurd h List.not_mem_nil⟩⟩⟩) ?_
            rw [show nI q + Int32.ofInt 1 = nI (q + 1) from nI_1 q]
            first | exact (hjt _ _ _ _ _ _ _ _ _).mp (Hgo h115 g2 t1) en cl _ P162 ⟨⟨eM, eL, eO, eS, eop⟩, R, hL, by omega, by omega, h0, hA⟩ hM1 (Or.inr ⟨rfl, by omega, by show cn (op O) < 4; revert g2; split <;> omega, fun z => by show cn (op O) < 2; have z' : kd (op O) < 7 := z; rw [if_pos z'] at g2; exact g2⟩) | exact (hjt _ _ _ _ _ _ _ _ _).mp (H1 _ (pK_end k7 ngo g3 h141)) _ _ _ P162 ⟨⟨by rw [e162]; simpa [ab_up] using eM, by rw [e162]; simpa [ab_up] using eL, by rw [e162]; simp [ab_up], fun p hp => by rw [e162]; simpa [ab_up] using eS p hp, fun j hj => by rw [e162]; simpa [ab_up] using eop j (by omega)⟩, rt.close R (by omega) (h0 (by omega)) ⟨by show 2 ≤ cn (op O); by_cases z : kd (op O) < 7; (· have := g3.1 z; omega); exact (g3.2 (by omega)).1, g3.1, fun z => ⟨(hA _ t1 z).1, (g3.2 (by have z' : kd (op O) = 7 := z; omega)).2⟩⟩, hL, by omega, by omega, fun _ => h0 (by omega), hA⟩ hM1 (Or.inl rfl)
      ·
        have g2 := (hb120.resolve_left (fun z => h123 z.1)).2
        refine ab_iinc3 X 2 0 1 3 d_MO_readAll_126 rfl (by decide) rfl rfl rfl rfl rfl rfl ?_
        refine ab_iconst (v := 0) X d_MO_readAll_129 (by decide) ?_
        refine ab_istore_n3 X 0 1 3 d_MO_readAll_130 rfl (by decide) rfl rfl rfl rfl rfl rfl ?_
        refine ab_goto X 170 d_MO_readAll_131 rfl ?_
        refine ab_goto X 34 d_MO_readAll_170 rfl ?_
        refine ab_lv (List.forall_mem_cons.mpr ⟨List.mem_of_getElem? (i := 0) rfl, List.forall_mem_cons.mpr ⟨List.mem_of_getElem? (i := 1) rfl, List.forall_mem_cons.mpr ⟨List.mem_of_getElem? (i := 3) rfl, fun _ h => absurd h List.not_mem_nil⟩⟩⟩) ?_
        rw [show nI q + Int32.ofInt 1 = nI (q + 1) from nI_1 q]
        first | exact (hjt _ _ _ _ _ _ _ _ _).mp (Hgo h115 g2 t1) en cl _ P1 ⟨⟨eM, eL, eO, eS, eop⟩, R, hL, by omega, by omega, h0, hA⟩ hM1 (Or.inr ⟨rfl, by omega, by show cn (op O) < 4; revert g2; split <;> omega, fun z => by show cn (op O) < 2; have z' : kd (op O) < 7 := z; rw [if_pos z'] at g2; exact g2⟩) | exact (hjt _ _ _ _ _ _ _ _ _).mp (H1 _ (pK_end k7 ngo g3 h141)) _ _ _ P1 ⟨⟨by rw [e162]; simpa [ab_up] using eM, by rw [e162]; simpa [ab_up] using eL, by rw [e162]; simp [ab_up], fun p hp => by rw [e162]; simpa [ab_up] using eS p hp, fun j hj => by rw [e162]; simpa [ab_up] using eop j (by omega)⟩, rt.close R (by omega) (h0 (by omega)) ⟨by show 2 ≤ cn (op O); by_cases z : kd (op O) < 7; (· have := g3.1 z; omega); exact (g3.2 (by omega)).1, g3.1, fun z => ⟨(hA _ t1 z).1, (g3.2 (by have z' : kd (op O) = 7 := z; omega)).2⟩⟩, hL, by omega, by omega, fun _ => h0 (by omega), hA⟩ hM1 (Or.inl rfl)
  have KK : ∀ (n O : Nat), n + (O + 1) = 41 → (∀ (q M O : Nat) (kd ar cn op : Nat → Nat) (ch : Nat → Nat → Nat), 0 < O → n + O = 41 → (∀ c', pP T t n (q, M, O, kd, ar, cn, op, ch) = some c' → jt c' 1) → (pP T t n (q, M, O, kd, ar, cn, op, ch) = none → parse T t = none) → jt (q, M, O, kd, ar, cn, op, ch) 0) → ∀ (r q M : Nat) (kd ar cn op : Nat → Nat) (ch : Nat → Nat → Nat), r + cn (op O) = 4 → 1 ≤ cn (op O) → (∀ c', pK T t (pP T t n) r (q, M, O + 1, kd, ar, cn, op, ch) = some c' → jt c' 1) → (pK T t (pP T t n) r (q, M, O + 1, kd, ar, cn, op, ch) = none → parse T t = none) → jt (q, M, O + 1, kd, ar, cn, op, ch) 1 := by
    intro n O hn ih r
    induction r with
    | zero =>
      intro q M kd ar cn op ch hr hc1 H1 H2
      refine step n O 0 q M kd ar cn op ch hr hc1 (fun _ z _ => absurd z ?_) H1 H2
      split <;> omega
    | succ r ihr =>
      intro q M kd ar cn op ch hr hc1 H1 H2
      refine step n O (r + 1) q M kd ar cn op ch hr hc1 (fun h44 z hoM => ?_) H1 H2
      rw [pK_go hc1 h44 z] at H1 H2
      refine ih (q + 1) M (O + 1) kd ar cn op ch (by omega) (by omega) (fun c2 h2 => ?_) (fun h2 => H2 (by rw [h2]; rfl))
      rw [h2] at H1 H2
      obtain ⟨q2, M2, O2, kd2, ar2, cn2, op2, ch2⟩ := c2
      obtain ⟨rfl, e2, e3, e4, e5⟩ := pP_up h2 rfl hoM
      exact ihr q2 M2 kd2 ar2 cn2 op2 ch2 (by rw [e2, e3]; omega) (by rw [e2, e3]; omega) H1 H2
  have A : ∀ (n q M O : Nat) (kd ar cn op : Nat → Nat) (ch : Nat → Nat → Nat), 0 < O → n + O = 41 → (∀ c', pP T t n (q, M, O, kd, ar, cn, op, ch) = some c' → jt c' 1) → (pP T t n (q, M, O, kd, ar, cn, op, ch) = none → parse T t = none) → jt (q, M, O, kd, ar, cn, op, ch) 0 := by
    intro n
    induction n with
    | zero =>
      intro q M O kd ar cn op ch hO hn _ _
      rw [hjt]
      intro en cl u1 P1 I hM1 hb
      have := rt.OM I.2.1
      have := I.2.2.2.1
      have := I.2.2.2.2.1
      omega
    | succ n ih =>
      intro q M O kd ar cn op ch hO hn H1 H2
      rw [hjt]
      intro en cl u1 P1 I hM1 hb
      have hR : rR O kd cn op := by rcases hb with z | z; (exact absurd z (by decide)); exact z.2
      have I' := I
      obtain ⟨⟨eM, eL, eO, eS, eop⟩, R, hL, hM, hqt, h0, hA⟩ := I'
      have OM := rt.OM R
      have et1 := P1.fi (s := 2) (by decide) et
      have hT1 : ∀ k, k < t → u1.1 18 0 k = T k := fun k hk => P1.ai (by decide) (hT k hk)
      rw [pP_s] at H1 H2
      have K89 : ∀ (u2 : ab_S) (x z3 : Int32), gP [5, 6, 39, 101, 102, 103, 104, 120] u u2 → ((x < 0 ∧ bg T t q M O kd ar cn op ch = none) ∨ ∃ (q' O' : Nat) (kd' ar' cn' en' cl' op' : Nat → Nat) (ch' : Nat → Nat → Nat), x = nI q' ∧ bg T t q M O kd ar cn op ch = some (q', M + 1, O', kd', ar', cn', op', ch') ∧ q + 3 ≤ q' ∧ rI t q' (M + 1) O' kd' ar' cn' en' cl' op' ch' u2 ∧ (O' = O ∨ (O' = O + 1 ∧ rR O' kd' cn' op'))) → ab_J p l e (ab_rm 3 0 0) s m args below meth c (MQ below (ab_Q D ca ad ab_nQ s.heap.size (fun u' v => gP [5, 6, 39, 101, 102, 103, 104, 120] u u' ∧ ∃ x : Int32, ((¬ x < 0 ∧ parse T t = none) ∨ (x < 0 ∧ ∃ (q M O : Nat) (kd ar cn op lf : Nat → Nat) (ch : Nat → Nat → Nat), parse T t = some (q, M, O, kd, ar, cn, op, ch) ∧ tW M kd ar cn lf ch ∧ tR M kd ar cn ch u' ∧ u'.1 17 0 6 = nI (lcn kd M))) ∧ v = some (ab_I x))) args s 0 0 (ab_A ad ab_nQ s.heap.size)) D ca (ab_A ad ab_nQ s.heap.size) s.heap 5 0 0 ad ab_nQ u2 89 [(4, ab_I (nI O)), (3, ab_I z3), (0, ab_O 17 0)] [ab_I x] := by
        intro u2 x z3 P2 hx
        rcases hx with ⟨hx, hbg⟩ | ⟨q', O', kd', ar', cn', en', cl', op', ch', rfl, hbg, hq', I', hO'⟩
        · have hN := H2 (by rw [hbg]; rfl)
          refine ab_istore_n3 X 0 1 2 d_MO_readAll_89 rfl (by decide) rfl rfl rfl rfl rfl rfl ?_
          refine ab_aload_n X 3 d_MO_readAll_90 rfl rfl ?_
          refine ab_gI X fl_MO_129 d_MO_readAll_91 (by first | assumption | decide | (show _ < 124; omega) | (show _ < 61; omega) | (show _ < 20; omega)) (rfl) ?_
          refine ab_iload X 1 d_MO_readAll_94 rfl ?_
          refine ab_icmp_ne X 103 d_MO_readAll_96 rfl (fun h96 => ?_) (fun h96 => ?_)
          ·
            refine ab_iconst (v := 0) X d_MO_readAll_103 (by decide) ?_
            refine ab_istore_n4 X 0 1 2 3 d_MO_readAll_104 rfl (by decide) rfl rfl rfl rfl rfl rfl rfl rfl ?_
            refine ab_goto X 170 d_MO_readAll_105 rfl ?_
            refine ab_goto X 34 d_MO_readAll_170 rfl ?_
            refine ab_lv (List.forall_mem_cons.mpr ⟨List.mem_of_getElem? (i := 0) rfl, List.forall_mem_cons.mpr ⟨List.mem_of_getElem? (i := 1) rfl, List.forall_mem_cons.mpr ⟨List.mem_of_getElem? (i := 4) rfl, fun _ h => absurd h List.not_mem_nil⟩⟩⟩) ?_
            exact neg34 _ _ _ hx hN P2
          ·
            refine ab_iconst (v := 1) X d_MO_readAll_99 (by decide) ?_
            refine ab_goto X 104 d_MO_readAll_100 rfl ?_
            refine ab_istore_n4 X 0 1 2 3 d_MO_readAll_104 rfl (by decide) rfl rfl rfl rfl rfl rfl rfl rfl ?_
            refine ab_goto X 170 d_MO_readAll_105 rfl ?_
            refine ab_goto X 34 d_MO_readAll_170 rfl ?_
            refine ab_lv (List.forall_mem_cons.mpr ⟨List.mem_of_getElem? (i := 0) rfl, List.forall_mem_cons.mpr ⟨List.mem_of_getElem? (i := 1) rfl, List.forall_mem_cons.mpr ⟨List.mem_of_getElem? (i := 4) rfl, fun _ h => absurd h List.not_mem_nil⟩⟩⟩) ?_
            exact neg34 _ _ _ hx hN P2
        · have eO' := I'.1.2.2.1
          rw [hbg] at H1 H2
          rcases hO' with rfl | ⟨rfl, hR'⟩
          · have hj := (hjt _ _ _ _ _ _ _ _ _).mp (H1 _ (if_pos rfl))
            refine ab_istore_n3 X 0 1 2 d_MO_readAll_89 rfl (by decide) rfl rfl rfl rfl rfl rfl ?_
            refine ab_aload_n X 3 d_MO_readAll_90 rfl rfl ?_
            refine ab_gI X fl_MO_129 d_MO_readAll_91 (by first | assumption | decide | (show _ < 124; omega) | (show _ < 61; omega) | (show _ < 20; omega)) (eO') ?_
            refine ab_iload X 1 d_MO_readAll_94 rfl ?_
            refine ab_icmp_ne X 103 d_MO_readAll_96 rfl (fun hb => absurd (rfl) hb) (fun _ => ?_)
            refine ab_iconst (v := 1) X d_MO_readAll_99 (by decide) ?_
            refine ab_goto X 104 d_MO_readAll_100 rfl ?_
            refine ab_istore_n4 X 0 1 2 3 d_MO_readAll_104 rfl (by decide) rfl rfl rfl rfl rfl rfl rfl rfl ?_
            refine ab_goto X 170 d_MO_readAll_105 rfl ?_
            refine ab_goto X 34 d_MO_readAll_170 rfl ?_
            refine ab_lv (List.forall_mem_cons.mpr ⟨List.mem_of_getElem? (i := 0) rfl, List.forall_mem_cons.mpr ⟨List.mem_of_getElem? (i := 1) rfl, List.forall_mem_cons.mpr ⟨List.mem_of_getElem? (i := 4) rfl, fun _ h => absurd h List.not_mem_nil⟩⟩⟩) ?_
            exact hj _ _ _ P2 I' (by omega) (Or.inl rfl)
          · have e9 : bP T t (pP T t n) O (some (q', M + 1, O + 1, kd', ar', cn', op', ch')) = pK T t (pP T t n) 4 (q', M + 1, O + 1, kd', ar', cn', op', ch') := if_neg (by show ¬ O + 1 = O; omega)
            have z0 : op' O = M ∧ cn' M = 0 := by
              obtain ⟨q1, a, O1, op1, hc, hO1⟩ := bg_fr hbg
              simp only [Prod.mk.injEq] at hc
              obtain ⟨-, -, c1, -, -, c2, c3, -⟩ := hc
              rcases hO1 with ⟨w, -, -⟩ | ⟨w1, w2, -⟩
              · omega
              · rw [c3, w2, c2]; exact ⟨up1_s _ _ _, up1_s _ _ _⟩
            rw [e9, pK_zero (by rw [z0.1]; exact z0.2)] at H1 H2
            have hj : jt (q', M + 1, O + 1, kd', ar', cn', op', ch') 0 := by
              refine ih q' (M + 1) (O + 1) kd' ar' cn' op' ch' (by omega) (by omega) (fun c2 h2 => ?_) (fun h2 => H2 (by rw [h2]; rfl))
              rw [h2] at H1 H2
              obtain ⟨q2, M2, O2, kd2, ar2, cn2, op2, ch2⟩ := c2
              obtain ⟨rfl, e2, e3, e4, e5⟩ := pP_up h2 z0.1 (by omega)
              exact KK n O (by omega) ih 3 q2 M2 kd2 ar2 cn2 op2 ch2 (by rw [e2, e3, z0.2]) (by rw [e2, e3]; omega) H1 H2
            have hj' := (hjt _ _ _ _ _ _ _ _ _).mp hj
            refine ab_istore_n3 X 0 1 2 d_MO_readAll_89 rfl (by decide) rfl rfl rfl rfl rfl rfl ?_
            refine ab_aload_n X 3 d_MO_readAll_90 rfl rfl ?_
            refine ab_gI X fl_MO_129 d_MO_readAll_91 (by first | assumption | decide | (show _ < 124; omega) | (show _ < 61; omega) | (show _ < 20; omega)) (eO') ?_
            refine ab_iload X 1 d_MO_readAll_94 rfl ?_
            refine ab_icmp_ne X 103 d_MO_readAll_96 rfl (fun _ => ?_) (fun hb => absurd hb ((fun z => absurd ((nI_eq (by omega) (by omega)).mp z) (by omega))))
            refine ab_iconst (v := 0) X d_MO_readAll_103 (by decide) ?_
            refine ab_istore_n4 X 0 1 2 3 d_MO_readAll_104 rfl (by decide) rfl rfl rfl rfl rfl rfl rfl rfl ?_
            refine ab_goto X 170 d_MO_readAll_105 rfl ?_
            refine ab_goto X 34 d_MO_readAll_170 rfl ?_
            refine ab_lv (List.forall_mem_cons.mpr ⟨List.mem_of_getElem? (i := 0) rfl, List.forall_mem_cons.mpr ⟨List.mem_of_getElem? (i := 1) rfl, List.forall_mem_cons.mpr ⟨List.mem_of_getElem? (i := 4) rfl, fun _ h => absurd h List.not_mem_nil⟩⟩⟩) ?_
            exact hj' _ _ _ P2 I' (by omega) (Or.inr ⟨rfl, hR'⟩)
      refine ab_iload_n X 1 d_MO_readAll_34 rfl rfl ?_
      refine ab_if_lt X 173 d_MO_readAll_35 rfl (fun hb => absurd hb ((nI_pos (by omega)))) (fun _ => ?_)
      refine ab_aload_n X 2 d_MO_readAll_38 rfl rfl ?_
      refine ab_gI X fl_MO_129 d_MO_readAll_39 (by first | assumption | decide | (show _ < 124; omega) | (show _ < 61; omega) | (show _ < 20; omega)) (eO) ?_
      refine ab_if_gt X 53 d_MO_readAll_42 rfl (fun _ => ?_) (fun hb => absurd ((nI_lt (a := 0) hO (by omega))) hb)
      refine ab_aload_n X 2 d_MO_readAll_53 rfl rfl ?_
      refine ab_gI X fl_MO_129 d_MO_readAll_54 (by first | assumption | decide | (show _ < 124; omega) | (show _ < 61; omega) | (show _ < 20; omega)) (eO) ?_
      refine ab_if_ne X 62 d_MO_readAll_57 rfl (fun _ => ?_) (fun hb => absurd hb ((fun z => absurd ((nI_eq (b := 0) (by omega) (by omega)).mp z) (by omega))))
      refine ab_aload_n X 2 d_MO_readAll_62 rfl rfl ?_
      refine ab_gR X fl_MO_126 d_MO_readAll_63 (by first | assumption | decide | (show _ < 124; omega) | (show _ < 61; omega) | (show _ < 20; omega)) (P1.1.mo38) ?_
      refine ab_aload_n X 2 d_MO_readAll_66 rfl rfl ?_
      refine ab_gI X fl_MO_129 d_MO_readAll_67 (by first | assumption | decide | (show _ < 124; omega) | (show _ < 61; omega) | (show _ < 20; omega)) (eO) ?_
      refine ab_iconst (v := 1) X d_MO_readAll_70 (by decide) ?_
      refine ab_isub X d_MO_readAll_71 ?_
      refine ab_top (nI_m1 hO) ?_
      refine ab_iald X (O - 1) ⟨rfl, rfl⟩ d_MO_readAll_72 (by first | assumption | decide | (show _ < 124; omega) | (show _ < 61; omega) | (show _ < 20; omega)) (rfl) (show O - 1 < 40 by omega) (ab_ln_lt _ _) ?_
      refine ab_top (eop (O - 1) (by omega)) ?_
      refine ab_istore_n3 X 0 1 2 d_MO_readAll_73 rfl (by decide) rfl rfl rfl rfl rfl rfl ?_
      refine ab_iload_n X 1 d_MO_readAll_74 rfl rfl ?_
      refine ab_if_ne X 108 d_MO_readAll_75 rfl (fun hb => absurd (rfl) hb) (fun _ => ?_)
      refine ab_aload_n X 3 d_MO_readAll_78 rfl rfl ?_
      refine ab_gI X fl_MO_129 d_MO_readAll_79 (by first | assumption | decide | (show _ < 124; omega) | (show _ < 61; omega) | (show _ < 20; omega)) (eO) ?_
      refine ab_istore4 X 0 1 2 3 d_MO_readAll_82 (by decide) rfl rfl rfl rfl rfl rfl rfl rfl ?_
      refine ab_aload_n X 4 d_MO_readAll_84 rfl rfl ?_
      refine ab_iload_n X 3 d_MO_readAll_85 rfl rfl ?_
      refine ab_callV (as := [ab_I (nI q)]) X (fun h => by cases h) (f_MO_begin u1 q T t ht et1 hT1 M O kd ar cn en cl op ch P1.1 I (Or.inr hR)) lk_MO_178 d_MO_readAll_86 rfl rfl (by first | assumption | decide | (show _ < 124; omega) | (show _ < 61; omega) | (show _ < 20; omega)) ⟨by first | exact Nat.le_of_ble_eq_true rfl | (simp only [ab_rm]; omega), by first | exact Nat.le_of_ble_eq_true rfl | (simp only [ab_rm]; omega)⟩ ⟨by first | exact Nat.le_of_ble_eq_true rfl | (simp only [ab_rm]; omega), by first | exact Nat.le_of_ble_eq_true rfl | (simp only [ab_rm]; omega)⟩ (Nat.le_of_ble_eq_true rfl) (fun u86 r86 h86 => ?_)
      obtain ⟨q86, x86, hx86, rfl⟩ := h86
      have P86 := P1.trans q86 (by decide)
      refine ab_lv (List.forall_mem_cons.mpr ⟨List.mem_of_getElem? (i := 0) rfl, List.forall_mem_cons.mpr ⟨List.mem_of_getElem? (i := 1) rfl, List.forall_mem_cons.mpr ⟨List.mem_of_getElem? (i := 4) rfl, fun _ h => absurd h List.not_mem_nil⟩⟩⟩) ?_
      exact K89 _ _ _ P86 hx86
  -- all of it has been read
  have top : ∀ c', pP T t 41 (0, 0, 0, z1f, z1f, z1f, z1f, z2f) = some c' → jt c' 1 := by
    rintro ⟨q, M, O, kd, ar, cn, op, ch⟩ hc
    have O0 : O = 0 := (pP_fr 41 _ _ hc : fT _ _ _ _ _ _ _ _ _ _ _ _ _ _).1
    subst O0
    rw [hjt]
    intro en cl u1 P1 I hM1 hb
    have hpar : parse T t = if q < t then none else some (q, M, 0, kd, ar, cn, op, ch) := by unfold parse; rw [hc]
    obtain ⟨⟨eM, eL, eO, eS, eop⟩, R, hL, hM, hqt, h0, hA⟩ := I
    have et1 := P1.fi (s := 2) (by decide) et
    refine ab_iload_n X 1 d_MO_readAll_34 rfl rfl ?_
    refine ab_if_lt X 173 d_MO_readAll_35 rfl (fun hb => absurd hb ((nI_pos (by omega)))) (fun _ => ?_)
    refine ab_aload_n X 2 d_MO_readAll_38 rfl rfl ?_
    refine ab_gI X fl_MO_129 d_MO_readAll_39 (by first | assumption | decide | (show _ < 124; omega) | (show _ < 61; omega) | (show _ < 20; omega)) (eO) ?_
    refine ab_if_gt X 53 d_MO_readAll_42 rfl (fun hb => absurd hb ((by decide))) (fun _ => ?_)
    refine ab_iload_n X 1 d_MO_readAll_45 rfl rfl ?_
    refine ab_aload_n X 2 d_MO_readAll_46 rfl rfl ?_
    refine ab_gI X fl_MO_17 d_MO_readAll_47 (by first | assumption | decide | (show _ < 124; omega) | (show _ < 61; omega) | (show _ < 20; omega)) (et1) ?_
    refine ab_icmp_ge X 173 d_MO_readAll_50 rfl (fun h50 => ?_) (fun h50 => ?_)
    ·
      have hc := nI_le_of h50 (by omega)
      refine ab_iload_n X 1 d_MO_readAll_173 rfl rfl ?_
      refine ab_if_ge X 183 d_MO_readAll_174 rfl (fun _ => ?_) (fun hb => absurd ((nI_pos' (by omega))) hb)
      refine ab_iconst (v := (-1)) X d_MO_readAll_183 (by decide) ?_
      exact ab_reti X hr0 hlk d_MO_readAll_184 ⟨P1, -1, Or.inr ⟨by decide, _, _, _, _, _, _, _, _, _, by rw [hpar, if_neg (by omega)], rt.done R (by omega) hL, ⟨eM, eS⟩, eL⟩, rfl⟩
    ·
      have hc := nI_lt_of h50 (by omega)
      refine ab_aload_n X 2 d_MO_readAll_53 rfl rfl ?_
      refine ab_gI X fl_MO_129 d_MO_readAll_54 (by first | assumption | decide | (show _ < 124; omega) | (show _ < 61; omega) | (show _ < 20; omega)) (eO) ?_
      refine ab_if_ne X 62 d_MO_readAll_57 rfl (fun hb => absurd (rfl) hb) (fun _ => ?_)
      refine ab_iload_n X 1 d_MO_readAll_60 rfl rfl ?_
      exact ab_reti X hr0 hlk d_MO_readAll_61 ⟨P1, _, Or.inl ⟨nI_pos (by omega), by rw [hpar, if_pos hc]⟩, rfl⟩
  have hnone : pP T t 41 (0, 0, 0, z1f, z1f, z1f, z1f, z2f) = none → parse T t = none := fun e => by unfold parse; rw [e]
  have I0 : ∀ u1 : ab_S, u1.1 17 0 5 = nI 0 → u1.1 17 0 6 = nI 0 → u1.1 17 0 39 = nI 0 → rI t 0 0 0 z1f z1f z1f z1f z1f z1f z2f u1 := fun u1 a b d => ⟨⟨a, b, d, fun p hp => absurd hp (by omega), fun j hj => absurd hj (by omega)⟩, ⟨fun p hp => absurd hp (by omega), fun p hp => absurd hp (by omega), fun j hj => absurd hj (by omega), fun z => absurd z (by omega), fun _ z => absurd z (by omega)⟩, by decide, by omega, by omega, fun z => absurd z (by omega), fun p hp => absurd hp (by omega)⟩
  rw [pP_s] at top hnone
  have K20 : ∀ (u2 : ab_S) (x : Int32), gP [5, 6, 39, 101, 102, 103, 104, 120] u u2 → ((x < 0 ∧ bg T t 0 0 0 z1f z1f z1f z1f z2f = none) ∨ ∃ (q' O' : Nat) (kd' ar' cn' en' cl' op' : Nat → Nat) (ch' : Nat → Nat → Nat), x = nI q' ∧ bg T t 0 0 0 z1f z1f z1f z1f z2f = some (q', 0 + 1, O', kd', ar', cn', op', ch') ∧ 0 + 3 ≤ q' ∧ rI t q' (0 + 1) O' kd' ar' cn' en' cl' op' ch' u2 ∧ (O' = 0 ∨ (O' = 0 + 1 ∧ rR O' kd' cn' op'))) → ab_J p l e (ab_rm 3 0 0) s m args below meth c (MQ below (ab_Q D ca ad ab_nQ s.heap.size (fun u' v => gP [5, 6, 39, 101, 102, 103, 104, 120] u u' ∧ ∃ x : Int32, ((¬ x < 0 ∧ parse T t = none) ∨ (x < 0 ∧ ∃ (q M O : Nat) (kd ar cn op lf : Nat → Nat) (ch : Nat → Nat → Nat), parse T t = some (q, M, O, kd, ar, cn, op, ch) ∧ tW M kd ar cn lf ch ∧ tR M kd ar cn ch u' ∧ u'.1 17 0 6 = nI (lcn kd M))) ∧ v = some (ab_I x))) args s 0 0 (ab_A ad ab_nQ s.heap.size)) D ca (ab_A ad ab_nQ s.heap.size) s.heap 5 0 0 ad ab_nQ u2 20 [(0, ab_O 17 0)] [ab_I x] := by
    intro u2 x P2 hx
    rcases hx with ⟨hx, hbg⟩ | ⟨q', O', kd', ar', cn', en', cl', op', ch', rfl, hbg, hq', I', hO'⟩
    · have hN := hnone (by rw [hbg]; rfl)
      refine ab_istore_n1 X 0 d_MO_readAll_20 rfl (by decide) rfl rfl ?_
      refine ab_aload_n X 1 d_MO_readAll_21 rfl rfl ?_
      refine ab_gI X fl_MO_129 d_MO_readAll_22 (by first | assumption | decide | (show _ < 124; omega) | (show _ < 61; omega) | (show _ < 20; omega)) (rfl) ?_
      refine ab_if_ne X 32 d_MO_readAll_25 rfl (fun h25 => ?_) (fun h25 => ?_)
      ·
        refine ab_iconst (v := 0) X d_MO_readAll_32 (by decide) ?_
        refine ab_istore_n2 X 0 1 d_MO_readAll_33 rfl (by decide) rfl rfl rfl rfl ?_
        exact neg34 _ _ _ hx hN P2
      ·
        refine ab_iconst (v := 1) X d_MO_readAll_28 (by decide) ?_
        refine ab_goto X 33 d_MO_readAll_29 rfl ?_
        refine ab_istore_n2 X 0 1 d_MO_readAll_33 rfl (by decide) rfl rfl rfl rfl ?_
        exact neg34 _ _ _ hx hN P2
    · have eO' := I'.1.2.2.1
      rw [hbg] at top hnone
      rcases hO' with rfl | ⟨rfl, hR'⟩
      · have hj := (hjt _ _ _ _ _ _ _ _ _).mp (top _ (bP_lf rfl))
        refine ab_istore_n1 X 0 d_MO_readAll_20 rfl (by decide) rfl rfl ?_
        refine ab_aload_n X 1 d_MO_readAll_21 rfl rfl ?_
        refine ab_gI X fl_MO_129 d_MO_readAll_22 (by first | assumption | decide | (show _ < 124; omega) | (show _ < 61; omega) | (show _ < 20; omega)) (eO') ?_
        refine ab_if_ne X 32 d_MO_readAll_25 rfl (fun hb => absurd (rfl) hb) (fun _ => ?_)
        refine ab_iconst (v := 1) X d_MO_readAll_28 (by decide) ?_
        refine ab_goto X 33 d_MO_readAll_29 rfl ?_
        refine ab_istore_n2 X 0 1 d_MO_readAll_33 rfl (by decide) rfl rfl rfl rfl ?_
        exact hj _ _ _ P2 I' (by omega) (Or.inl rfl)
      · have e9 : bP T t (pP T t 40) 0 (some (q', 0 + 1, 0 + 1, kd', ar', cn', op', ch')) = pK T t (pP T t 40) 4 (q', 0 + 1, 0 + 1, kd', ar', cn', op', ch') := bP_op (by show ¬ 0 + 1 = 0; omega)
        have z0 : op' 0 = 0 ∧ cn' 0 = 0 := by
          obtain ⟨q1, a, O1, op1, hc, hO1⟩ := bg_fr hbg
          simp only [Prod.mk.injEq] at hc
          obtain ⟨-, -, c1, -, -, c2, c3, -⟩ := hc
          rcases hO1 with ⟨w, -, -⟩ | ⟨w1, w2, -⟩
          · omega
          · rw [c3, w2, c2]; exact ⟨up1_s _ _ _, up1_s _ _ _⟩
        rw [e9] at top hnone
        have hj : jt (q', 0 + 1, 0 + 1, kd', ar', cn', op', ch') 0 := by
          refine A 40 q' (0 + 1) (0 + 1) kd' ar' cn' op' ch' (by omega) (by omega) (fun c2 h2 => ?_) (fun h2 => hnone (by rw [pK_zero (by rw [z0.1]; exact z0.2), h2]; rfl))
          rw [pK_zero (by rw [z0.1]; exact z0.2), h2] at top hnone
          obtain ⟨q2, M2, O2, kd2, ar2, cn2, op2, ch2⟩ := c2
          obtain ⟨rfl, e2, e3, e4, e5⟩ := pP_up h2 z0.1 (by omega)
          exact KK 40 0 (by omega) (A 40) 3 q2 M2 kd2 ar2 cn2 op2 ch2 (by rw [e2, e3, z0.2]) (by rw [e2, e3]; omega) top hnone
        have hj' := (hjt _ _ _ _ _ _ _ _ _).mp hj
        refine ab_istore_n1 X 0 d_MO_readAll_20 rfl (by decide) rfl rfl ?_
        refine ab_aload_n X 1 d_MO_readAll_21 rfl rfl ?_
        refine ab_gI X fl_MO_129 d_MO_readAll_22 (by first | assumption | decide | (show _ < 124; omega) | (show _ < 61; omega) | (show _ < 20; omega)) (eO') ?_
        refine ab_if_ne X 32 d_MO_readAll_25 rfl (fun _ => ?_) (fun hb => absurd hb ((by decide)))
        refine ab_iconst (v := 0) X d_MO_readAll_32 (by decide) ?_
        refine ab_istore_n2 X 0 1 d_MO_readAll_33 rfl (by decide) rfl rfl rfl rfl ?_
        exact hj' _ _ _ P2 I' (by omega) (Or.inr ⟨rfl, hR'⟩)
  refine ab_aload_n X 0 d_MO_readAll_0 rfl rfl ?_
  refine ab_iconst (v := 0) X d_MO_readAll_1 (by decide) ?_
  refine ab_putI X fp_MO_27 d_MO_readAll_2 (by first | assumption | decide | (show _ < 124; omega) | (show _ < 61; omega) | (show _ < 20; omega)) rfl rfl ?_
  refine ab_gen (fun u2 e2 => ?_)
  have P2 : gP [5, 6, 39, 101, 102, 103, 104, 120] u u2 := by rw [e2]; exact P0.ui rfl (by decide)
  refine ab_aload_n X 0 d_MO_readAll_5 rfl rfl ?_
  refine ab_iconst (v := 0) X d_MO_readAll_6 (by decide) ?_
  refine ab_putI X fp_MO_30 d_MO_readAll_7 (by first | assumption | decide | (show _ < 124; omega) | (show _ < 61; omega) | (show _ < 20; omega)) rfl rfl ?_
  refine ab_gen (fun u7 e7 => ?_)
  have P7 : gP [5, 6, 39, 101, 102, 103, 104, 120] u u7 := by rw [e7]; exact P2.ui rfl (by decide)
  refine ab_aload_n X 0 d_MO_readAll_10 rfl rfl ?_
  refine ab_iconst (v := 0) X d_MO_readAll_11 (by decide) ?_
  refine ab_putI X fp_MO_129 d_MO_readAll_12 (by first | assumption | decide | (show _ < 124; omega) | (show _ < 61; omega) | (show _ < 20; omega)) rfl rfl ?_
  refine ab_gen (fun u12 e12 => ?_)
  have P12 : gP [5, 6, 39, 101, 102, 103, 104, 120] u u12 := by rw [e12]; exact P7.ui rfl (by decide)
  refine ab_aload_n X 0 d_MO_readAll_15 rfl rfl ?_
  refine ab_iconst (v := 0) X d_MO_readAll_16 (by decide) ?_
  refine ab_callV (as := [ab_I (nI 0)]) X (fun h => by cases h) (f_MO_begin u12 0 T t ht (P12.fi (by decide) et) (fun k hk => P12.ai (by decide) (hT k hk)) 0 0 _ _ _ _ _ _ _ P12.1 (I0 _ (by rw [e12, e7, e2]; simp [ab_up]; rfl) (by rw [e12, e7]; simp [ab_up]; rfl) (by rw [e12]; simp [ab_up]; rfl)) (Or.inl ⟨rfl, rfl⟩)) lk_MO_178 d_MO_readAll_17 rfl rfl (by first | assumption | decide | (show _ < 124; omega) | (show _ < 61; omega) | (show _ < 20; omega)) ⟨by first | exact Nat.le_of_ble_eq_true rfl | (simp only [ab_rm]; omega), by first | exact Nat.le_of_ble_eq_true rfl | (simp only [ab_rm]; omega)⟩ ⟨by first | exact Nat.le_of_ble_eq_true rfl | (simp only [ab_rm]; omega), by first | exact Nat.le_of_ble_eq_true rfl | (simp only [ab_rm]; omega)⟩ (Nat.le_of_ble_eq_true rfl) (fun u17 r17 h17 => ?_)
  obtain ⟨q17, x17, hx17, rfl⟩ := h17
  have P17 := P12.trans q17 (by decide)
  exact K20 _ _ P17 hx17
end SaMReadF

