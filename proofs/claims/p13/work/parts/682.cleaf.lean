/-! The class's reader: what it reads. -/
section TaL
variable {T : Nat → Int32} {t q : Nat}
theorem ta_in (h : q < t) : ta T t q = T q := if_pos h
theorem ta_out (h : t ≤ q) : ta T t q = -1 := if_neg (by omega)
theorem ta_lt {x : Int32} (h : ta T t q = x) (hx : x ≠ -1) : q < t := Nat.lt_of_not_le fun z => hx (h.symm.trans (ta_out z))
theorem m1_lt {a : Nat} (h : a < 2 ^ 31) : (-1 : Int32) < nI a := Int32.lt_of_lt_of_le (b := 0) (by decide) (nI_pos' h)
theorem gv {u u' : ab_S} {c i k : Nat} {v : Int32} (e : u' = ab_ui u c i k v) : u'.1 c i k = v := by rw [e]; exact ui_s _
theorem gl0 {n : Nat} (hn : n ≠ 0) : (ta T t q = 41 ∧ glA T t 0 n q = some (n, q + 1)) ∨ (ta T t q ≠ 41 ∧ glA T t 0 n q = none) := by
  show (ta T t q = 41 ∧ (if n = 0 ∨ ta T t q ≠ 41 then none else some (n, q + 1)) = some (n, q + 1)) ∨ (ta T t q ≠ 41 ∧ (if n = 0 ∨ ta T t q ≠ 41 then none else some (n, q + 1)) = none)
  by_cases z : ta T t q = 41
  · exact Or.inl ⟨z, if_neg (fun y => y.elim hn (fun x => x z))⟩
  · exact Or.inr ⟨z, if_pos (Or.inr z)⟩
theorem gl_s {n r : Nat} (h : ta T t q < 48 ∨ 57 < ta T t q) : glA T t (r + 1) n q = if n = 0 ∨ ta T t q ≠ 41 then none else some (n, q + 1) := by
  unfold glA tmA; rw [if_pos h]
theorem gl_x {n r : Nat} (hn : n ≠ 0) (z : ta T t q = 41) : glA T t (r + 1) n q = some (n, q + 1) := by
  rw [gl_s (Or.inl (by rw [z]; decide)), if_neg (fun y => y.elim hn (fun x => x z))]
theorem gl_n {n r : Nat} (h : ta T t q < 48 ∨ 57 < ta T t q) (z : ¬ (n ≠ 0 ∧ ta T t q = 41)) : glA T t (r + 1) n q = none := by
  rw [gl_s h, if_pos]
  by_cases y : n = 0
  · exact Or.inl y
  · exact Or.inr (fun x => z ⟨y, x⟩)
theorem gl_d {n r : Nat} (h : ¬ (ta T t q < 48 ∨ 57 < ta T t q)) (z : ¬ (10 * n + dgv 48 (ta T t q) = 0 ∧ r = 0)) : glA T t (r + 1) n q = glA T t r (10 * n + dgv 48 (ta T t q)) (q + 1) := by
  conv => lhs; unfold glA tmA
  rw [if_neg h, if_neg z]; rfl
theorem dgv48 : dgv 48 48 = 0 := by decide
theorem dgv0 {c : Int32} (h1 : ¬ c < nI 48) (h2 : c ≤ nI 57) (e : dgv 48 c = 0) : c = 48 := by
  have h := (dgv_of (lo := 48) (hi := 57) (by decide) (by decide) h1 h2).2
  rw [e] at h
  have : c - nI 48 + nI 48 = nI 0 + nI 48 := by rw [h]
  rw [Int32.sub_add_cancel] at this
  rw [this]; decide
theorem gl_0 {n r : Nat} (hr : r = 0) (hn : n = 0) (z : ta T t q = 48) : glA T t (r + 1) n q = none := by
  unfold glA tmA
  rw [if_neg (by rw [z]; decide), z, if_pos ⟨by rw [hn, dgv48], hr⟩]
end TaL
/-- only the place has changed -/
def rQ (u u' : ab_S) (q : Nat) : Prop := cP [1, 2, 10] u u' ∧ u'.1 1 0 4 = nI q ∧ (∀ c i k, ¬ (c = 1 ∧ (k = 4 ∨ k = 5)) → u'.1 c i k = u.1 c i k) ∧ u'.2.1 = u.2.1
theorem rQ.at {u u1 u2 : ab_S} {q1 q2 : Nat} (R : rQ u u1 q1) (e : u2 = ab_ui u1 1 0 4 (nI q2)) (P : cP [1, 2, 10] u u2) : rQ u u2 q2 := ⟨P, gv e, fun c i k h => by rw [e]; exact (ui_n _ (fun z => h ⟨z.1, Or.inl z.2.2⟩)).trans (R.2.2.1 c i k h), by rw [e]; exact R.2.2.2⟩
section SaLeaf
variable {l : Launch} {D : va_G} {ca : Nat → ClassId}
theorem f_RD_refuse (u : ab_S) (x : Int32) (h : CI u) : ab_C false l D ca y_RD_refuse b_RD_refuse 2 (some .boolean) 0 ab_nQ u [ab_O 1 0, ab_I x] (fun u' v => cP [1, 2, 10] u u' ∧ v = some (ab_I 0)) := by
  refine ab_C_mono (c_RD_refuse u x (by decide)) ?_
  rintro u' v ⟨rfl, rfl⟩
  exact ⟨(cQ.rf h : cP [1, 2, 10] u u).ui rfl (by decide), rfl⟩
set_option maxRecDepth 100000 in
set_option maxHeartbeats 1000000 in
theorem t_RD_here (u : ab_S) (x : Int32) (q : Nat) (T : Nat → Int32) (t : Nat) (ht : t ≤ 100) (eL : u.1 1 0 3 = nI t) (hT : ∀ k, k < t → u.1 11 0 k = T k) (h : CI u) (hq : q ≤ 100) (ea : u.1 1 0 4 = nI q) (hx : x ≠ -1) : ab_C false l D ca y_RD_isHere b_RD_isHere 2 (some FieldType.boolean) 0 ab_nQ u [ab_O 1 0, ab_I x] (fun u' v => u' = u ∧ v = some (ab_I (if ta T t q = x then 1 else 0))) := by
  refine ab_C.of (by decide) (Nat.le_of_ble_eq_true rfl) ?_
  intro p e s m args below meth c ad X hZ hr0 hlk
  have P0 : cP [1, 2, 10] u u := cQ.rf h
  refine ab_aload_n X 0 d_RD_isHere_0 rfl rfl ?_
  refine ab_gI X fl_RD_30 d_RD_isHere_1 (by first | assumption | decide | (show _ < 124; omega) | (show _ < 61; omega) | (show _ < 20; omega)) (ea) ?_
  refine ab_aload_n X 0 d_RD_isHere_4 rfl rfl ?_
  refine ab_gI X fl_RD_26 d_RD_isHere_5 (by first | assumption | decide | (show _ < 124; omega) | (show _ < 61; omega) | (show _ < 20; omega)) (eL) ?_
  refine ab_icmp_ge X 28 d_RD_isHere_8 rfl (fun h8 => ?_) (fun h8 => ?_)
  ·
    have hc := nI_le_of h8 (by omega)
    have hv : (if ta T t q = x then (1 : Int32) else 0) = 0 := if_neg (by rw [ta_out hc]; exact fun z => hx z.symm)
    refine ab_iconst (v := 0) X d_RD_isHere_28 (by decide) ?_
    exact ab_retz X hr0 hlk (by first | exact Or.inl rfl | exact Or.inr rfl) d_RD_isHere_29 ⟨rfl, by rw [hv]⟩
  ·
    have hc := nI_lt_of h8 (by omega)
    refine ab_aload_n X 0 d_RD_isHere_11 rfl rfl ?_
    refine ab_gR X fl_RD_9 d_RD_isHere_12 (by first | assumption | decide | (show _ < 124; omega) | (show _ < 61; omega) | (show _ < 20; omega)) (P0.1.rd0) ?_
    refine ab_aload_n X 0 d_RD_isHere_15 rfl rfl ?_
    refine ab_gI X fl_RD_30 d_RD_isHere_16 (by first | assumption | decide | (show _ < 124; omega) | (show _ < 61; omega) | (show _ < 20; omega)) (ea) ?_
    refine ab_iald X (q) ⟨rfl, rfl⟩ d_RD_isHere_19 (by first | assumption | decide | (show _ < 124; omega) | (show _ < 61; omega) | (show _ < 20; omega)) (rfl) (show q < 120 by omega) (ab_ln_lt _ _) ?_
    refine ab_top (hT q hc) ?_
    refine ab_iload_n X 1 d_RD_isHere_20 rfl rfl ?_
    refine ab_icmp_ne X 28 d_RD_isHere_21 rfl (fun h21 => ?_) (fun h21 => ?_)
    ·
      have hv : (if ta T t q = x then (1 : Int32) else 0) = 0 := if_neg (by rw [ta_in hc]; exact h21)
      refine ab_iconst (v := 0) X d_RD_isHere_28 (by decide) ?_
      exact ab_retz X hr0 hlk (by first | exact Or.inl rfl | exact Or.inr rfl) d_RD_isHere_29 ⟨rfl, by rw [hv]⟩
    ·
      have hv : (if ta T t q = x then (1 : Int32) else 0) = 1 := if_pos (by rw [ta_in hc]; exact h21)
      refine ab_iconst (v := 1) X d_RD_isHere_24 (by decide) ?_
      refine ab_goto X 29 d_RD_isHere_25 rfl ?_
      exact ab_retz X hr0 hlk (by first | exact Or.inl rfl | exact Or.inr rfl) d_RD_isHere_29 ⟨rfl, by rw [hv]⟩
set_option maxRecDepth 100000 in
set_option maxHeartbeats 1000000 in
theorem f_RD_expect (u : ab_S) (x : Int32) (q : Nat) (T : Nat → Int32) (t : Nat) (ht : t ≤ 100) (eL : u.1 1 0 3 = nI t) (hT : ∀ k, k < t → u.1 11 0 k = T k) (h : CI u) (hq : q ≤ 100) (ea : u.1 1 0 4 = nI q) (hx : x ≠ -1) : ab_C false l D ca y_RD_expect b_RD_expect 2 (some FieldType.boolean) 1 ab_nQ u [ab_O 1 0, ab_I x] (fun u' v => (ta T t q = x ∧ u' = ab_ui u 1 0 4 (nI (q + 1)) ∧ cP [1, 2, 10] u u' ∧ v = some (ab_I 1)) ∨ (ta T t q ≠ x ∧ cP [1, 2, 10] u u' ∧ v = some (ab_I 0))) := by
  refine ab_C.of (by decide) (Nat.le_of_ble_eq_true rfl) ?_
  intro p e s m args below meth c ad X hZ hr0 hlk
  have P0 : cP [1, 2, 10] u u := cQ.rf h
  refine ab_aload_n X 0 d_RD_expect_0 rfl rfl ?_
  refine ab_iload_n X 1 d_RD_expect_1 rfl rfl ?_
  refine ab_callV (as := [ab_I x]) X (fun h => by cases h) (t_RD_here u x q T t ht eL hT h hq ea hx) lk_RD_128 d_RD_expect_2 rfl rfl (by first | assumption | decide | (show _ < 124; omega) | (show _ < 61; omega) | (show _ < 20; omega)) ⟨by first | exact Nat.le_of_ble_eq_true rfl | (simp only [ab_rm]; omega), by first | exact Nat.le_of_ble_eq_true rfl | (simp only [ab_rm]; omega)⟩ ⟨by first | exact Nat.le_of_ble_eq_true rfl | (simp only [ab_rm]; omega), by first | exact Nat.le_of_ble_eq_true rfl | (simp only [ab_rm]; omega)⟩ (Nat.le_of_ble_eq_true rfl) (fun u2 r2 h2 => ?_)
  obtain ⟨e2, rfl⟩ := h2
  subst u2
  refine ab_if_ne X 17 d_RD_expect_5 rfl (fun h5 => ?_) (fun h5 => ?_)
  ·
    have hx1 : ta T t q = x := Classical.byContradiction (fun z => h5 (if_neg z))
    have hlt := ta_lt hx1 hx
    refine ab_aload_n X 0 d_RD_expect_17 rfl rfl ?_
    refine ab_dup X d_RD_expect_18 rfl ?_
    refine ab_gI X fl_RD_30 d_RD_expect_19 (by first | assumption | decide | (show _ < 124; omega) | (show _ < 61; omega) | (show _ < 20; omega)) (ea) ?_
    refine ab_iconst (v := 1) X d_RD_expect_22 (by decide) ?_
    refine ab_iadd X d_RD_expect_23 ?_
    refine ab_top (nI_1 _) ?_
    refine ab_putI X fp_RD_30 d_RD_expect_24 (by first | assumption | decide | (show _ < 124; omega) | (show _ < 61; omega) | (show _ < 20; omega)) rfl rfl ?_
    refine ab_gen (fun u24 e24 => ?_)
    have P24 : cP [1, 2, 10] u u24 := by rw [e24]; exact P0.at (by decide) (by omega)
    refine ab_iconst (v := 1) X d_RD_expect_27 (by decide) ?_
    exact ab_retz X hr0 hlk (Or.inr rfl) d_RD_expect_28 (Or.inl ⟨hx1, e24, P24, rfl⟩)
  ·
    have hx1 : ta T t q ≠ x := fun z => absurd h5 (by rw [if_pos z]; decide)
    refine ab_aload_n X 0 d_RD_expect_8 rfl rfl ?_
    refine ab_aload_n X 0 d_RD_expect_9 rfl rfl ?_
    refine ab_gI X fl_RD_30 d_RD_expect_10 (by first | assumption | decide | (show _ < 124; omega) | (show _ < 61; omega) | (show _ < 20; omega)) (rfl) ?_
    refine ab_callV (as := [ab_I _]) X (fun h => by cases h) (f_RD_refuse u _ h) lk_RD_46 d_RD_expect_13 rfl rfl (by first | assumption | decide | (show _ < 124; omega) | (show _ < 61; omega) | (show _ < 20; omega)) ⟨by first | exact Nat.le_of_ble_eq_true rfl | (simp only [ab_rm]; omega), by first | exact Nat.le_of_ble_eq_true rfl | (simp only [ab_rm]; omega)⟩ ⟨by first | exact Nat.le_of_ble_eq_true rfl | (simp only [ab_rm]; omega), by first | exact Nat.le_of_ble_eq_true rfl | (simp only [ab_rm]; omega)⟩ (Nat.le_of_ble_eq_true rfl) (fun u13 r13 h13 => ?_)
    obtain ⟨q13, rfl⟩ := h13
    have P13 := P0.trans q13 (by decide)
    exact ab_retz X hr0 hlk (Or.inl rfl) d_RD_expect_16 (Or.inr ⟨hx1, P13, rfl⟩)
set_option maxRecDepth 100000 in
set_option maxHeartbeats 1000000 in
theorem f_RD_oneOf (u : ab_S) (lo hi q : Nat) (T : Nat → Int32) (t : Nat) (ht : t ≤ 100) (eL : u.1 1 0 3 = nI t) (hT : ∀ k, k < t → u.1 11 0 k = T k) (h : CI u) (hq : q ≤ 100) (ea : u.1 1 0 4 = nI q) (hlo : lo ≤ 100) (hhi : hi ≤ 200) : ab_C false l D ca y_RD_oneOf b_RD_oneOf 3 (some FieldType.int) 1 ab_nQ u [ab_O 1 0, ab_I (nI lo), ab_I (nI hi)] (fun u' v => ((¬ ta T t q < nI lo ∧ ta T t q ≤ nI hi) ∧ u' = ab_ui u 1 0 4 (nI (q + 1)) ∧ cP [1, 2, 10] u u' ∧ q < t ∧ v = some (ab_I (nI (dgv lo (ta T t q))))) ∨ ((ta T t q < nI lo ∨ nI hi < ta T t q) ∧ cP [1, 2, 10] u u' ∧ v = some (ab_I (-1)))) := by
  refine ab_C.of (by decide) (Nat.le_of_ble_eq_true rfl) ?_
  intro p e s m args below meth c ad X hZ hr0 hlk
  have P0 : cP [1, 2, 10] u u := cQ.rf h
  refine ab_aload_n X 0 d_RD_oneOf_0 rfl rfl ?_
  refine ab_gI X fl_RD_30 d_RD_oneOf_1 (by first | assumption | decide | (show _ < 124; omega) | (show _ < 61; omega) | (show _ < 20; omega)) (ea) ?_
  refine ab_aload_n X 0 d_RD_oneOf_4 rfl rfl ?_
  refine ab_gI X fl_RD_26 d_RD_oneOf_5 (by first | assumption | decide | (show _ < 124; omega) | (show _ < 61; omega) | (show _ < 20; omega)) (eL) ?_
  refine ab_icmp_ge X 37 d_RD_oneOf_8 rfl (fun h8 => ?_) (fun h8 => ?_)
  ·
    have hc := nI_le_of h8 (by omega)
    have hb : ta T t q < nI lo ∨ nI hi < ta T t q := Or.inl (by rw [ta_out hc]; exact m1_lt (by omega))
    refine ab_aload_n X 0 d_RD_oneOf_37 rfl rfl ?_
    refine ab_aload_n X 0 d_RD_oneOf_38 rfl rfl ?_
    refine ab_gI X fl_RD_30 d_RD_oneOf_39 (by first | assumption | decide | (show _ < 124; omega) | (show _ < 61; omega) | (show _ < 20; omega)) (rfl) ?_
    refine ab_callV (as := [ab_I _]) X (fun h => by cases h) (f_RD_refuse u _ h) lk_RD_46 d_RD_oneOf_42 rfl rfl (by first | assumption | decide | (show _ < 124; omega) | (show _ < 61; omega) | (show _ < 20; omega)) ⟨by first | exact Nat.le_of_ble_eq_true rfl | (simp only [ab_rm]; omega), by first | exact Nat.le_of_ble_eq_true rfl | (simp only [ab_rm]; omega)⟩ ⟨by first | exact Nat.le_of_ble_eq_true rfl | (simp only [ab_rm]; omega), by first | exact Nat.le_of_ble_eq_true rfl | (simp only [ab_rm]; omega)⟩ (Nat.le_of_ble_eq_true rfl) (fun u42 r42 h42 => ?_)
    obtain ⟨q42, rfl⟩ := h42
    have P42 := P0.trans q42 (by decide)
    refine ab_pop X d_RD_oneOf_45 rfl ?_
    refine ab_iconst (v := (-1)) X d_RD_oneOf_46 (by decide) ?_
    exact ab_reti X hr0 hlk d_RD_oneOf_47 (Or.inr ⟨hb, P42, rfl⟩)
  ·
    have hc := nI_lt_of h8 (by omega)
    refine ab_aload_n X 0 d_RD_oneOf_11 rfl rfl ?_
    refine ab_gR X fl_RD_9 d_RD_oneOf_12 (by first | assumption | decide | (show _ < 124; omega) | (show _ < 61; omega) | (show _ < 20; omega)) (P0.1.rd0) ?_
    refine ab_aload_n X 0 d_RD_oneOf_15 rfl rfl ?_
    refine ab_gI X fl_RD_30 d_RD_oneOf_16 (by first | assumption | decide | (show _ < 124; omega) | (show _ < 61; omega) | (show _ < 20; omega)) (ea) ?_
    refine ab_iald X (q) ⟨rfl, rfl⟩ d_RD_oneOf_19 (by first | assumption | decide | (show _ < 124; omega) | (show _ < 61; omega) | (show _ < 20; omega)) (rfl) (show q < 120 by omega) (ab_ln_lt _ _) ?_
    refine ab_top (hT q hc) ?_
    refine ab_iload_n X 1 d_RD_oneOf_20 rfl rfl ?_
    refine ab_icmp_lt X 37 d_RD_oneOf_21 rfl (fun h21 => ?_) (fun h21 => ?_)
    ·
      have hb : ta T t q < nI lo ∨ nI hi < ta T t q := Or.inl (by rw [ta_in hc]; exact h21)
      refine ab_aload_n X 0 d_RD_oneOf_37 rfl rfl ?_
      refine ab_aload_n X 0 d_RD_oneOf_38 rfl rfl ?_
      refine ab_gI X fl_RD_30 d_RD_oneOf_39 (by first | assumption | decide | (show _ < 124; omega) | (show _ < 61; omega) | (show _ < 20; omega)) (rfl) ?_
      refine ab_callV (as := [ab_I _]) X (fun h => by cases h) (f_RD_refuse u _ h) lk_RD_46 d_RD_oneOf_42 rfl rfl (by first | assumption | decide | (show _ < 124; omega) | (show _ < 61; omega) | (show _ < 20; omega)) ⟨by first | exact Nat.le_of_ble_eq_true rfl | (simp only [ab_rm]; omega), by first | exact Nat.le_of_ble_eq_true rfl | (simp only [ab_rm]; omega)⟩ ⟨by first | exact Nat.le_of_ble_eq_true rfl | (simp only [ab_rm]; omega), by first | exact Nat.le_of_ble_eq_true rfl | (simp only [ab_rm]; omega)⟩ (Nat.le_of_ble_eq_true rfl) (fun u42 r42 h42 => ?_)
      obtain ⟨q42, rfl⟩ := h42
      have P42 := P0.trans q42 (by decide)
      refine ab_pop X d_RD_oneOf_45 rfl ?_
      refine ab_iconst (v := (-1)) X d_RD_oneOf_46 (by decide) ?_
      exact ab_reti X hr0 hlk d_RD_oneOf_47 (Or.inr ⟨hb, P42, rfl⟩)
    ·
      refine ab_aload_n X 0 d_RD_oneOf_24 rfl rfl ?_
      refine ab_gR X fl_RD_9 d_RD_oneOf_25 (by first | assumption | decide | (show _ < 124; omega) | (show _ < 61; omega) | (show _ < 20; omega)) (P0.1.rd0) ?_
      refine ab_aload_n X 0 d_RD_oneOf_28 rfl rfl ?_
      refine ab_gI X fl_RD_30 d_RD_oneOf_29 (by first | assumption | decide | (show _ < 124; omega) | (show _ < 61; omega) | (show _ < 20; omega)) (ea) ?_
      refine ab_iald X (q) ⟨rfl, rfl⟩ d_RD_oneOf_32 (by first | assumption | decide | (show _ < 124; omega) | (show _ < 61; omega) | (show _ < 20; omega)) (rfl) (show q < 120 by omega) (ab_ln_lt _ _) ?_
      refine ab_top (hT q hc) ?_
      refine ab_iload_n X 2 d_RD_oneOf_33 rfl rfl ?_
      refine ab_icmp_le X 48 d_RD_oneOf_34 rfl (fun h34 => ?_) (fun h34 => ?_)
      ·
        have hd := dgv_of hlo hhi h21 h34
        refine ab_aload_n X 0 d_RD_oneOf_48 rfl rfl ?_
        refine ab_dup X d_RD_oneOf_49 rfl ?_
        refine ab_gI X fl_RD_30 d_RD_oneOf_50 (by first | assumption | decide | (show _ < 124; omega) | (show _ < 61; omega) | (show _ < 20; omega)) (ea) ?_
        refine ab_iconst (v := 1) X d_RD_oneOf_53 (by decide) ?_
        refine ab_iadd X d_RD_oneOf_54 ?_
        refine ab_top (nI_1 _) ?_
        refine ab_putI X fp_RD_30 d_RD_oneOf_55 (by first | assumption | decide | (show _ < 124; omega) | (show _ < 61; omega) | (show _ < 20; omega)) rfl rfl ?_
        refine ab_gen (fun u55 e55 => ?_)
        have P55 : cP [1, 2, 10] u u55 := by rw [e55]; exact P0.at (by decide) (by omega)
        refine ab_aload_n X 0 d_RD_oneOf_58 rfl rfl ?_
        refine ab_gR X fl_RD_9 d_RD_oneOf_59 (by first | assumption | decide | (show _ < 124; omega) | (show _ < 61; omega) | (show _ < 20; omega)) (P55.1.rd0) ?_
        refine ab_aload_n X 0 d_RD_oneOf_62 rfl rfl ?_
        refine ab_gI X fl_RD_30 d_RD_oneOf_63 (by first | assumption | decide | (show _ < 124; omega) | (show _ < 61; omega) | (show _ < 20; omega)) ((show _ = nI (q + 1) by rw [e55]; simp [ab_up])) ?_
        refine ab_iconst (v := 1) X d_RD_oneOf_66 (by decide) ?_
        refine ab_isub X d_RD_oneOf_67 ?_
        refine ab_top (nI_p1 q) ?_
        refine ab_iald X (q) ⟨rfl, rfl⟩ d_RD_oneOf_68 (by first | assumption | decide | (show _ < 124; omega) | (show _ < 61; omega) | (show _ < 20; omega)) (rfl) (show q < 120 by omega) (ab_ln_lt _ _) ?_
        refine ab_top ((show u55.1 11 0 q = u.1 11 0 q by rw [e55]; simp [ab_up]).trans (hT q hc)) ?_
        refine ab_iload_n X 1 d_RD_oneOf_69 rfl rfl ?_
        refine ab_isub X d_RD_oneOf_70 ?_
        refine ab_top hd.2 ?_
        exact ab_reti X hr0 hlk d_RD_oneOf_71 (Or.inl ⟨⟨by rw [ta_in hc]; exact h21, by rw [ta_in hc]; exact h34⟩, e55, P55, hc, by rw [ta_in hc]⟩)
      ·
        have hb : ta T t q < nI lo ∨ nI hi < ta T t q := Or.inr (by rw [ta_in hc]; exact Int32.not_le.mp h34)
        refine ab_aload_n X 0 d_RD_oneOf_37 rfl rfl ?_
        refine ab_aload_n X 0 d_RD_oneOf_38 rfl rfl ?_
        refine ab_gI X fl_RD_30 d_RD_oneOf_39 (by first | assumption | decide | (show _ < 124; omega) | (show _ < 61; omega) | (show _ < 20; omega)) (rfl) ?_
        refine ab_callV (as := [ab_I _]) X (fun h => by cases h) (f_RD_refuse u _ h) lk_RD_46 d_RD_oneOf_42 rfl rfl (by first | assumption | decide | (show _ < 124; omega) | (show _ < 61; omega) | (show _ < 20; omega)) ⟨by first | exact Nat.le_of_ble_eq_true rfl | (simp only [ab_rm]; omega), by first | exact Nat.le_of_ble_eq_true rfl | (simp only [ab_rm]; omega)⟩ ⟨by first | exact Nat.le_of_ble_eq_true rfl | (simp only [ab_rm]; omega), by first | exact Nat.le_of_ble_eq_true rfl | (simp only [ab_rm]; omega)⟩ (Nat.le_of_ble_eq_true rfl) (fun u42 r42 h42 => ?_)
        obtain ⟨q42, rfl⟩ := h42
        have P42 := P0.trans q42 (by decide)
        refine ab_pop X d_RD_oneOf_45 rfl ?_
        refine ab_iconst (v := (-1)) X d_RD_oneOf_46 (by decide) ?_
        exact ab_reti X hr0 hlk d_RD_oneOf_47 (Or.inr ⟨hb, P42, rfl⟩)
set_option maxRecDepth 100000 in
set_option maxHeartbeats 1000000 in
theorem f_RD_readTime (u : ab_S) (q : Nat) (T : Nat → Int32) (t : Nat) (ht : t ≤ 100) (eL : u.1 1 0 3 = nI t) (hT : ∀ k, k < t → u.1 11 0 k = T k) (h : CI u) (hq : q ≤ t) (ea : u.1 1 0 4 = nI q) : ab_C false l D ca y_RD_readTime b_RD_readTime 5 (some FieldType.int) 2 ab_nQ u [ab_O 1 0] (fun u' v => (∃ n q', rQ u u' q' ∧ v = some (ab_I (nI n)) ∧ q' ≤ t ∧ n ≤ 999 ∧ ((ta T t q' = 41 ∧ glA T t 3 0 q = some (n, q' + 1)) ∨ (ta T t q' ≠ 41 ∧ glA T t 3 0 q = none))) ∨ (glA T t 3 0 q = none ∧ cP [1, 2, 10] u u' ∧ v = some (ab_I (-1)))) := by
  refine ab_C.of (by decide) (Nat.le_of_ble_eq_true rfl) ?_
  intro p e s m args below meth c ad X hZ hr0 hlk
  have P0 : cP [1, 2, 10] u u := cQ.rf h
  have loop : ∀ (k j n q1 : Nat) (u1 : ab_S), k + j = 3 → n + 1 ≤ 10 ^ j → (k = 0 → n ≠ 0) → q1 ≤ t → rQ u u1 q1 → glA T t k n q1 = glA T t 3 0 q → ab_J p l e (ab_rm 2 0 0) s m args below meth c (MQ below (ab_Q D ca ad ab_nQ s.heap.size (fun u' v => (∃ n q', rQ u u' q' ∧ v = some (ab_I (nI n)) ∧ q' ≤ t ∧ n ≤ 999 ∧ ((ta T t q' = 41 ∧ glA T t 3 0 q = some (n, q' + 1)) ∨ (ta T t q' ≠ 41 ∧ glA T t 3 0 q = none))) ∨ (glA T t 3 0 q = none ∧ cP [1, 2, 10] u u' ∧ v = some (ab_I (-1))))) args s 0 0 (ab_A ad ab_nQ s.heap.size)) D ca (ab_A ad ab_nQ s.heap.size) s.heap 5 0 0 ad ab_nQ u1 4 [(2, ab_I (nI j)), (1, ab_I (nI n)), (0, ab_O 1 0)] [] := by
    intro k
    induction k with
    | zero =>
      intro j n q1 u1 hj hn hz hq1 R1 hE
      obtain rfl : j = 3 := by omega
      have P1 := R1.1
      refine ab_iload_n X 0 d_RD_readTime_4 rfl rfl ?_
      refine ab_iconst (v := 3) X d_RD_readTime_5 (by decide) ?_
      refine ab_icmp_ge X 94 d_RD_readTime_6 rfl (fun _ => ?_) (fun hb => absurd ((by decide)) hb)
      refine ab_iload_n X 1 d_RD_readTime_94 rfl rfl ?_
      exact ab_reti X hr0 hlk d_RD_readTime_95 (Or.inl ⟨n, q1, R1, rfl, hq1, by omega, by rw [← hE]; exact gl0 (hz rfl)⟩)
    | succ k ih =>
      intro j n q1 u1 hj hn hz hq1 R1 hE
      have P1 := R1.1
      have j3 : j = 0 ∨ j = 1 ∨ j = 2 := by omega
      have hnn : n ≤ 99 := by rcases j3 with rfl | rfl | rfl <;> omega
      have hpw : 10 ^ (j + 1) = 10 * 10 ^ j := Nat.pow_succ'
      refine ab_iload_n X 0 d_RD_readTime_4 rfl rfl ?_
      refine ab_iconst (v := 3) X d_RD_readTime_5 (by decide) ?_
      refine ab_icmp_ge X 94 d_RD_readTime_6 rfl (fun hb => absurd hb ((nI_ge (b := 3) (by omega) (by omega)))) (fun _ => ?_)
      refine ab_iload_n X 1 d_RD_readTime_9 rfl rfl ?_
      refine ab_if_le X 22 d_RD_readTime_10 rfl (fun h10 => ?_) (fun h10 => ?_)
      ·
        have n0 : n = 0 := Nat.le_zero.mp (nI_le_of (b := n) (a := 0) h10 (by omega))
        refine ab_iload_n X 0 d_RD_readTime_22 rfl rfl ?_
        refine ab_iconst (v := 2) X d_RD_readTime_23 (by decide) ?_
        refine ab_icmp_ne X 44 d_RD_readTime_24 rfl (fun h24 => ?_) (fun h24 => ?_)
        ·
          have hz2 : ∀ d, d = dgv 48 (ta T t q1) → ¬ ta T t q1 < nI 48 → ta T t q1 ≤ nI 57 → ¬ (10 * n + d = 0 ∧ k = 0) := fun d _ _ _ z => h24 (by rw [show j = 2 by omega]; rfl)
          refine ab_iconst (v := 0) X d_RD_readTime_44 (by decide) ?_
          refine ab_istore_n3 X 0 1 2 d_RD_readTime_45 rfl (by decide) rfl rfl rfl rfl rfl rfl ?_
          refine ab_iload_n X 0 d_RD_readTime_46 rfl rfl ?_
          refine ab_if_eq X 54 d_RD_readTime_47 rfl (fun _ => ?_) (fun hb => absurd ((by decide)) hb)
          refine ab_aload_n X 3 d_RD_readTime_54 rfl rfl ?_
          refine ab_bipush (v := 48) X d_RD_readTime_55 (by decide) ?_
          refine ab_bipush (v := 57) X d_RD_readTime_57 (by decide) ?_
          refine ab_callV (as := [ab_I (nI 48), ab_I (nI 57)]) X (fun h => by cases h) (f_RD_oneOf u1 48 57 q1 T t ht ((R1.2.2.1 _ _ _ (by omega)).trans eL) (fun k hk => (R1.2.2.1 _ _ _ (by omega)).trans (hT k hk)) P1.1 (by omega) R1.2.1 (by decide) (by decide)) lk_RD_114 d_RD_readTime_59 rfl rfl (by first | assumption | decide | (show _ < 124; omega) | (show _ < 61; omega) | (show _ < 20; omega)) ⟨by first | exact Nat.le_of_ble_eq_true rfl | (simp only [ab_rm]; omega), by first | exact Nat.le_of_ble_eq_true rfl | (simp only [ab_rm]; omega)⟩ ⟨by first | exact Nat.le_of_ble_eq_true rfl | (simp only [ab_rm]; omega), by first | exact Nat.le_of_ble_eq_true rfl | (simp only [ab_rm]; omega)⟩ (Nat.le_of_ble_eq_true rfl) (fun u59 r59 h59 => ?_)
          rcases h59 with ⟨d59, e59, q59, l59, rfl⟩ | ⟨d59, q59, rfl⟩
          ·
            have P59 := P1.trans q59 (by decide)
            have hz3 := hz2 _ rfl d59.1 d59.2
            have hd := (dgv_of (lo := 48) (hi := 57) (by decide) (by decide) d59.1 d59.2).1
            have hE2 := (gl_d (n := n) (r := k) (by intro z; rcases z with z | z; exact d59.1 z; exact Int32.not_lt.mpr d59.2 z) hz3).symm.trans hE
            refine ab_istore4 X 0 1 2 3 d_RD_readTime_62 (by decide) rfl rfl rfl rfl rfl rfl rfl rfl ?_
            refine ab_iload X 0 d_RD_readTime_64 rfl ?_
            refine ab_if_ge X 80 d_RD_readTime_66 rfl (fun h66 => ?_) (fun h66 => ?_)
            ·
              refine ab_bipush (v := 10) X d_RD_readTime_80 (by decide) ?_
              refine ab_iload_n X 3 d_RD_readTime_82 rfl rfl ?_
              refine ab_imul X d_RD_readTime_83 ?_
              refine ab_top (show _ = nI (10 * n) from pk_mul 10 n) ?_
              refine ab_iload X 0 d_RD_readTime_84 rfl ?_
              refine ab_iadd X d_RD_readTime_86 ?_
              refine ab_top (nI_add (10 * n) _) ?_
              refine ab_istore_n4 X 0 1 2 4 d_RD_readTime_87 rfl (by decide) rfl rfl rfl rfl rfl rfl rfl rfl ?_
              refine ab_iinc4 X 3 0 1 2 4 d_RD_readTime_88 rfl (by decide) rfl rfl rfl rfl rfl rfl rfl rfl ?_
              refine ab_goto X 4 d_RD_readTime_91 rfl ?_
              refine ab_lv (List.forall_mem_cons.mpr ⟨List.mem_of_getElem? (i := 0) rfl, List.forall_mem_cons.mpr ⟨List.mem_of_getElem? (i := 1) rfl, List.forall_mem_cons.mpr ⟨List.mem_of_getElem? (i := 4) rfl, fun _ h => absurd h List.not_mem_nil⟩⟩⟩) ?_
              rw [show nI j + Int32.ofInt 1 = nI (j + 1) from nI_1 j]
              exact ih (j + 1) (10 * n + dgv 48 (ta T t q1)) (q1 + 1) _ (by omega) (by rw [hpw]; omega) (fun z y => hz3 ⟨y, z⟩) (by omega) (R1.at e59 P59) hE2
            ·
              exact absurd (nI_pos' (by omega)) h66
          ·
            have P59 := P1.trans q59 (by decide)
            have hN : glA T t 3 0 q = none := hE.symm.trans (gl_n d59 (by first | exact fun z => z.1 n0 | exact fun z => h41 z.2))
            refine ab_istore4 X 0 1 2 3 d_RD_readTime_62 (by decide) rfl rfl rfl rfl rfl rfl rfl rfl ?_
            refine ab_iload X 0 d_RD_readTime_64 rfl ?_
            refine ab_if_ge X 80 d_RD_readTime_66 rfl (fun hb => absurd hb ((by decide))) (fun _ => ?_)
            refine ab_aload_n X 4 d_RD_readTime_69 rfl rfl ?_
            refine ab_aload_n X 4 d_RD_readTime_70 rfl rfl ?_
            refine ab_gI X fl_RD_30 d_RD_readTime_71 (by first | assumption | decide | (show _ < 124; omega) | (show _ < 61; omega) | (show _ < 20; omega)) (rfl) ?_
            refine ab_callV (as := [ab_I _]) X (fun h => by cases h) (f_RD_refuse u59 _ P59.1) lk_RD_46 d_RD_readTime_74 rfl rfl (by first | assumption | decide | (show _ < 124; omega) | (show _ < 61; omega) | (show _ < 20; omega)) ⟨by first | exact Nat.le_of_ble_eq_true rfl | (simp only [ab_rm]; omega), by first | exact Nat.le_of_ble_eq_true rfl | (simp only [ab_rm]; omega)⟩ ⟨by first | exact Nat.le_of_ble_eq_true rfl | (simp only [ab_rm]; omega), by first | exact Nat.le_of_ble_eq_true rfl | (simp only [ab_rm]; omega)⟩ (Nat.le_of_ble_eq_true rfl) (fun u74 r74 h74 => ?_)
            obtain ⟨q74, rfl⟩ := h74
            have P74 := P59.trans q74 (by decide)
            refine ab_pop X d_RD_readTime_77 rfl ?_
            refine ab_iconst (v := (-1)) X d_RD_readTime_78 (by decide) ?_
            exact ab_reti X hr0 hlk d_RD_readTime_79 (Or.inr ⟨hN, P74, rfl⟩)
        ·
          have j2 : j = 2 := (nI_eq (b := 2) (by omega) (by omega)).mp h24
          refine ab_iload_n X 1 d_RD_readTime_27 rfl rfl ?_
          refine ab_if_ne X 44 d_RD_readTime_28 rfl (fun h28 => ?_) (fun h28 => ?_)
          ·
            have hz2 : ∀ d, d = dgv 48 (ta T t q1) → ¬ ta T t q1 < nI 48 → ta T t q1 ≤ nI 57 → ¬ (10 * n + d = 0 ∧ k = 0) := fun d _ _ _ z => h28 (by rw [show n = 0 by omega]; rfl)
            refine ab_iconst (v := 0) X d_RD_readTime_44 (by decide) ?_
            refine ab_istore_n3 X 0 1 2 d_RD_readTime_45 rfl (by decide) rfl rfl rfl rfl rfl rfl ?_
            refine ab_iload_n X 0 d_RD_readTime_46 rfl rfl ?_
            refine ab_if_eq X 54 d_RD_readTime_47 rfl (fun _ => ?_) (fun hb => absurd ((by decide)) hb)
            refine ab_aload_n X 3 d_RD_readTime_54 rfl rfl ?_
            refine ab_bipush (v := 48) X d_RD_readTime_55 (by decide) ?_
            refine ab_bipush (v := 57) X d_RD_readTime_57 (by decide) ?_
            refine ab_callV (as := [ab_I (nI 48), ab_I (nI 57)]) X (fun h => by cases h) (f_RD_oneOf u1 48 57 q1 T t ht ((R1.2.2.1 _ _ _ (by omega)).trans eL) (fun k hk => (R1.2.2.1 _ _ _ (by omega)).trans (hT k hk)) P1.1 (by omega) R1.2.1 (by decide) (by decide)) lk_RD_114 d_RD_readTime_59 rfl rfl (by first | assumption | decide | (show _ < 124; omega) | (show _ < 61; omega) | (show _ < 20; omega)) ⟨by first | exact Nat.le_of_ble_eq_true rfl | (simp only [ab_rm]; omega), by first | exact Nat.le_of_ble_eq_true rfl | (simp only [ab_rm]; omega)⟩ ⟨by first | exact Nat.le_of_ble_eq_true rfl | (simp only [ab_rm]; omega), by first | exact Nat.le_of_ble_eq_true rfl | (simp only [ab_rm]; omega)⟩ (Nat.le_of_ble_eq_true rfl) (fun u59 r59 h59 => ?_)
            rcases h59 with ⟨d59, e59, q59, l59, rfl⟩ | ⟨d59, q59, rfl⟩
            ·
              have P59 := P1.trans q59 (by decide)
              have hz3 := hz2 _ rfl d59.1 d59.2
              have hd := (dgv_of (lo := 48) (hi := 57) (by decide) (by decide) d59.1 d59.2).1
              have hE2 := (gl_d (n := n) (r := k) (by intro z; rcases z with z | z; exact d59.1 z; exact Int32.not_lt.mpr d59.2 z) hz3).symm.trans hE
              refine ab_istore4 X 0 1 2 3 d_RD_readTime_62 (by decide) rfl rfl rfl rfl rfl rfl rfl rfl ?_
              refine ab_iload X 0 d_RD_readTime_64 rfl ?_
              refine ab_if_ge X 80 d_RD_readTime_66 rfl (fun h66 => ?_) (fun h66 => ?_)
              ·
                refine ab_bipush (v := 10) X d_RD_readTime_80 (by decide) ?_
                refine ab_iload_n X 3 d_RD_readTime_82 rfl rfl ?_
                refine ab_imul X d_RD_readTime_83 ?_
                refine ab_top (show _ = nI (10 * n) from pk_mul 10 n) ?_
                refine ab_iload X 0 d_RD_readTime_84 rfl ?_
                refine ab_iadd X d_RD_readTime_86 ?_
                refine ab_top (nI_add (10 * n) _) ?_
                refine ab_istore_n4 X 0 1 2 4 d_RD_readTime_87 rfl (by decide) rfl rfl rfl rfl rfl rfl rfl rfl ?_
                refine ab_iinc4 X 3 0 1 2 4 d_RD_readTime_88 rfl (by decide) rfl rfl rfl rfl rfl rfl rfl rfl ?_
                refine ab_goto X 4 d_RD_readTime_91 rfl ?_
                refine ab_lv (List.forall_mem_cons.mpr ⟨List.mem_of_getElem? (i := 0) rfl, List.forall_mem_cons.mpr ⟨List.mem_of_getElem? (i := 1) rfl, List.forall_mem_cons.mpr ⟨List.mem_of_getElem? (i := 4) rfl, fun _ h => absurd h List.not_mem_nil⟩⟩⟩) ?_
                rw [show nI j + Int32.ofInt 1 = nI (j + 1) from nI_1 j]
                exact ih (j + 1) (10 * n + dgv 48 (ta T t q1)) (q1 + 1) _ (by omega) (by rw [hpw]; omega) (fun z y => hz3 ⟨y, z⟩) (by omega) (R1.at e59 P59) hE2
              ·
                exact absurd (nI_pos' (by omega)) h66
            ·
              have P59 := P1.trans q59 (by decide)
              have hN : glA T t 3 0 q = none := hE.symm.trans (gl_n d59 (by first | exact fun z => z.1 n0 | exact fun z => h41 z.2))
              refine ab_istore4 X 0 1 2 3 d_RD_readTime_62 (by decide) rfl rfl rfl rfl rfl rfl rfl rfl ?_
              refine ab_iload X 0 d_RD_readTime_64 rfl ?_
              refine ab_if_ge X 80 d_RD_readTime_66 rfl (fun hb => absurd hb ((by decide))) (fun _ => ?_)
              refine ab_aload_n X 4 d_RD_readTime_69 rfl rfl ?_
              refine ab_aload_n X 4 d_RD_readTime_70 rfl rfl ?_
              refine ab_gI X fl_RD_30 d_RD_readTime_71 (by first | assumption | decide | (show _ < 124; omega) | (show _ < 61; omega) | (show _ < 20; omega)) (rfl) ?_
              refine ab_callV (as := [ab_I _]) X (fun h => by cases h) (f_RD_refuse u59 _ P59.1) lk_RD_46 d_RD_readTime_74 rfl rfl (by first | assumption | decide | (show _ < 124; omega) | (show _ < 61; omega) | (show _ < 20; omega)) ⟨by first | exact Nat.le_of_ble_eq_true rfl | (simp only [ab_rm]; omega), by first | exact Nat.le_of_ble_eq_true rfl | (simp only [ab_rm]; omega)⟩ ⟨by first | exact Nat.le_of_ble_eq_true rfl | (simp only [ab_rm]; omega), by first | exact Nat.le_of_ble_eq_true rfl | (simp only [ab_rm]; omega)⟩ (Nat.le_of_ble_eq_true rfl) (fun u74 r74 h74 => ?_)
              obtain ⟨q74, rfl⟩ := h74
              have P74 := P59.trans q74 (by decide)
              refine ab_pop X d_RD_readTime_77 rfl ?_
              refine ab_iconst (v := (-1)) X d_RD_readTime_78 (by decide) ?_
              exact ab_reti X hr0 hlk d_RD_readTime_79 (Or.inr ⟨hN, P74, rfl⟩)
          ·
            have n1 : n = 0 := (nI_eq (b := 0) (by omega) (by omega)).mp h28
            refine ab_aload_n X 2 d_RD_readTime_31 rfl rfl ?_
            refine ab_bipush (v := 48) X d_RD_readTime_32 (by decide) ?_
            refine ab_callV (as := [ab_I 48]) X (fun h => by cases h) (t_RD_here u1 48 q1 T t ht ((R1.2.2.1 _ _ _ (by omega)).trans eL) (fun k hk => (R1.2.2.1 _ _ _ (by omega)).trans (hT k hk)) P1.1 (by omega) R1.2.1 (by decide)) lk_RD_128 d_RD_readTime_34 rfl rfl (by first | assumption | decide | (show _ < 124; omega) | (show _ < 61; omega) | (show _ < 20; omega)) ⟨by first | exact Nat.le_of_ble_eq_true rfl | (simp only [ab_rm]; omega), by first | exact Nat.le_of_ble_eq_true rfl | (simp only [ab_rm]; omega)⟩ ⟨by first | exact Nat.le_of_ble_eq_true rfl | (simp only [ab_rm]; omega), by first | exact Nat.le_of_ble_eq_true rfl | (simp only [ab_rm]; omega)⟩ (Nat.le_of_ble_eq_true rfl) (fun u34 r34 h34 => ?_)
            obtain ⟨e34, rfl⟩ := h34
            subst u34
            refine ab_if_eq X 44 d_RD_readTime_37 rfl (fun h37 => ?_) (fun h37 => ?_)
            ·
              have hz2 : ∀ d, d = dgv 48 (ta T t q1) → ¬ ta T t q1 < nI 48 → ta T t q1 ≤ nI 57 → ¬ (10 * n + d = 0 ∧ k = 0) := fun d hd a1 a2 z => absurd h37 (by rw [if_pos (dgv0 a1 a2 (by omega))]; decide)
              refine ab_iconst (v := 0) X d_RD_readTime_44 (by decide) ?_
              refine ab_istore_n3 X 0 1 2 d_RD_readTime_45 rfl (by decide) rfl rfl rfl rfl rfl rfl ?_
              refine ab_iload_n X 0 d_RD_readTime_46 rfl rfl ?_
              refine ab_if_eq X 54 d_RD_readTime_47 rfl (fun _ => ?_) (fun hb => absurd ((by decide)) hb)
              refine ab_aload_n X 3 d_RD_readTime_54 rfl rfl ?_
              refine ab_bipush (v := 48) X d_RD_readTime_55 (by decide) ?_
              refine ab_bipush (v := 57) X d_RD_readTime_57 (by decide) ?_
              refine ab_callV (as := [ab_I (nI 48), ab_I (nI 57)]) X (fun h => by cases h) (f_RD_oneOf u1 48 57 q1 T t ht ((R1.2.2.1 _ _ _ (by omega)).trans eL) (fun k hk => (R1.2.2.1 _ _ _ (by omega)).trans (hT k hk)) P1.1 (by omega) R1.2.1 (by decide) (by decide)) lk_RD_114 d_RD_readTime_59 rfl rfl (by first | assumption | decide | (show _ < 124; omega) | (show _ < 61; omega) | (show _ < 20; omega)) ⟨by first | exact Nat.le_of_ble_eq_true rfl | (simp only [ab_rm]; omega), by first | exact Nat.le_of_ble_eq_true rfl | (simp only [ab_rm]; omega)⟩ ⟨by first | exact Nat.le_of_ble_eq_true rfl | (simp only [ab_rm]; omega), by first | exact Nat.le_of_ble_eq_true rfl | (simp only [ab_rm]; omega)⟩ (Nat.le_of_ble_eq_true rfl) (fun u59 r59 h59 => ?_)
              rcases h59 with ⟨d59, e59, q59, l59, rfl⟩ | ⟨d59, q59, rfl⟩
              ·
                have P59 := P1.trans q59 (by decide)
                have hz3 := hz2 _ rfl d59.1 d59.2
                have hd := (dgv_of (lo := 48) (hi := 57) (by decide) (by decide) d59.1 d59.2).1
                have hE2 := (gl_d (n := n) (r := k) (by intro z; rcases z with z | z; exact d59.1 z; exact Int32.not_lt.mpr d59.2 z) hz3).symm.trans hE
                refine ab_istore4 X 0 1 2 3 d_RD_readTime_62 (by decide) rfl rfl rfl rfl rfl rfl rfl rfl ?_
                refine ab_iload X 0 d_RD_readTime_64 rfl ?_
                refine ab_if_ge X 80 d_RD_readTime_66 rfl (fun h66 => ?_) (fun h66 => ?_)
                ·
                  refine ab_bipush (v := 10) X d_RD_readTime_80 (by decide) ?_
                  refine ab_iload_n X 3 d_RD_readTime_82 rfl rfl ?_
                  refine ab_imul X d_RD_readTime_83 ?_
                  refine ab_top (show _ = nI (10 * n) from pk_mul 10 n) ?_
                  refine ab_iload X 0 d_RD_readTime_84 rfl ?_
                  refine ab_iadd X d_RD_readTime_86 ?_
                  refine ab_top (nI_add (10 * n) _) ?_
                  refine ab_istore_n4 X 0 1 2 4 d_RD_readTime_87 rfl (by decide) rfl rfl rfl rfl rfl rfl rfl rfl ?_
                  refine ab_iinc4 X 3 0 1 2 4 d_RD_readTime_88 rfl (by decide) rfl rfl rfl rfl rfl rfl rfl rfl ?_
                  refine ab_goto X 4 d_RD_readTime_91 rfl ?_
                  refine ab_lv (List.forall_mem_cons.mpr ⟨List.mem_of_getElem? (i := 0) rfl, List.forall_mem_cons.mpr ⟨List.mem_of_getElem? (i := 1) rfl, List.forall_mem_cons.mpr ⟨List.mem_of_getElem? (i := 4) rfl, fun _ h => absurd h List.not_mem_nil⟩⟩⟩) ?_
                  rw [show nI j + Int32.ofInt 1 = nI (j + 1) from nI_1 j]
                  exact ih (j + 1) (10 * n + dgv 48 (ta T t q1)) (q1 + 1) _ (by omega) (by rw [hpw]; omega) (fun z y => hz3 ⟨y, z⟩) (by omega) (R1.at e59 P59) hE2
                ·
                  exact absurd (nI_pos' (by omega)) h66
              ·
                have P59 := P1.trans q59 (by decide)
                have hN : glA T t 3 0 q = none := hE.symm.trans (gl_n d59 (by first | exact fun z => z.1 n0 | exact fun z => h41 z.2))
                refine ab_istore4 X 0 1 2 3 d_RD_readTime_62 (by decide) rfl rfl rfl rfl rfl rfl rfl rfl ?_
                refine ab_iload X 0 d_RD_readTime_64 rfl ?_
                refine ab_if_ge X 80 d_RD_readTime_66 rfl (fun hb => absurd hb ((by decide))) (fun _ => ?_)
                refine ab_aload_n X 4 d_RD_readTime_69 rfl rfl ?_
                refine ab_aload_n X 4 d_RD_readTime_70 rfl rfl ?_
                refine ab_gI X fl_RD_30 d_RD_readTime_71 (by first | assumption | decide | (show _ < 124; omega) | (show _ < 61; omega) | (show _ < 20; omega)) (rfl) ?_
                refine ab_callV (as := [ab_I _]) X (fun h => by cases h) (f_RD_refuse u59 _ P59.1) lk_RD_46 d_RD_readTime_74 rfl rfl (by first | assumption | decide | (show _ < 124; omega) | (show _ < 61; omega) | (show _ < 20; omega)) ⟨by first | exact Nat.le_of_ble_eq_true rfl | (simp only [ab_rm]; omega), by first | exact Nat.le_of_ble_eq_true rfl | (simp only [ab_rm]; omega)⟩ ⟨by first | exact Nat.le_of_ble_eq_true rfl | (simp only [ab_rm]; omega), by first | exact Nat.le_of_ble_eq_true rfl | (simp only [ab_rm]; omega)⟩ (Nat.le_of_ble_eq_true rfl) (fun u74 r74 h74 => ?_)
                obtain ⟨q74, rfl⟩ := h74
                have P74 := P59.trans q74 (by decide)
                refine ab_pop X d_RD_readTime_77 rfl ?_
                refine ab_iconst (v := (-1)) X d_RD_readTime_78 (by decide) ?_
                exact ab_reti X hr0 hlk d_RD_readTime_79 (Or.inr ⟨hN, P74, rfl⟩)
            ·
              have hN : glA T t 3 0 q = none := hE.symm.trans (gl_0 (by omega) n1 (Classical.byContradiction (fun z => h37 (if_neg z))))
              refine ab_iconst (v := 1) X d_RD_readTime_40 (by decide) ?_
              refine ab_goto X 45 d_RD_readTime_41 rfl ?_
              refine ab_istore_n3 X 0 1 2 d_RD_readTime_45 rfl (by decide) rfl rfl rfl rfl rfl rfl ?_
              refine ab_iload_n X 0 d_RD_readTime_46 rfl rfl ?_
              refine ab_if_eq X 54 d_RD_readTime_47 rfl (fun hb => absurd hb ((by decide))) (fun _ => ?_)
              refine ab_iconst (v := (-1)) X d_RD_readTime_50 (by decide) ?_
              refine ab_goto X 62 d_RD_readTime_51 rfl ?_
              refine ab_istore4 X 0 1 2 3 d_RD_readTime_62 (by decide) rfl rfl rfl rfl rfl rfl rfl rfl ?_
              refine ab_iload X 0 d_RD_readTime_64 rfl ?_
              refine ab_if_ge X 80 d_RD_readTime_66 rfl (fun hb => absurd hb ((by decide))) (fun _ => ?_)
              refine ab_aload_n X 4 d_RD_readTime_69 rfl rfl ?_
              refine ab_aload_n X 4 d_RD_readTime_70 rfl rfl ?_
              refine ab_gI X fl_RD_30 d_RD_readTime_71 (by first | assumption | decide | (show _ < 124; omega) | (show _ < 61; omega) | (show _ < 20; omega)) (rfl) ?_
              refine ab_callV (as := [ab_I _]) X (fun h => by cases h) (f_RD_refuse u1 _ P1.1) lk_RD_46 d_RD_readTime_74 rfl rfl (by first | assumption | decide | (show _ < 124; omega) | (show _ < 61; omega) | (show _ < 20; omega)) ⟨by first | exact Nat.le_of_ble_eq_true rfl | (simp only [ab_rm]; omega), by first | exact Nat.le_of_ble_eq_true rfl | (simp only [ab_rm]; omega)⟩ ⟨by first | exact Nat.le_of_ble_eq_true rfl | (simp only [ab_rm]; omega), by first | exact Nat.le_of_ble_eq_true rfl | (simp only [ab_rm]; omega)⟩ (Nat.le_of_ble_eq_true rfl) (fun u74 r74 h74 => ?_)
              obtain ⟨q74, rfl⟩ := h74
              have P74 := P1.trans q74 (by decide)
              refine ab_pop X d_RD_readTime_77 rfl ?_
              refine ab_iconst (v := (-1)) X d_RD_readTime_78 (by decide) ?_
              exact ab_reti X hr0 hlk d_RD_readTime_79 (Or.inr ⟨hN, P74, rfl⟩)
      ·
        have n0 : n ≠ 0 := fun z => h10 (by rw [z]; decide)
        refine ab_aload_n X 2 d_RD_readTime_13 rfl rfl ?_
        refine ab_bipush (v := 41) X d_RD_readTime_14 (by decide) ?_
        refine ab_callV (as := [ab_I 41]) X (fun h => by cases h) (t_RD_here u1 41 q1 T t ht ((R1.2.2.1 _ _ _ (by omega)).trans eL) (fun k hk => (R1.2.2.1 _ _ _ (by omega)).trans (hT k hk)) P1.1 (by omega) R1.2.1 (by decide)) lk_RD_128 d_RD_readTime_16 rfl rfl (by first | assumption | decide | (show _ < 124; omega) | (show _ < 61; omega) | (show _ < 20; omega)) ⟨by first | exact Nat.le_of_ble_eq_true rfl | (simp only [ab_rm]; omega), by first | exact Nat.le_of_ble_eq_true rfl | (simp only [ab_rm]; omega)⟩ ⟨by first | exact Nat.le_of_ble_eq_true rfl | (simp only [ab_rm]; omega), by first | exact Nat.le_of_ble_eq_true rfl | (simp only [ab_rm]; omega)⟩ (Nat.le_of_ble_eq_true rfl) (fun u16 r16 h16 => ?_)
        obtain ⟨e16, rfl⟩ := h16
        subst u16
        refine ab_if_ne X 94 d_RD_readTime_19 rfl (fun h19 => ?_) (fun h19 => ?_)
        ·
          have h41 : ta T t q1 = 41 := Classical.byContradiction (fun z => h19 (if_neg z))
          refine ab_iload_n X 1 d_RD_readTime_94 rfl rfl ?_
          exact ab_reti X hr0 hlk d_RD_readTime_95 (Or.inl ⟨n, q1, R1, rfl, hq1, by omega, Or.inl ⟨h41, hE.symm.trans (gl_x n0 h41)⟩⟩)
        ·
          have h41 : ta T t q1 ≠ 41 := fun z => absurd h19 (by rw [if_pos z]; decide)
          refine ab_iload_n X 0 d_RD_readTime_22 rfl rfl ?_
          refine ab_iconst (v := 2) X d_RD_readTime_23 (by decide) ?_
          refine ab_icmp_ne X 44 d_RD_readTime_24 rfl (fun h24 => ?_) (fun h24 => ?_)
          ·
            have hz2 : ∀ d, d = dgv 48 (ta T t q1) → ¬ ta T t q1 < nI 48 → ta T t q1 ≤ nI 57 → ¬ (10 * n + d = 0 ∧ k = 0) := fun d _ _ _ z => h24 (by rw [show j = 2 by omega]; rfl)
            refine ab_iconst (v := 0) X d_RD_readTime_44 (by decide) ?_
            refine ab_istore_n3 X 0 1 2 d_RD_readTime_45 rfl (by decide) rfl rfl rfl rfl rfl rfl ?_
            refine ab_iload_n X 0 d_RD_readTime_46 rfl rfl ?_
            refine ab_if_eq X 54 d_RD_readTime_47 rfl (fun _ => ?_) (fun hb => absurd ((by decide)) hb)
            refine ab_aload_n X 3 d_RD_readTime_54 rfl rfl ?_
            refine ab_bipush (v := 48) X d_RD_readTime_55 (by decide) ?_
            refine ab_bipush (v := 57) X d_RD_readTime_57 (by decide) ?_
            refine ab_callV (as := [ab_I (nI 48), ab_I (nI 57)]) X (fun h => by cases h) (f_RD_oneOf u1 48 57 q1 T t ht ((R1.2.2.1 _ _ _ (by omega)).trans eL) (fun k hk => (R1.2.2.1 _ _ _ (by omega)).trans (hT k hk)) P1.1 (by omega) R1.2.1 (by decide) (by decide)) lk_RD_114 d_RD_readTime_59 rfl rfl (by first | assumption | decide | (show _ < 124; omega) | (show _ < 61; omega) | (show _ < 20; omega)) ⟨by first | exact Nat.le_of_ble_eq_true rfl | (simp only [ab_rm]; omega), by first | exact Nat.le_of_ble_eq_true rfl | (simp only [ab_rm]; omega)⟩ ⟨by first | exact Nat.le_of_ble_eq_true rfl | (simp only [ab_rm]; omega), by first | exact Nat.le_of_ble_eq_true rfl | (simp only [ab_rm]; omega)⟩ (Nat.le_of_ble_eq_true rfl) (fun u59 r59 h59 => ?_)
            rcases h59 with ⟨d59, e59, q59, l59, rfl⟩ | ⟨d59, q59, rfl⟩
            ·
              have P59 := P1.trans q59 (by decide)
              have hz3 := hz2 _ rfl d59.1 d59.2
              have hd := (dgv_of (lo := 48) (hi := 57) (by decide) (by decide) d59.1 d59.2).1
              have hE2 := (gl_d (n := n) (r := k) (by intro z; rcases z with z | z; exact d59.1 z; exact Int32.not_lt.mpr d59.2 z) hz3).symm.trans hE
              refine ab_istore4 X 0 1 2 3 d_RD_readTime_62 (by decide) rfl rfl rfl rfl rfl rfl rfl rfl ?_
              refine ab_iload X 0 d_RD_readTime_64 rfl ?_
              refine ab_if_ge X 80 d_RD_readTime_66 rfl (fun h66 => ?_) (fun h66 => ?_)
              ·
                refine ab_bipush (v := 10) X d_RD_readTime_80 (by decide) ?_
                refine ab_iload_n X 3 d_RD_readTime_82 rfl rfl ?_
                refine ab_imul X d_RD_readTime_83 ?_
                refine ab_top (show _ = nI (10 * n) from pk_mul 10 n) ?_
                refine ab_iload X 0 d_RD_readTime_84 rfl ?_
                refine ab_iadd X d_RD_readTime_86 ?_
                refine ab_top (nI_add (10 * n) _) ?_
                refine ab_istore_n4 X 0 1 2 4 d_RD_readTime_87 rfl (by decide) rfl rfl rfl rfl rfl rfl rfl rfl ?_
                refine ab_iinc4 X 3 0 1 2 4 d_RD_readTime_88 rfl (by decide) rfl rfl rfl rfl rfl rfl rfl rfl ?_
                refine ab_goto X 4 d_RD_readTime_91 rfl ?_
                refine ab_lv (List.forall_mem_cons.mpr ⟨List.mem_of_getElem? (i := 0) rfl, List.forall_mem_cons.mpr ⟨List.mem_of_getElem? (i := 1) rfl, List.forall_mem_cons.mpr ⟨List.mem_of_getElem? (i := 4) rfl, fun _ h => absurd h List.not_mem_nil⟩⟩⟩) ?_
                rw [show nI j + Int32.ofInt 1 = nI (j + 1) from nI_1 j]
                exact ih (j + 1) (10 * n + dgv 48 (ta T t q1)) (q1 + 1) _ (by omega) (by rw [hpw]; omega) (fun z y => hz3 ⟨y, z⟩) (by omega) (R1.at e59 P59) hE2
              ·
                exact absurd (nI_pos' (by omega)) h66
            ·
              have P59 := P1.trans q59 (by decide)
              have hN : glA T t 3 0 q = none := hE.symm.trans (gl_n d59 (by first | exact fun z => z.1 n0 | exact fun z => h41 z.2))
              refine ab_istore4 X 0 1 2 3 d_RD_readTime_62 (by decide) rfl rfl rfl rfl rfl rfl rfl rfl ?_
              refine ab_iload X 0 d_RD_readTime_64 rfl ?_
              refine ab_if_ge X 80 d_RD_readTime_66 rfl (fun hb => absurd hb ((by decide))) (fun _ => ?_)
              refine ab_aload_n X 4 d_RD_readTime_69 rfl rfl ?_
              refine ab_aload_n X 4 d_RD_readTime_70 rfl rfl ?_
              refine ab_gI X fl_RD_30 d_RD_readTime_71 (by first | assumption | decide | (show _ < 124; omega) | (show _ < 61; omega) | (show _ < 20; omega)) (rfl) ?_
              refine ab_callV (as := [ab_I _]) X (fun h => by cases h) (f_RD_refuse u59 _ P59.1) lk_RD_46 d_RD_readTime_74 rfl rfl (by first | assumption | decide | (show _ < 124; omega) | (show _ < 61; omega) | (show _ < 20; omega)) ⟨by first | exact Nat.le_of_ble_eq_true rfl | (simp only [ab_rm]; omega), by first | exact Nat.le_of_ble_eq_true rfl | (simp only [ab_rm]; omega)⟩ ⟨by first | exact Nat.le_of_ble_eq_true rfl | (simp only [ab_rm]; omega), by first | exact Nat.le_of_ble_eq_true rfl | (simp only [ab_rm]; omega)⟩ (Nat.le_of_ble_eq_true rfl) (fun u74 r74 h74 => ?_)
              obtain ⟨q74, rfl⟩ := h74
              have P74 := P59.trans q74 (by decide)
              refine ab_pop X d_RD_readTime_77 rfl ?_
              refine ab_iconst (v := (-1)) X d_RD_readTime_78 (by decide) ?_
              exact ab_reti X hr0 hlk d_RD_readTime_79 (Or.inr ⟨hN, P74, rfl⟩)
          ·
            have j2 : j = 2 := (nI_eq (b := 2) (by omega) (by omega)).mp h24
            refine ab_iload_n X 1 d_RD_readTime_27 rfl rfl ?_
            refine ab_if_ne X 44 d_RD_readTime_28 rfl (fun h28 => ?_) (fun h28 => ?_)
            ·
              have hz2 : ∀ d, d = dgv 48 (ta T t q1) → ¬ ta T t q1 < nI 48 → ta T t q1 ≤ nI 57 → ¬ (10 * n + d = 0 ∧ k = 0) := fun d _ _ _ z => h28 (by rw [show n = 0 by omega]; rfl)
              refine ab_iconst (v := 0) X d_RD_readTime_44 (by decide) ?_
              refine ab_istore_n3 X 0 1 2 d_RD_readTime_45 rfl (by decide) rfl rfl rfl rfl rfl rfl ?_
              refine ab_iload_n X 0 d_RD_readTime_46 rfl rfl ?_
              refine ab_if_eq X 54 d_RD_readTime_47 rfl (fun _ => ?_) (fun hb => absurd ((by decide)) hb)
              refine ab_aload_n X 3 d_RD_readTime_54 rfl rfl ?_
              refine ab_bipush (v := 48) X d_RD_readTime_55 (by decide) ?_
              refine ab_bipush (v := 57) X d_RD_readTime_57 (by decide) ?_
              refine ab_callV (as := [ab_I (nI 48), ab_I (nI 57)]) X (fun h => by cases h) (f_RD_oneOf u1 48 57 q1 T t ht ((R1.2.2.1 _ _ _ (by omega)).trans eL) (fun k hk => (R1.2.2.1 _ _ _ (by omega)).trans (hT k hk)) P1.1 (by omega) R1.2.1 (by decide) (by decide)) lk_RD_114 d_RD_readTime_59 rfl rfl (by first | assumption | decide | (show _ < 124; omega) | (show _ < 61; omega) | (show _ < 20; omega)) ⟨by first | exact Nat.le_of_ble_eq_true rfl | (simp only [ab_rm]; omega), by first | exact Nat.le_of_ble_eq_true rfl | (simp only [ab_rm]; omega)⟩ ⟨by first | exact Nat.le_of_ble_eq_true rfl | (simp only [ab_rm]; omega), by first | exact Nat.le_of_ble_eq_true rfl | (simp only [ab_rm]; omega)⟩ (Nat.le_of_ble_eq_true rfl) (fun u59 r59 h59 => ?_)
              rcases h59 with ⟨d59, e59, q59, l59, rfl⟩ | ⟨d59, q59, rfl⟩
              ·
                have P59 := P1.trans q59 (by decide)
                have hz3 := hz2 _ rfl d59.1 d59.2
                have hd := (dgv_of (lo := 48) (hi := 57) (by decide) (by decide) d59.1 d59.2).1
                have hE2 := (gl_d (n := n) (r := k) (by intro z; rcases z with z | z; exact d59.1 z; exact Int32.not_lt.mpr d59.2 z) hz3).symm.trans hE
                refine ab_istore4 X 0 1 2 3 d_RD_readTime_62 (by decide) rfl rfl rfl rfl rfl rfl rfl rfl ?_
                refine ab_iload X 0 d_RD_readTime_64 rfl ?_
                refine ab_if_ge X 80 d_RD_readTime_66 rfl (fun h66 => ?_) (fun h66 => ?_)
                ·
                  refine ab_bipush (v := 10) X d_RD_readTime_80 (by decide) ?_
                  refine ab_iload_n X 3 d_RD_readTime_82 rfl rfl ?_
                  refine ab_imul X d_RD_readTime_83 ?_
                  refine ab_top (show _ = nI (10 * n) from pk_mul 10 n) ?_
                  refine ab_iload X 0 d_RD_readTime_84 rfl ?_
                  refine ab_iadd X d_RD_readTime_86 ?_
                  refine ab_top (nI_add (10 * n) _) ?_
                  refine ab_istore_n4 X 0 1 2 4 d_RD_readTime_87 rfl (by decide) rfl rfl rfl rfl rfl rfl rfl rfl ?_
                  refine ab_iinc4 X 3 0 1 2 4 d_RD_readTime_88 rfl (by decide) rfl rfl rfl rfl rfl rfl rfl rfl ?_
                  refine ab_goto X 4 d_RD_readTime_91 rfl ?_
                  refine ab_lv (List.forall_mem_cons.mpr ⟨List.mem_of_getElem? (i := 0) rfl, List.forall_mem_cons.mpr ⟨List.mem_of_getElem? (i := 1) rfl, List.forall_mem_cons.mpr ⟨List.mem_of_getElem? (i := 4) rfl, fun _ h => absurd h List.not_mem_nil⟩⟩⟩) ?_
                  rw [show nI j + Int32.ofInt 1 = nI (j + 1) from nI_1 j]
                  exact ih (j + 1) (10 * n + dgv 48 (ta T t q1)) (q1 + 1) _ (by omega) (by rw [hpw]; omega) (fun z y => hz3 ⟨y, z⟩) (by omega) (R1.at e59 P59) hE2
                ·
                  exact absurd (nI_pos' (by omega)) h66
              ·
                have P59 := P1.trans q59 (by decide)
                have hN : glA T t 3 0 q = none := hE.symm.trans (gl_n d59 (by first | exact fun z => z.1 n0 | exact fun z => h41 z.2))
                refine ab_istore4 X 0 1 2 3 d_RD_readTime_62 (by decide) rfl rfl rfl rfl rfl rfl rfl rfl ?_
                refine ab_iload X 0 d_RD_readTime_64 rfl ?_
                refine ab_if_ge X 80 d_RD_readTime_66 rfl (fun hb => absurd hb ((by decide))) (fun _ => ?_)
                refine ab_aload_n X 4 d_RD_readTime_69 rfl rfl ?_
                refine ab_aload_n X 4 d_RD_readTime_70 rfl rfl ?_
                refine ab_gI X fl_RD_30 d_RD_readTime_71 (by first | assumption | decide | (show _ < 124; omega) | (show _ < 61; omega) | (show _ < 20; omega)) (rfl) ?_
                refine ab_callV (as := [ab_I _]) X (fun h => by cases h) (f_RD_refuse u59 _ P59.1) lk_RD_46 d_RD_readTime_74 rfl rfl (by first | assumption | decide | (show _ < 124; omega) | (show _ < 61; omega) | (show _ < 20; omega)) ⟨by first | exact Nat.le_of_ble_eq_true rfl | (simp only [ab_rm]; omega), by first | exact Nat.le_of_ble_eq_true rfl | (simp only [ab_rm]; omega)⟩ ⟨by first | exact Nat.le_of_ble_eq_true rfl | (simp only [ab_rm]; omega), by first | exact Nat.le_of_ble_eq_true rfl | (simp only [ab_rm]; omega)⟩ (Nat.le_of_ble_eq_true rfl) (fun u74 r74 h74 => ?_)
                obtain ⟨q74, rfl⟩ := h74
                have P74 := P59.trans q74 (by decide)
                refine ab_pop X d_RD_readTime_77 rfl ?_
                refine ab_iconst (v := (-1)) X d_RD_readTime_78 (by decide) ?_
                exact ab_reti X hr0 hlk d_RD_readTime_79 (Or.inr ⟨hN, P74, rfl⟩)
            ·
              have n1 : n = 0 := (nI_eq (b := 0) (by omega) (by omega)).mp h28
              refine ab_aload_n X 2 d_RD_readTime_31 rfl rfl ?_
              refine ab_bipush (v := 48) X d_RD_readTime_32 (by decide) ?_
              refine ab_callV (as := [ab_I 48]) X (fun h => by cases h) (t_RD_here u1 48 q1 T t ht ((R1.2.2.1 _ _ _ (by omega)).trans eL) (fun k hk => (R1.2.2.1 _ _ _ (by omega)).trans (hT k hk)) P1.1 (by omega) R1.2.1 (by decide)) lk_RD_128 d_RD_readTime_34 rfl rfl (by first | assumption | decide | (show _ < 124; omega) | (show _ < 61; omega) | (show _ < 20; omega)) ⟨by first | exact Nat.le_of_ble_eq_true rfl | (simp only [ab_rm]; omega), by first | exact Nat.le_of_ble_eq_true rfl | (simp only [ab_rm]; omega)⟩ ⟨by first | exact Nat.le_of_ble_eq_true rfl | (simp only [ab_rm]; omega), by first | exact Nat.le_of_ble_eq_true rfl | (simp only [ab_rm]; omega)⟩ (Nat.le_of_ble_eq_true rfl) (fun u34 r34 h34 => ?_)
              obtain ⟨e34, rfl⟩ := h34
              subst u34
              refine ab_if_eq X 44 d_RD_readTime_37 rfl (fun h37 => ?_) (fun h37 => ?_)
              ·
                have hz2 : ∀ d, d = dgv 48 (ta T t q1) → ¬ ta T t q1 < nI 48 → ta T t q1 ≤ nI 57 → ¬ (10 * n + d = 0 ∧ k = 0) := fun d hd a1 a2 z => absurd h37 (by rw [if_pos (dgv0 a1 a2 (by omega))]; decide)
                refine ab_iconst (v := 0) X d_RD_readTime_44 (by decide) ?_
                refine ab_istore_n3 X 0 1 2 d_RD_readTime_45 rfl (by decide) rfl rfl rfl rfl rfl rfl ?_
                refine ab_iload_n X 0 d_RD_readTime_46 rfl rfl ?_
                refine ab_if_eq X 54 d_RD_readTime_47 rfl (fun _ => ?_) (fun hb => absurd ((by decide)) hb)
                refine ab_aload_n X 3 d_RD_readTime_54 rfl rfl ?_
                refine ab_bipush (v := 48) X d_RD_readTime_55 (by decide) ?_
                refine ab_bipush (v := 57) X d_RD_readTime_57 (by decide) ?_
                refine ab_callV (as := [ab_I (nI 48), ab_I (nI 57)]) X (fun h => by cases h) (f_RD_oneOf u1 48 57 q1 T t ht ((R1.2.2.1 _ _ _ (by omega)).trans eL) (fun k hk => (R1.2.2.1 _ _ _ (by omega)).trans (hT k hk)) P1.1 (by omega) R1.2.1 (by decide) (by decide)) lk_RD_114 d_RD_readTime_59 rfl rfl (by first | assumption | decide | (show _ < 124; omega) | (show _ < 61; omega) | (show _ < 20; omega)) ⟨by first | exact Nat.le_of_ble_eq_true rfl | (simp only [ab_rm]; omega), by first | exact Nat.le_of_ble_eq_true rfl | (simp only [ab_rm]; omega)⟩ ⟨by first | exact Nat.le_of_ble_eq_true rfl | (simp only [ab_rm]; omega), by first | exact Nat.le_of_ble_eq_true rfl | (simp only [ab_rm]; omega)⟩ (Nat.le_of_ble_eq_true rfl) (fun u59 r59 h59 => ?_)
                rcases h59 with ⟨d59, e59, q59, l59, rfl⟩ | ⟨d59, q59, rfl⟩
                ·
                  have P59 := P1.trans q59 (by decide)
                  have hz3 := hz2 _ rfl d59.1 d59.2
                  have hd := (dgv_of (lo := 48) (hi := 57) (by decide) (by decide) d59.1 d59.2).1
                  have hE2 := (gl_d (n := n) (r := k) (by intro z; rcases z with z | z; exact d59.1 z; exact Int32.not_lt.mpr d59.2 z) hz3).symm.trans hE
                  refine ab_istore4 X 0 1 2 3 d_RD_readTime_62 (by decide) rfl rfl rfl rfl rfl rfl rfl rfl ?_
                  refine ab_iload X 0 d_RD_readTime_64 rfl ?_
                  refine ab_if_ge X 80 d_RD_readTime_66 rfl (fun h66 => ?_) (fun h66 => ?_)
                  ·
                    refine ab_bipush (v := 10) X d_RD_readTime_80 (by decide) ?_
                    refine ab_iload_n X 3 d_RD_readTime_82 rfl rfl ?_
                    refine ab_imul X d_RD_readTime_83 ?_
                    refine ab_top (show _ = nI (10 * n) from pk_mul 10 n) ?_
                    refine ab_iload X 0 d_RD_readTime_84 rfl ?_
                    refine ab_iadd X d_RD_readTime_86 ?_
                    refine ab_top (nI_add (10 * n) _) ?_
                    refine ab_istore_n4 X 0 1 2 4 d_RD_readTime_87 rfl (by decide) rfl rfl rfl rfl rfl rfl rfl rfl ?_
                    refine ab_iinc4 X 3 0 1 2 4 d_RD_readTime_88 rfl (by decide) rfl rfl rfl rfl rfl rfl rfl rfl ?_
                    refine ab_goto X 4 d_RD_readTime_91 rfl ?_
                    refine ab_lv (List.forall_mem_cons.mpr ⟨List.mem_of_getElem? (i := 0) rfl, List.forall_mem_cons.mpr ⟨List.mem_of_getElem? (i := 1) rfl, List.forall_mem_cons.mpr ⟨List.mem_of_getElem? (i := 4) rfl, fun _ h => absurd h List.not_mem_nil⟩⟩⟩) ?_
                    rw [show nI j + Int32.ofInt 1 = nI (j + 1) from nI_1 j]
                    exact ih (j + 1) (10 * n + dgv 48 (ta T t q1)) (q1 + 1) _ (by omega) (by rw [hpw]; omega) (fun z y => hz3 ⟨y, z⟩) (by omega) (R1.at e59 P59) hE2
                  ·
                    exact absurd (nI_pos' (by omega)) h66
                ·
                  have P59 := P1.trans q59 (by decide)
                  have hN : glA T t 3 0 q = none := hE.symm.trans (gl_n d59 (by first | exact fun z => z.1 n0 | exact fun z => h41 z.2))
                  refine ab_istore4 X 0 1 2 3 d_RD_readTime_62 (by decide) rfl rfl rfl rfl rfl rfl rfl rfl ?_
                  refine ab_iload X 0 d_RD_readTime_64 rfl ?_
                  refine ab_if_ge X 80 d_RD_readTime_66 rfl (fun hb => absurd hb ((by decide))) (fun _ => ?_)
                  refine ab_aload_n X 4 d_RD_readTime_69 rfl rfl ?_
                  refine ab_aload_n X 4 d_RD_readTime_70 rfl rfl ?_
                  refine ab_gI X fl_RD_30 d_RD_readTime_71 (by first | assumption | decide | (show _ < 124; omega) | (show _ < 61; omega) | (show _ < 20; omega)) (rfl) ?_
                  refine ab_callV (as := [ab_I _]) X (fun h => by cases h) (f_RD_refuse u59 _ P59.1) lk_RD_46 d_RD_readTime_74 rfl rfl (by first | assumption | decide | (show _ < 124; omega) | (show _ < 61; omega) | (show _ < 20; omega)) ⟨by first | exact Nat.le_of_ble_eq_true rfl | (simp only [ab_rm]; omega), by first | exact Nat.le_of_ble_eq_true rfl | (simp only [ab_rm]; omega)⟩ ⟨by first | exact Nat.le_of_ble_eq_true rfl | (simp only [ab_rm]; omega), by first | exact Nat.le_of_ble_eq_true rfl | (simp only [ab_rm]; omega)⟩ (Nat.le_of_ble_eq_true rfl) (fun u74 r74 h74 => ?_)
                  obtain ⟨q74, rfl⟩ := h74
                  have P74 := P59.trans q74 (by decide)
                  refine ab_pop X d_RD_readTime_77 rfl ?_
                  refine ab_iconst (v := (-1)) X d_RD_readTime_78 (by decide) ?_
                  exact ab_reti X hr0 hlk d_RD_readTime_79 (Or.inr ⟨hN, P74, rfl⟩)
              ·
                have hN : glA T t 3 0 q = none := hE.symm.trans (gl_0 (by omega) n1 (Classical.byContradiction (fun z => h37 (if_neg z))))
                refine ab_iconst (v := 1) X d_RD_readTime_40 (by decide) ?_
                refine ab_goto X 45 d_RD_readTime_41 rfl ?_
                refine ab_istore_n3 X 0 1 2 d_RD_readTime_45 rfl (by decide) rfl rfl rfl rfl rfl rfl ?_
                refine ab_iload_n X 0 d_RD_readTime_46 rfl rfl ?_
                refine ab_if_eq X 54 d_RD_readTime_47 rfl (fun hb => absurd hb ((by decide))) (fun _ => ?_)
                refine ab_iconst (v := (-1)) X d_RD_readTime_50 (by decide) ?_
                refine ab_goto X 62 d_RD_readTime_51 rfl ?_
                refine ab_istore4 X 0 1 2 3 d_RD_readTime_62 (by decide) rfl rfl rfl rfl rfl rfl rfl rfl ?_
                refine ab_iload X 0 d_RD_readTime_64 rfl ?_
                refine ab_if_ge X 80 d_RD_readTime_66 rfl (fun hb => absurd hb ((by decide))) (fun _ => ?_)
                refine ab_aload_n X 4 d_RD_readTime_69 rfl rfl ?_
                refine ab_aload_n X 4 d_RD_readTime_70 rfl rfl ?_
                refine ab_gI X fl_RD_30 d_RD_readTime_71 (by first | assumption | decide | (show _ < 124; omega) | (show _ < 61; omega) | (show _ < 20; omega)) (rfl) ?_
                refine ab_callV (as := [ab_I _]) X (fun h => by cases h) (f_RD_refuse u1 _ P1.1) lk_RD_46 d_RD_readTime_74 rfl rfl (by first | assumption | decide | (show _ < 124; omega) | (show _ < 61; omega) | (show _ < 20; omega)) ⟨by first | exact Nat.le_of_ble_eq_true rfl | (simp only [ab_rm]; omega), by first | exact Nat.le_of_ble_eq_true rfl | (simp only [ab_rm]; omega)⟩ ⟨by first | exact Nat.le_of_ble_eq_true rfl | (simp only [ab_rm]; omega), by first | exact Nat.le_of_ble_eq_true rfl | (simp only [ab_rm]; omega)⟩ (Nat.le_of_ble_eq_true rfl) (fun u74 r74 h74 => ?_)
                obtain ⟨q74, rfl⟩ := h74
                have P74 := P1.trans q74 (by decide)
                refine ab_pop X d_RD_readTime_77 rfl ?_
                refine ab_iconst (v := (-1)) X d_RD_readTime_78 (by decide) ?_
                exact ab_reti X hr0 hlk d_RD_readTime_79 (Or.inr ⟨hN, P74, rfl⟩)
  refine ab_iconst (v := 0) X d_RD_readTime_0 (by decide) ?_
  refine ab_istore_n1 X 0 d_RD_readTime_1 rfl (by decide) rfl rfl ?_
  refine ab_iconst (v := 0) X d_RD_readTime_2 (by decide) ?_
  refine ab_istore_n2 X 0 1 d_RD_readTime_3 rfl (by decide) rfl rfl rfl rfl ?_
  exact loop 3 0 0 q _ rfl (by decide) (fun z => absurd z (by decide)) hq ⟨P0, ea, fun _ _ _ _ => rfl, rfl⟩ rfl
/-- a leaf is being read: the place, how many leaves, its number -/
def lF (u u' : ab_S) (p1 q Lf a : Nat) : Prop := u'.1 1 0 4 = nI q ∧ u'.1 1 0 6 = nI (Lf + 1) ∧ u'.1 2 p1 5 = nI a ∧ (∀ c i k, ¬ (c = 1 ∧ (k = 4 ∨ k = 5 ∨ k = 6)) → ¬ (c = 2 ∧ i = p1 ∧ k = 5) → u'.1 c i k = u.1 c i k) ∧ u'.2.1 = u.2.1
theorem lF.at {u u1 u2 : ab_S} {p1 q1 q2 Lf a : Nat} (R : lF u u1 p1 q1 Lf a) (e : u2 = ab_ui u1 1 0 4 (nI q2)) : lF u u2 p1 q2 Lf a := ⟨gv e, by rw [e]; exact (ui_n _ (by omega)).trans R.2.1, by rw [e]; exact (ui_n _ (by omega)).trans R.2.2.1, fun c i k h h' => by rw [e]; exact (ui_n _ (fun z => h ⟨z.1, Or.inl z.2.2⟩)).trans (R.2.2.2.1 c i k h h'), by rw [e]; exact R.2.2.2.2⟩
theorem lF.mk {u u7 u1 u2 : ab_S} {p1 q Lf a : Nat} (e7 : u7 = ab_ui u 1 0 6 (nI (Lf + 1))) (R : rQ u7 u1 q) (e : u2 = ab_ui u1 2 p1 5 (nI a)) : lF u u2 p1 q Lf a := by
  have e6 : u7.1 1 0 6 = nI (Lf + 1) := gv e7
  refine ⟨by rw [e]; exact (ui_n _ (by omega)).trans R.2.1, by rw [e]; exact (ui_n _ (by omega)).trans ((R.2.2.1 1 0 6 (by omega)).trans e6), gv e, fun c i k h h' => ?_, by rw [e]; show u1.2.1 = _; rw [R.2.2.2, e7]⟩
  rw [e]
  refine (ui_n _ (fun z => h' ⟨z.1, z.2.1, z.2.2⟩)).trans ((R.2.2.1 c i k (by omega)).trans ?_)
  rw [e7]; exact ui_n _ (by omega)
set_option maxRecDepth 100000 in
set_option maxHeartbeats 1000000 in
theorem f_RD_readLeaf (u : ab_S) (p1 q k Lf : Nat) (x : Int32) (T : Nat → Int32) (t : Nat) (ht : t ≤ 100) (eL : u.1 1 0 3 = nI t) (hT : ∀ k, k < t → u.1 11 0 k = T k) (h : CI u) (hq : q ≤ t) (ea : u.1 1 0 4 = nI q) (hp : p1 < 20) (ek : u.1 2 p1 4 = nI k) (hk1 : 1 ≤ k) (hk : k ≤ 4) (eLf : u.1 1 0 6 = nI Lf) (hLf : Lf ≤ 10) : ab_C false l D ca y_RD_readLeaf b_RD_readLeaf 3 (some FieldType.boolean) 3 ab_nQ u [ab_O 1 0, ab_O 2 p1, ab_I x] (fun u' v => (∃ a q', lfA T t k q = some (a, q') ∧ Lf < 10 ∧ q' ≤ t ∧ a ≤ 999 ∧ cP [1, 2, 10] u u' ∧ (lF u u' p1 q' Lf a) ∧ v = some (ab_I 1)) ∨ ((Lf = 10 ∨ lfA T t k q = none) ∧ cP [1, 2, 10] u u' ∧ v = some (ab_I 0))) := by
  refine ab_C.of (by decide) (Nat.le_of_ble_eq_true rfl) ?_
  intro p e s m args below meth c ad X hZ hr0 hlk
  have P0 : cP [1, 2, 10] u u := cQ.rf h
  have rq : ∀ {u7 u1 : ab_S} {q1 : Nat}, CI u7 → u1 = ab_ui u7 1 0 4 (nI q1) → cP [1, 2, 10] u7 u1 → rQ u7 u1 q1 := fun h7 e P => ⟨P, gv e, fun c i k z => by rw [e]; exact ui_n _ (fun y => z ⟨y.1, Or.inl y.2.2⟩), by rw [e]⟩
  have K79 : ∀ (u1 : ab_S), cP [1, 2, 10] u u1 → (∃ q1 a, lF u u1 p1 q1 Lf a ∧ q1 ≤ t ∧ a ≤ 999 ∧ (ta T t q1 = 41 → lfA T t k q = some (a, q1 + 1)) ∧ (ta T t q1 ≠ 41 → lfA T t k q = none)) → Lf < 10 → ab_J p l e (ab_rm 3 0 0) s m args below meth c (MQ below (ab_Q D ca ad ab_nQ s.heap.size (fun u' v => (∃ a q', lfA T t k q = some (a, q') ∧ Lf < 10 ∧ q' ≤ t ∧ a ≤ 999 ∧ cP [1, 2, 10] u u' ∧ (lF u u' p1 q' Lf a) ∧ v = some (ab_I 1)) ∨ ((Lf = 10 ∨ lfA T t k q = none) ∧ cP [1, 2, 10] u u' ∧ v = some (ab_I 0)))) args s 0 0 (ab_A ad ab_nQ s.heap.size)) D ca (ab_A ad ab_nQ s.heap.size) s.heap 3 0 0 ad ab_nQ u1 79 [(0, ab_O 1 0), (1, ab_O 2 p1), (2, ab_I x)] [] := by
    rintro u1 P1 ⟨q1, a, L1, b1, b2, b3, b4⟩ l10
    refine ab_aload_n X 1 d_RD_readLeaf_79 rfl rfl ?_
    refine ab_gI X fl_RD_118 d_RD_readLeaf_80 (by first | assumption | decide | (show _ < 124; omega) | (show _ < 61; omega) | (show _ < 20; omega)) (L1.2.2.1) ?_
    refine ab_if_lt X 99 d_RD_readLeaf_83 rfl (fun hb => absurd hb ((nI_pos (by omega)))) (fun _ => ?_)
    refine ab_aload_n X 0 d_RD_readLeaf_86 rfl rfl ?_
    refine ab_bipush (v := 41) X d_RD_readLeaf_87 (by decide) ?_
    refine ab_callV (as := [ab_I 41]) X (fun h => by cases h) (f_RD_expect u1 41 q1 T t ht ((L1.2.2.2.1 _ _ _ (by omega) (by omega)).trans eL) (fun k hk => (L1.2.2.2.1 _ _ _ (by omega) (by omega)).trans (hT k hk)) P1.1 (by omega) L1.1 (by decide)) lk_RD_124 d_RD_readLeaf_89 rfl rfl (by first | assumption | decide | (show _ < 124; omega) | (show _ < 61; omega) | (show _ < 20; omega)) ⟨by first | exact Nat.le_of_ble_eq_true rfl | (simp only [ab_rm]; omega), by first | exact Nat.le_of_ble_eq_true rfl | (simp only [ab_rm]; omega)⟩ ⟨by first | exact Nat.le_of_ble_eq_true rfl | (simp only [ab_rm]; omega), by first | exact Nat.le_of_ble_eq_true rfl | (simp only [ab_rm]; omega)⟩ (Nat.le_of_ble_eq_true rfl) (fun u89 r89 h89 => ?_)
    rcases h89 with ⟨x89, e89, q89, rfl⟩ | ⟨x89, q89, rfl⟩
    ·
      have P89 := P1.trans q89 (by decide)
      refine ab_if_eq X 99 d_RD_readLeaf_92 rfl (fun hb => absurd hb ((by decide))) (fun _ => ?_)
      refine ab_iconst (v := 1) X d_RD_readLeaf_95 (by decide) ?_
      refine ab_goto X 100 d_RD_readLeaf_96 rfl ?_
      exact ab_retz X hr0 hlk (Or.inr rfl) d_RD_readLeaf_100 (Or.inl ⟨a, q1 + 1, b3 x89, l10, ta_lt x89 (by decide), b2, P89, L1.at e89, rfl⟩)
    ·
      have P89 := P1.trans q89 (by decide)
      refine ab_if_eq X 99 d_RD_readLeaf_92 rfl (fun _ => ?_) (fun hb => absurd ((by decide)) hb)
      refine ab_iconst (v := 0) X d_RD_readLeaf_99 (by decide) ?_
      exact ab_retz X hr0 hlk (Or.inl rfl) d_RD_readLeaf_100 (Or.inr ⟨Or.inr (b4 x89), P89, rfl⟩)
  have bad : ∀ (u1 : ab_S), cP [1, 2, 10] u u1 → u1.1 2 p1 5 = -1 → lfA T t k q = none → ab_J p l e (ab_rm 3 0 0) s m args below meth c (MQ below (ab_Q D ca ad ab_nQ s.heap.size (fun u' v => (∃ a q', lfA T t k q = some (a, q') ∧ Lf < 10 ∧ q' ≤ t ∧ a ≤ 999 ∧ cP [1, 2, 10] u u' ∧ (lF u u' p1 q' Lf a) ∧ v = some (ab_I 1)) ∨ ((Lf = 10 ∨ lfA T t k q = none) ∧ cP [1, 2, 10] u u' ∧ v = some (ab_I 0)))) args s 0 0 (ab_A ad ab_nQ s.heap.size)) D ca (ab_A ad ab_nQ s.heap.size) s.heap 3 0 0 ad ab_nQ u1 79 [(0, ab_O 1 0), (1, ab_O 2 p1), (2, ab_I x)] [] := by
    intro u1 P1 en hN
    refine ab_aload_n X 1 d_RD_readLeaf_79 rfl rfl ?_
    refine ab_gI X fl_RD_118 d_RD_readLeaf_80 (by first | assumption | decide | (show _ < 124; omega) | (show _ < 61; omega) | (show _ < 20; omega)) (en) ?_
    refine ab_if_lt X 99 d_RD_readLeaf_83 rfl (fun _ => ?_) (fun hb => absurd ((by decide)) hb)
    refine ab_iconst (v := 0) X d_RD_readLeaf_99 (by decide) ?_
    exact ab_retz X hr0 hlk (Or.inl rfl) d_RD_readLeaf_100 (Or.inr ⟨Or.inr hN, P1, rfl⟩)
  have ng : ∀ {lo hi : Int32}, ¬ ta T t q < lo → ta T t q ≤ hi → ta T t (q + 1) = 41 → ¬ (ta T t q < lo ∨ hi < ta T t q ∨ ta T t (q + 1) ≠ 41) := fun a b d z => z.elim a (fun y => y.elim (fun x => Int32.not_lt.mpr b x) (fun x => x d))
  refine ab_aload_n X 0 d_RD_readLeaf_0 rfl rfl ?_
  refine ab_dup X d_RD_readLeaf_1 rfl ?_
  refine ab_gI X fl_RD_36 d_RD_readLeaf_2 (by first | assumption | decide | (show _ < 124; omega) | (show _ < 61; omega) | (show _ < 20; omega)) (eLf) ?_
  refine ab_iconst (v := 1) X d_RD_readLeaf_5 (by decide) ?_
  refine ab_iadd X d_RD_readLeaf_6 ?_
  refine ab_top (nI_1 _) ?_
  refine ab_putI X fp_RD_36 d_RD_readLeaf_7 (by first | assumption | decide | (show _ < 124; omega) | (show _ < 61; omega) | (show _ < 20; omega)) rfl rfl ?_
  refine ab_gen (fun u7 e7 => ?_)
  have P7 : cP [1, 2, 10] u u7 := by rw [e7]; exact P0.ui rfl (by decide)
  refine ab_aload_n X 0 d_RD_readLeaf_10 rfl rfl ?_
  refine ab_gI X fl_RD_36 d_RD_readLeaf_11 (by first | assumption | decide | (show _ < 124; omega) | (show _ < 61; omega) | (show _ < 20; omega)) (gv e7) ?_
  refine ab_bipush (v := 10) X d_RD_readLeaf_14 (by decide) ?_
  refine ab_icmp_le X 25 d_RD_readLeaf_16 rfl (fun h16 => ?_) (fun h16 => ?_)
  ·
    have l10 : Lf < 10 := by have := nI_le_of (b := Lf + 1) (a := 10) h16 (by omega); omega
    refine ab_aload_n X 1 d_RD_readLeaf_25 rfl rfl ?_
    refine ab_gI X fl_RD_111 d_RD_readLeaf_26 (by first | assumption | decide | (show _ < 124; omega) | (show _ < 61; omega) | (show _ < 20; omega)) (((show u7.1 2 p1 4 = u.1 2 p1 4 by rw [e7]; exact ui_n _ (by omega)).trans ek)) ?_
    refine ab_iconst (v := 1) X d_RD_readLeaf_29 (by decide) ?_
    refine ab_icmp_ne X 48 d_RD_readLeaf_30 rfl (fun h30 => ?_) (fun h30 => ?_)
    ·
      have k1 : k ≠ 1 := fun z => h30 (by rw [z]; rfl)
      refine ab_aload_n X 1 d_RD_readLeaf_48 rfl rfl ?_
      refine ab_gI X fl_RD_111 d_RD_readLeaf_49 (by first | assumption | decide | (show _ < 124; omega) | (show _ < 61; omega) | (show _ < 20; omega)) (((show u7.1 2 p1 4 = u.1 2 p1 4 by rw [e7]; exact ui_n _ (by omega)).trans ek)) ?_
      refine ab_iconst (v := 2) X d_RD_readLeaf_52 (by decide) ?_
      refine ab_icmp_ne X 71 d_RD_readLeaf_53 rfl (fun h53 => ?_) (fun h53 => ?_)
      ·
        have k2 : k ≠ 2 := fun z => h53 (by rw [z]; rfl)
        refine ab_aload_n X 1 d_RD_readLeaf_71 rfl rfl ?_
        refine ab_aload_n X 0 d_RD_readLeaf_72 rfl rfl ?_
        refine ab_callV (as := []) X (fun h => by cases h) (f_RD_readTime u7 q T t ht ((show u7.1 1 0 3 = u.1 1 0 3 by rw [e7]; exact ui_n _ (by omega)).trans eL) (fun k hk => (show u7.1 11 0 k = u.1 11 0 k by rw [e7]; exact ui_n _ (by omega)).trans (hT k hk)) P7.1 hq ((show u7.1 1 0 4 = u.1 1 0 4 by rw [e7]; exact ui_n _ (by omega)).trans ea)) lk_RD_121 d_RD_readLeaf_73 rfl rfl (by first | assumption | decide | (show _ < 124; omega) | (show _ < 61; omega) | (show _ < 20; omega)) ⟨by first | exact Nat.le_of_ble_eq_true rfl | (simp only [ab_rm]; omega), by first | exact Nat.le_of_ble_eq_true rfl | (simp only [ab_rm]; omega)⟩ ⟨by first | exact Nat.le_of_ble_eq_true rfl | (simp only [ab_rm]; omega), by first | exact Nat.le_of_ble_eq_true rfl | (simp only [ab_rm]; omega)⟩ (Nat.le_of_ble_eq_true rfl) (fun u73 r73 h73 => ?_)
        rcases h73 with ⟨n73, q', R73, rfl, l73, m73, d73⟩ | ⟨d73, q73, rfl⟩
        ·
          have q73 := R73.1
          have P73 := P7.trans q73 (by decide)
          refine ab_putI X fp_RD_118 d_RD_readLeaf_76 (by first | assumption | decide | (show _ < 124; omega) | (show _ < 61; omega) | (show _ < 20; omega)) rfl rfl ?_
          refine ab_gen (fun u76 e76 => ?_)
          have P76 : cP [1, 2, 10] u u76 := by rw [e76]; exact P73.ui rfl (by decide)
          exact K79 _ P76 ⟨q', n73, lF.mk e7 R73 e76, l73, m73, fun z => by unfold lfA; rw [if_neg k1, if_neg k2]; rcases d73 with y | y; exact y.2; exact absurd z y.1, fun z => by unfold lfA; rw [if_neg k1, if_neg k2]; rcases d73 with y | y; exact absurd y.1 z; exact y.2⟩ l10
        ·
          have P73 := P7.trans q73 (by decide)
          refine ab_putI X fp_RD_118 d_RD_readLeaf_76 (by first | assumption | decide | (show _ < 124; omega) | (show _ < 61; omega) | (show _ < 20; omega)) rfl rfl ?_
          refine ab_gen (fun u76 e76 => ?_)
          have P76 : cP [1, 2, 10] u u76 := by rw [e76]; exact P73.ui rfl (by decide)
          exact bad _ P76 (gv e76) (by unfold lfA; rw [if_neg k1, if_neg k2]; exact d73)
      ·
        have k2 : k = 2 := (nI_eq (b := 2) (by omega) (by omega)).mp h53
        refine ab_aload_n X 1 d_RD_readLeaf_56 rfl rfl ?_
        refine ab_aload_n X 0 d_RD_readLeaf_57 rfl rfl ?_
        refine ab_bipush (v := 48) X d_RD_readLeaf_58 (by decide) ?_
        refine ab_bipush (v := 57) X d_RD_readLeaf_60 (by decide) ?_
        refine ab_callV (as := [ab_I (nI 48), ab_I (nI 57)]) X (fun h => by cases h) (f_RD_oneOf u7 48 57 q T t ht ((show u7.1 1 0 3 = u.1 1 0 3 by rw [e7]; exact ui_n _ (by omega)).trans eL) (fun k hk => (show u7.1 11 0 k = u.1 11 0 k by rw [e7]; exact ui_n _ (by omega)).trans (hT k hk)) P7.1 (by omega) ((show u7.1 1 0 4 = u.1 1 0 4 by rw [e7]; exact ui_n _ (by omega)).trans ea) (by decide) (by decide)) lk_RD_114 d_RD_readLeaf_62 rfl rfl (by first | assumption | decide | (show _ < 124; omega) | (show _ < 61; omega) | (show _ < 20; omega)) ⟨by first | exact Nat.le_of_ble_eq_true rfl | (simp only [ab_rm]; omega), by first | exact Nat.le_of_ble_eq_true rfl | (simp only [ab_rm]; omega)⟩ ⟨by first | exact Nat.le_of_ble_eq_true rfl | (simp only [ab_rm]; omega), by first | exact Nat.le_of_ble_eq_true rfl | (simp only [ab_rm]; omega)⟩ (Nat.le_of_ble_eq_true rfl) (fun u62 r62 h62 => ?_)
        rcases h62 with ⟨d62, e62, q62, l62, rfl⟩ | ⟨d62, q62, rfl⟩
        ·
          have P62 := P7.trans q62 (by decide)
          refine ab_putI X fp_RD_118 d_RD_readLeaf_65 (by first | assumption | decide | (show _ < 124; omega) | (show _ < 61; omega) | (show _ < 20; omega)) rfl rfl ?_
          refine ab_gen (fun u65 e65 => ?_)
          have P65 : cP [1, 2, 10] u u65 := by rw [e65]; exact P62.ui rfl (by decide)
          refine ab_goto X 79 d_RD_readLeaf_68 rfl ?_
          have hd := (dgv_of (lo := 48) (hi := 57) (by decide) (by decide) d62.1 d62.2).1
          exact K79 _ P65 ⟨q + 1, _, lF.mk e7 (rq P7.1 e62 q62) e65, by omega, by omega, fun z => by unfold lfA; rw [if_neg k1, if_pos k2]; exact if_neg (ng d62.1 d62.2 z), fun z => by unfold lfA; rw [if_neg k1, if_pos k2]; exact if_pos (Or.inr (Or.inr z))⟩ l10
        ·
          have P62 := P7.trans q62 (by decide)
          refine ab_putI X fp_RD_118 d_RD_readLeaf_65 (by first | assumption | decide | (show _ < 124; omega) | (show _ < 61; omega) | (show _ < 20; omega)) rfl rfl ?_
          refine ab_gen (fun u65 e65 => ?_)
          have P65 : cP [1, 2, 10] u u65 := by rw [e65]; exact P62.ui rfl (by decide)
          refine ab_goto X 79 d_RD_readLeaf_68 rfl ?_
          exact bad _ P65 (gv e65) (by unfold lfA; rw [if_neg k1, if_pos k2]; exact if_pos (d62.elim Or.inl (fun z => Or.inr (Or.inl z))))
    ·
      have k1 : k = 1 := (nI_eq (b := 1) (by omega) (by omega)).mp h30
      refine ab_aload_n X 1 d_RD_readLeaf_33 rfl rfl ?_
      refine ab_aload_n X 0 d_RD_readLeaf_34 rfl rfl ?_
      refine ab_bipush (v := 65) X d_RD_readLeaf_35 (by decide) ?_
      refine ab_bipush (v := 72) X d_RD_readLeaf_37 (by decide) ?_
      refine ab_callV (as := [ab_I (nI 65), ab_I (nI 72)]) X (fun h => by cases h) (f_RD_oneOf u7 65 72 q T t ht ((show u7.1 1 0 3 = u.1 1 0 3 by rw [e7]; exact ui_n _ (by omega)).trans eL) (fun k hk => (show u7.1 11 0 k = u.1 11 0 k by rw [e7]; exact ui_n _ (by omega)).trans (hT k hk)) P7.1 (by omega) ((show u7.1 1 0 4 = u.1 1 0 4 by rw [e7]; exact ui_n _ (by omega)).trans ea) (by decide) (by decide)) lk_RD_114 d_RD_readLeaf_39 rfl rfl (by first | assumption | decide | (show _ < 124; omega) | (show _ < 61; omega) | (show _ < 20; omega)) ⟨by first | exact Nat.le_of_ble_eq_true rfl | (simp only [ab_rm]; omega), by first | exact Nat.le_of_ble_eq_true rfl | (simp only [ab_rm]; omega)⟩ ⟨by first | exact Nat.le_of_ble_eq_true rfl | (simp only [ab_rm]; omega), by first | exact Nat.le_of_ble_eq_true rfl | (simp only [ab_rm]; omega)⟩ (Nat.le_of_ble_eq_true rfl) (fun u39 r39 h39 => ?_)
      rcases h39 with ⟨d39, e39, q39, l39, rfl⟩ | ⟨d39, q39, rfl⟩
      ·
        have P39 := P7.trans q39 (by decide)
        refine ab_putI X fp_RD_118 d_RD_readLeaf_42 (by first | assumption | decide | (show _ < 124; omega) | (show _ < 61; omega) | (show _ < 20; omega)) rfl rfl ?_
        refine ab_gen (fun u42 e42 => ?_)
        have P42 : cP [1, 2, 10] u u42 := by rw [e42]; exact P39.ui rfl (by decide)
        refine ab_goto X 79 d_RD_readLeaf_45 rfl ?_
        have hd := (dgv_of (lo := 65) (hi := 72) (by decide) (by decide) d39.1 d39.2).1
        exact K79 _ P42 ⟨q + 1, _, lF.mk e7 (rq P7.1 e39 q39) e42, by omega, by omega, fun z => by unfold lfA; rw [if_pos k1]; exact if_neg (ng d39.1 d39.2 z), fun z => by unfold lfA; rw [if_pos k1]; exact if_pos (Or.inr (Or.inr z))⟩ l10
      ·
        have P39 := P7.trans q39 (by decide)
        refine ab_putI X fp_RD_118 d_RD_readLeaf_42 (by first | assumption | decide | (show _ < 124; omega) | (show _ < 61; omega) | (show _ < 20; omega)) rfl rfl ?_
        refine ab_gen (fun u42 e42 => ?_)
        have P42 : cP [1, 2, 10] u u42 := by rw [e42]; exact P39.ui rfl (by decide)
        refine ab_goto X 79 d_RD_readLeaf_45 rfl ?_
        exact bad _ P42 (gv e42) (by unfold lfA; rw [if_pos k1]; exact if_pos (d39.elim Or.inl (fun z => Or.inr (Or.inl z))))
  ·
    have l10 : Lf = 10 := by have := Int32.not_le.mp h16; have := nI_ltl (a := 10) this (by decide); omega
    refine ab_aload_n X 0 d_RD_readLeaf_19 rfl rfl ?_
    refine ab_iload_n X 2 d_RD_readLeaf_20 rfl rfl ?_
    refine ab_callV (as := [ab_I x]) X (fun h => by cases h) (f_RD_refuse u7 x P7.1) lk_RD_46 d_RD_readLeaf_21 rfl rfl (by first | assumption | decide | (show _ < 124; omega) | (show _ < 61; omega) | (show _ < 20; omega)) ⟨by first | exact Nat.le_of_ble_eq_true rfl | (simp only [ab_rm]; omega), by first | exact Nat.le_of_ble_eq_true rfl | (simp only [ab_rm]; omega)⟩ ⟨by first | exact Nat.le_of_ble_eq_true rfl | (simp only [ab_rm]; omega), by first | exact Nat.le_of_ble_eq_true rfl | (simp only [ab_rm]; omega)⟩ (Nat.le_of_ble_eq_true rfl) (fun u21 r21 h21 => ?_)
    obtain ⟨q21, rfl⟩ := h21
    have P21 := P7.trans q21 (by decide)
    exact ab_retz X hr0 hlk (Or.inl rfl) d_RD_readLeaf_24 (Or.inr ⟨Or.inl l10, P21, rfl⟩)
end SaLeaf

