/-! The class's read: what it leaves. -/
theorem pm.cong {kd ar cn : Nat → Nat} {ch : Nat → Nat → Nat} {p : Nat} {u u' : ab_S} (h : pm kd ar cn ch p u) (a : ∀ i k, k = 4 ∨ k = 5 ∨ k = 6 → u'.1 2 i k = u.1 2 i k) (b : ∀ i k, u'.2.1 10 i k = u.2.1 10 i k) : pm kd ar cn ch p u' := h.kq ⟨fun k z => a _ k z, fun i => b _ i⟩ rfl rfl rfl (fun _ => rfl)
theorem cT.cong {M : Nat} {kd ar cn : Nat → Nat} {ch : Nat → Nat → Nat} {u u' : ab_S} (h : cT M kd ar cn ch u) (e6 : u'.1 1 0 6 = u.1 1 0 6) (e7 : u'.1 1 0 7 = u.1 1 0 7) (a : ∀ i k, k = 4 ∨ k = 5 ∨ k = 6 → u'.1 2 i k = u.1 2 i k) (b : ∀ i k, u'.2.1 10 i k = u.2.1 10 i k) : cT M kd ar cn ch u' := ⟨e7.trans h.1, e6.trans h.2.1, fun hM p hp => (h.2.2 hM p hp).cong a b⟩
theorem cT.fr {M : Nat} {kd ar cn : Nat → Nat} {ch : Nat → Nat → Nat} {u u' : ab_S} {K : List Nat} (h : cT M kd ar cn ch u) (g : cP K u u') (h1 : ¬ 1 ∈ K) (h2 : ¬ 2 ∈ K) (h10 : ¬ 10 ∈ K) : cT M kd ar cn ch u' := h.cong (g.2.2.1 1 0 6 h1).1 (g.2.2.1 1 0 7 h1).1 (fun i k _ => (g.2.2.1 2 i k h2).1) (fun i k => (g.2.2.1 10 i k h10).2)
section SaPFread
variable {l : Launch} {D : va_G} {ca : Nat → ClassId}
set_option maxRecDepth 100000 in
set_option maxHeartbeats 1000000 in
theorem f_PF_read (hfl : ab_fl0 l) (u : ab_S) (T : Nat → Int32) (t : Nat) (ht : t ≤ 100) (eL : u.1 1 0 3 = nI t) (hT : ∀ k, k < t → u.1 11 0 k = T k) (h : CI u) : ab_CT l D ca y_PF_read b_PF_read 2 (some FieldType.int) 100 ab_nQ u [ab_O 0 0] (fun u' v => (∃ (q M O : Nat) (kd ar cn op : Nat → Nat) (ch : Nat → Nat → Nat), parse T t = some (q, M, O, kd, ar, cn, op, ch) ∧ wP u u' ∧ u'.2.1 0 0 7 = some (2, 1) ∧ cT M kd ar cn ch u') ∧ ∃ x : Int32, v = some (ab_I x)) (fun u' E => (wP u u' ∧ parse T t = none ∧ u'.2.1 0 0 7 = none) ∧ E = ab_IAE) := by
  refine ab_CT.of (by decide) (Nat.le_of_ble_eq_true rfl) ?_
  intro p e s m args below meth c ad X hZ hW0 hnh hr0 hlk
  have P0 : cP [0, 1, 2, 3, 4, 5, 6, 7, 8, 9, 10, 11, 12, 13, 14, 15, 16] u u := cQ.rf h
  have loop : ∀ (q M O : Nat) (kd ar cn op : Nat → Nat) (ch : Nat → Nat → Nat), parse T t = some (q, M, O, kd, ar, cn, op, ch) → ∀ (j : Nat) (u1 : ab_S), j ≤ 19 → wP u u1 → u1.2.1 0 0 7 = some (2, 1) → cT M kd ar cn ch u1 → ab_J p l e (ab_rm 100 1 6) s m args below meth c (ab_MQ below (ab_QT D ca ad ab_nQ s.heap.size (fun u' v => (∃ (q M O : Nat) (kd ar cn op : Nat → Nat) (ch : Nat → Nat → Nat), parse T t = some (q, M, O, kd, ar, cn, op, ch) ∧ wP u u' ∧ u'.2.1 0 0 7 = some (2, 1) ∧ cT M kd ar cn ch u') ∧ ∃ x : Int32, v = some (ab_I x)) (fun u' E => (wP u u' ∧ parse T t = none ∧ u'.2.1 0 0 7 = none) ∧ E = ab_IAE)) args s 1 6 (ab_A ad ab_nQ s.heap.size)) D ca (ab_A ad ab_nQ s.heap.size) s.heap 2 0 0 ad ab_nQ u1 43 [(1, ab_I (nI j - 1)), (0, ab_O 0 0)] [] := by
    intro q M O kd ar cn op ch hp j
    induction j with
    | zero =>
      intro u1 hj P1 eg C1
      refine ab_iload_n X 0 d_PF_read_43 rfl rfl ?_
      refine ab_if_lt X 69 d_PF_read_44 rfl (fun _ => ?_) (fun hb => absurd ((by decide)) hb)
      refine ab_aload_n X 1 d_PF_read_69 rfl rfl ?_
      refine ab_gR X fl_PF_37 d_PF_read_70 (by first | assumption | decide | (show _ < 124; omega) | (show _ < 61; omega) | (show _ < 20; omega)) (P1.1.pf3) ?_
      refine ab_aload_n X 1 d_PF_read_73 rfl rfl ?_
      refine ab_gR X fl_PF_58 d_PF_read_74 (by first | assumption | decide | (show _ < 124; omega) | (show _ < 61; omega) | (show _ < 20; omega)) (eg) ?_
      refine ab_gR X fl_PF_94 d_PF_read_77 (by first | assumption | decide | (show _ < 124; omega) | (show _ < 61; omega) | (show _ < 20; omega)) (P1.1.pt1 (by first | assumption | decide | omega)) ?_
      refine ab_iconst (v := 0) X d_PF_read_80 (by decide) ?_
      refine ab_callV (as := [ab_O 3 (3 * 1), ab_I (nI 0)]) X (fun h => by cases h) (s_SC_write 41 0 u1 (3 * 1) rfl P1.1 (by omega)) lk_PF_97 d_PF_read_81 rfl rfl (by first | assumption | decide | (show _ < 124; omega) | (show _ < 61; omega) | (show _ < 20; omega)) ⟨by first | exact Nat.le_of_ble_eq_true rfl | (simp only [ab_rm]; omega), by first | exact Nat.le_of_ble_eq_true rfl | (simp only [ab_rm]; omega)⟩ ⟨by first | exact Nat.le_of_ble_eq_true rfl | (simp only [ab_rm]; omega), by first | exact Nat.le_of_ble_eq_true rfl | (simp only [ab_rm]; omega)⟩ (Nat.le_of_ble_eq_true rfl) (fun u81 r81 h81 => ?_)
      obtain ⟨q81, rfl⟩ := h81
      have P81 := P1.trans q81 (by decide)
      refine ab_aload_n X 1 d_PF_read_84 rfl rfl ?_
      refine ab_gR X fl_PF_37 d_PF_read_85 (by first | assumption | decide | (show _ < 124; omega) | (show _ < 61; omega) | (show _ < 20; omega)) (P81.1.pf3) ?_
      refine ab_gI X fl_PF_101 d_PF_read_88 (by first | assumption | decide | (show _ < 124; omega) | (show _ < 61; omega) | (show _ < 20; omega)) (rfl) ?_
      exact ab_retTi X hr0 hlk d_PF_read_91 ⟨⟨q, M, O, kd, ar, cn, op, ch, hp, P81, q81.rr (by decide) eg, C1.fr q81 (by decide) (by decide) (by decide)⟩, _, rfl⟩
    | succ j ih =>
      intro u1 hj P1 eg C1
      rw [nI_m1 (by omega), show j + 1 - 1 = j by omega]
      refine ab_iload_n X 0 d_PF_read_43 rfl rfl ?_
      refine ab_if_lt X 69 d_PF_read_44 rfl (fun hb => absurd hb ((nI_pos (by omega)))) (fun _ => ?_)
      refine ab_aload_n X 1 d_PF_read_47 rfl rfl ?_
      refine ab_gR X fl_PF_12 d_PF_read_48 (by first | assumption | decide | (show _ < 124; omega) | (show _ < 61; omega) | (show _ < 20; omega)) (P1.1.pf0) ?_
      refine ab_gR X fl_PF_84 d_PF_read_51 (by first | assumption | decide | (show _ < 124; omega) | (show _ < 61; omega) | (show _ < 20; omega)) (P1.1.rd1) ?_
      refine ab_iload_n X 0 d_PF_read_54 rfl rfl ?_
      refine ab_aalv X (j) ⟨rfl, _, fun _ => rfl⟩ d_PF_read_55 (by first | assumption | decide | (show _ < 124; omega) | (show _ < 61; omega) | (show _ < 20; omega)) (rfl) (show j < 19 by omega) (ab_ln_lt _ _) (P1.1.rp (by omega)) ?_
      refine ab_aload_n X 1 d_PF_read_56 rfl rfl ?_
      refine ab_gR X fl_PF_21 d_PF_read_57 (by first | assumption | decide | (show _ < 124; omega) | (show _ < 61; omega) | (show _ < 20; omega)) (P1.1.pf1) ?_
      refine ab_callV (as := [ab_O 3 60]) X (fun h => by cases h) (s_PT_chooseForms u1 (j + 1) P1.1 (by omega)) lk_PF_88 d_PF_read_60 rfl rfl (by first | assumption | decide | (show _ < 124; omega) | (show _ < 61; omega) | (show _ < 20; omega)) ⟨by first | exact Nat.le_of_ble_eq_true rfl | (simp only [ab_rm]; omega), by first | exact Nat.le_of_ble_eq_true rfl | (simp only [ab_rm]; omega)⟩ ⟨by first | exact Nat.le_of_ble_eq_true rfl | (simp only [ab_rm]; omega), by first | exact Nat.le_of_ble_eq_true rfl | (simp only [ab_rm]; omega)⟩ (Nat.le_of_ble_eq_true rfl) (fun u60 r60 h60 => ?_)
      obtain ⟨q60, rfl⟩ := h60
      have P60 := P1.trans q60 (by decide)
      refine ab_iinc1 X 0 1 d_PF_read_63 rfl (by decide) rfl rfl ?_
      refine ab_goto X 43 d_PF_read_66 rfl ?_
      rw [show nI j + Int32.ofInt (-1) = nI j - 1 from by rw [Int32.sub_eq_add_neg]; rfl]
      exact ih _ (by omega) P60 (q60.rr (by decide) eg) (C1.fr q60 (by decide) (by decide) (by decide))
  refine ab_aload_n X 0 d_PF_read_0 rfl rfl ?_
  refine ab_gR X fl_PF_37 d_PF_read_1 (by first | assumption | decide | (show _ < 124; omega) | (show _ < 61; omega) | (show _ < 20; omega)) (P0.1.pf3) ?_
  refine ab_callV (as := []) X (fun h => by cases h) (s_SC_start u h) lk_PF_73 d_PF_read_4 rfl rfl (by first | assumption | decide | (show _ < 124; omega) | (show _ < 61; omega) | (show _ < 20; omega)) ⟨by first | exact Nat.le_of_ble_eq_true rfl | (simp only [ab_rm]; omega), by first | exact Nat.le_of_ble_eq_true rfl | (simp only [ab_rm]; omega)⟩ ⟨by first | exact Nat.le_of_ble_eq_true rfl | (simp only [ab_rm]; omega), by first | exact Nat.le_of_ble_eq_true rfl | (simp only [ab_rm]; omega)⟩ (Nat.le_of_ble_eq_true rfl) (fun u4 r4 h4 => ?_)
  obtain ⟨q4, rfl⟩ := h4
  have P4 := P0.trans q4 (by decide)
  refine ab_aload_n X 0 d_PF_read_7 rfl rfl ?_
  refine ab_aload_n X 0 d_PF_read_8 rfl rfl ?_
  refine ab_gR X fl_PF_12 d_PF_read_9 (by first | assumption | decide | (show _ < 124; omega) | (show _ < 61; omega) | (show _ < 20; omega)) (P4.1.pf0) ?_
  refine ab_callV (as := []) X (fun _ => hZ) (f_RD_whole u4 T t ht (q4.ii (by decide) eL) (fun k hk => q4.ii (by decide) (hT k hk)) P4.1) lk_PF_74 d_PF_read_12 rfl rfl (by first | assumption | decide | (show _ < 124; omega) | (show _ < 61; omega) | (show _ < 20; omega)) ⟨by first | exact Nat.le_of_ble_eq_true rfl | (simp only [ab_rm]; omega), by first | exact Nat.le_of_ble_eq_true rfl | (simp only [ab_rm]; omega)⟩ ⟨by first | exact Nat.le_of_ble_eq_true rfl | (simp only [ab_rm]; omega), by first | exact Nat.le_of_ble_eq_true rfl | (simp only [ab_rm]; omega)⟩ (Nat.le_of_ble_eq_true rfl) (fun u12 r12 h12 => ?_)
  rcases h12 with ⟨f12, q12, rfl⟩ | ⟨q', M', O', kd', ar', cn', op', ch', f12, q12, C12, k12, rfl⟩
  ·
    have P12 := wP.of P4 q12
    refine ab_putR X fp_PF_58 d_PF_read_15 (by first | assumption | decide | (show _ < 124; omega) | (show _ < 61; omega) | (show _ < 20; omega)) ?_
    refine ab_gen (fun u15 e15 => ?_)
    have P15 : wP u u15 := by rw [e15]; exact P12.pol (by first | exact Or.inl rfl | exact Or.inr ⟨1, by decide, rfl⟩)
    refine ab_aload_n X 0 d_PF_read_18 rfl rfl ?_
    refine ab_gR X fl_PF_58 d_PF_read_19 (by first | assumption | decide | (show _ < 124; omega) | (show _ < 61; omega) | (show _ < 20; omega)) ((show _ = (none : Option (Nat × Nat)) by rw [e15]; simp [ab_up])) ?_
    refine ab_ifnonnull X 33 d_PF_read_22 rfl (fun hb => absurd (rfl) hb) (fun _ => ?_)
    exact ab_throw (cells := 0) (slots := 0) X hfl hZ hW0 hnh hlk ow_PF_78 d_PF_read_25 d_PF_read_28 d_PF_read_29 d_PF_read_32 ⟨Nat.le_of_ble_eq_true rfl, Nat.le_of_ble_eq_true rfl⟩ ⟨Nat.le_of_ble_eq_true rfl, Nat.le_of_ble_eq_true rfl⟩ ⟨⟨P15, f12, by rw [e15]; simp [ab_up]⟩, rfl⟩
  ·
    have P12 := wP.of P4 q12
    refine ab_putR X fp_PF_58 d_PF_read_15 (by first | assumption | decide | (show _ < 124; omega) | (show _ < 61; omega) | (show _ < 20; omega)) ?_
    refine ab_gen (fun u15 e15 => ?_)
    have P15 : wP u u15 := by rw [e15]; exact P12.pol (by first | exact Or.inl rfl | exact Or.inr ⟨1, by decide, rfl⟩)
    refine ab_aload_n X 0 d_PF_read_18 rfl rfl ?_
    refine ab_gR X fl_PF_58 d_PF_read_19 (by first | assumption | decide | (show _ < 124; omega) | (show _ < 61; omega) | (show _ < 20; omega)) ((show _ = (some (2, 1) : Option (Nat × Nat)) by rw [e15]; simp [ab_up])) ?_
    refine ab_ifnonnull X 33 d_PF_read_22 rfl (fun _ => ?_) (fun hb => absurd hb ((by intro z; cases z)))
    refine ab_aload_n X 0 d_PF_read_33 rfl rfl ?_
    refine ab_gR X fl_PF_12 d_PF_read_34 (by first | assumption | decide | (show _ < 124; omega) | (show _ < 61; omega) | (show _ < 20; omega)) (P15.1.pf0) ?_
    refine ab_gI X fl_PF_81 d_PF_read_37 (by first | assumption | decide | (show _ < 124; omega) | (show _ < 61; omega) | (show _ < 20; omega)) ((show _ = nI (mn M') by rw [e15]; exact C12.1)) ?_
    refine ab_iconst (v := 1) X d_PF_read_40 (by decide) ?_
    refine ab_isub X d_PF_read_41 ?_
    refine ab_istore_n1 X 0 d_PF_read_42 rfl (by decide) rfl rfl ?_
    exact loop _ _ _ _ _ _ _ _ f12 (mn M') _ (mn_le M') P15 (by rw [e15]; simp [ab_up]) (C12.cong (by rw [e15]) (by rw [e15]) (fun i k _ => by rw [e15]) (fun i k => by rw [e15]; show ab_up u12.2.1 0 0 7 (some (2, 1)) 10 i k = u12.2.1 10 i k; exact ab_up_n _ _ (by omega)))
end SaPFread

