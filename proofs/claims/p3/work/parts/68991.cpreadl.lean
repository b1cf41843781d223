/-! The class's read: what it answers. -/
section SaPFreadL
variable {l : Launch} {D : va_G} {ca : Nat → ClassId}
set_option maxRecDepth 100000 in
set_option maxHeartbeats 1000000 in
theorem f_SC_start (u : ab_S) (h : CI u) : ab_C false l D ca y_SC_start b_SC_start 1 none 0 ab_nQ u [ab_O 5 0] (fun u' v => (cP [5, 13, 14] u u' ∧ sC u' 0 0) ∧ v = none) := by
  refine ab_C.of (by decide) (Nat.le_of_ble_eq_true rfl) ?_
  intro p e s m args below meth c ad X hZ hr0 hlk
  have P0 : cP [5, 13, 14] u u := cQ.rf h
  refine ab_aload_n X 0 d_SC_start_0 rfl rfl ?_
  refine ab_iconst (v := 0) X d_SC_start_1 (by decide) ?_
  refine ab_putI X fp_SC_21 d_SC_start_2 (by first | assumption | decide | (show _ < 124; omega) | (show _ < 61; omega) | (show _ < 20; omega)) rfl rfl ?_
  refine ab_gen (fun u2 e2 => ?_)
  have P2 : cP [5, 13, 14] u u2 := by rw [e2]; exact P0.sc (by decide) (n := 0) (by omega)
  refine ab_aload_n X 0 d_SC_start_5 rfl rfl ?_
  refine ab_iconst (v := 0) X d_SC_start_6 (by decide) ?_
  refine ab_putI X fp_SC_25 d_SC_start_7 (by first | assumption | decide | (show _ < 124; omega) | (show _ < 61; omega) | (show _ < 20; omega)) rfl rfl ?_
  refine ab_gen (fun u7 e7 => ?_)
  have P7 : cP [5, 13, 14] u u7 := by rw [e7]; exact P2.sf (by decide) (n := 0) (by omega) (fun j hj => absurd hj (by omega))
  exact ab_retv X hr0 hlk d_SC_start_10 ⟨⟨P7, by rw [e7, e2]; exact (ui_n _ (by omega)).trans ((ui_s _).trans rfl), by rw [e7]; exact (ui_s _).trans rfl⟩, rfl⟩
set_option maxRecDepth 100000 in
set_option maxHeartbeats 1000000 in
theorem f_PF_readL (hfl : ab_fl0 l) (u : ab_S) (T : Nat → Int32) (t : Nat) (ht : t ≤ 100) (eL : u.1 1 0 3 = nI t) (hT : ∀ k, k < t → u.1 11 0 k = T k) (h : CI u) : ab_CT l D ca y_PF_read b_PF_read 2 (some FieldType.int) 100 ab_nQ u [ab_O 0 0] (fun u' v => (∃ (q M O : Nat) (kd ar cn op : Nat → Nat) (ch : Nat → Nat → Nat), parse T t = some (q, M, O, kd, ar, cn, op, ch) ∧ wP u u' ∧ u'.2.1 0 0 7 = some (2, 1) ∧ cT M kd ar cn ch u' ∧ v = some (ab_I (nI (lnF kd ar cn ch M 0 0))))) (fun u' E => (wP u u' ∧ parse T t = none ∧ u'.2.1 0 0 7 = none) ∧ E = ab_IAE) := by
  refine ab_CT.of (by decide) (Nat.le_of_ble_eq_true rfl) ?_
  intro p e s m args below meth c ad X hZ hW0 hnh hr0 hlk
  have P0 : cP [0, 1, 2, 3, 4, 5, 6, 7, 8, 9, 10, 11, 12, 13, 14, 15, 16] u u := cQ.rf h
  have loop : ∀ (q M O : Nat) (kd ar cn op : Nat → Nat) (ch : Nat → Nat → Nat), parse T t = some (q, M, O, kd, ar, cn, op, ch) → ∀ (lf : Nat → Nat), tW M kd ar cn lf ch → ∀ (j : Nat) (u1 : ab_S), j ≤ M → wP u u1 → u1.2.1 0 0 7 = some (2, 1) → cT M kd ar cn ch u1 → cFo M lf (lnF kd ar cn ch M) j u1 → sC u1 0 0 → ab_J p l e (ab_rm 100 1 6) s m args below meth c (ab_MQ below (ab_QT D ca ad ab_nQ s.heap.size (fun u' v => (∃ (q M O : Nat) (kd ar cn op : Nat → Nat) (ch : Nat → Nat → Nat), parse T t = some (q, M, O, kd, ar, cn, op, ch) ∧ wP u u' ∧ u'.2.1 0 0 7 = some (2, 1) ∧ cT M kd ar cn ch u' ∧ v = some (ab_I (nI (lnF kd ar cn ch M 0 0))))) (fun u' E => (wP u u' ∧ parse T t = none ∧ u'.2.1 0 0 7 = none) ∧ E = ab_IAE)) args s 1 6 (ab_A ad ab_nQ s.heap.size)) D ca (ab_A ad ab_nQ s.heap.size) s.heap 2 0 0 ad ab_nQ u1 43 [(1, ab_I (nI j - 1)), (0, ab_O 0 0)] [] := by
    intro q M O kd ar cn op ch hp lf W j
    have hP19 := W.2.1
    have hL : ∀ q, q < M → ∀ j, j < 3 → lnF kd ar cn ch M q j = lS kd ar cn ch (lnF kd ar cn ch M) q j := fun q hq j _ => lnF_fix W hq j
    have hLb : ∀ q, q < M → ∀ j, j < 3 → lnF kd ar cn ch M q j ≤ 9 * lf q - 4 + (if j = 2 then 1 else 0) := fun q hq j hj => (lnF_b W hL (M - q) q (by omega) hq j hj).2
    induction j with
    | zero =>
      intro u1 hj P1 eg C1 F1 S1
      obtain ⟨sz, hsz, fz⟩ := F1 0 (Nat.le_refl _) W.1 0 (by decide)
      rw [if_pos rfl] at hsz
      have l0 := (W.2.2 0 W.1).1
      have b0 := hLb 0 W.1 0 (by decide)
      rw [if_neg (by decide)] at b0
      refine ab_iload_n X 0 d_PF_read_43 rfl rfl ?_
      refine ab_if_lt X 69 d_PF_read_44 rfl (fun _ => ?_) (fun hb => absurd ((by decide)) hb)
      refine ab_aload_n X 1 d_PF_read_69 rfl rfl ?_
      refine ab_gR X fl_PF_37 d_PF_read_70 (by first | assumption | decide | (show _ < 124; omega) | (show _ < 61; omega) | (show _ < 20; omega)) (P1.1.pf3) ?_
      refine ab_aload_n X 1 d_PF_read_73 rfl rfl ?_
      refine ab_gR X fl_PF_58 d_PF_read_74 (by first | assumption | decide | (show _ < 124; omega) | (show _ < 61; omega) | (show _ < 20; omega)) (eg) ?_
      refine ab_gR X fl_PF_94 d_PF_read_77 (by first | assumption | decide | (show _ < 124; omega) | (show _ < 61; omega) | (show _ < 20; omega)) (P1.1.pt1 (by first | assumption | decide | omega)) ?_
      refine ab_iconst (v := 0) X d_PF_read_80 (by decide) ?_
      refine ab_callV (as := [ab_O 3 (3 * 1), ab_I (nI 0)]) X (fun h => by cases h) (f_SC_write (AQ 0) 41 0 u1 (3 * 1) _ sz 0 0 rfl P1.1 (fw.up _ _ _ _ _ (by omega) fz) S1 (by omega) (by omega)) lk_PF_97 d_PF_read_81 rfl rfl (by first | assumption | decide | (show _ < 124; omega) | (show _ < 61; omega) | (show _ < 20; omega)) ⟨by first | exact Nat.le_of_ble_eq_true rfl | (simp only [ab_rm]; omega), by first | exact Nat.le_of_ble_eq_true rfl | (simp only [ab_rm]; omega)⟩ ⟨by first | exact Nat.le_of_ble_eq_true rfl | (simp only [ab_rm]; omega), by first | exact Nat.le_of_ble_eq_true rfl | (simp only [ab_rm]; omega)⟩ (Nat.le_of_ble_eq_true rfl) (fun u81 r81 h81 => ?_)
      obtain ⟨⟨q81, c81⟩, rfl⟩ := h81
      have P81 := P1.trans q81 (by decide)
      refine ab_aload_n X 1 d_PF_read_84 rfl rfl ?_
      refine ab_gR X fl_PF_37 d_PF_read_85 (by first | assumption | decide | (show _ < 124; omega) | (show _ < 61; omega) | (show _ < 20; omega)) (P81.1.pf3) ?_
      refine ab_gI X fl_PF_101 d_PF_read_88 (by first | assumption | decide | (show _ < 124; omega) | (show _ < 61; omega) | (show _ < 20; omega)) ((c81.1.trans (by rw [Nat.zero_add]))) ?_
      exact ab_retTi X hr0 hlk d_PF_read_91 ⟨q, M, O, kd, ar, cn, op, ch, hp, P81, q81.rr (by decide) eg, C1.fr q81 (by decide) (by decide) (by decide), rfl⟩
    | succ j ih =>
      intro u1 hj P1 eg C1 F1 S1
      rw [nI_m1 (by omega), show j + 1 - 1 = j by omega]
      refine ab_iload_n X 0 d_PF_read_43 rfl rfl ?_
      refine ab_if_lt X 69 d_PF_read_44 rfl (fun hb => absurd hb ((nI_pos (by omega)))) (fun _ => ?_)
      refine ab_aload_n X 1 d_PF_read_47 rfl rfl ?_
      refine ab_gR X fl_PF_12 d_PF_read_48 (by first | assumption | decide | (show _ < 124; omega) | (show _ < 61; omega) | (show _ < 20; omega)) (P1.1.pf0) ?_
      refine ab_gR X fl_PF_84 d_PF_read_51 (by first | assumption | decide | (show _ < 124; omega) | (show _ < 61; omega) | (show _ < 20; omega)) (P1.1.rd1) ?_
      refine ab_iload_n X 0 d_PF_read_54 rfl rfl ?_
      refine ab_aalv X (j) ⟨rfl, _, fun _ => rfl⟩ d_PF_read_55 (by first | assumption | decide | (show _ < 124; omega) | (show _ < 61; omega) | (show _ < 20; omega)) (rfl) (show j < 19 by omega) (ab_ln_lt _ _) (P1.1.rp (by omega)) ?_
      refine ab_aload_n X 1 d_PF_read_56 rfl rfl ?_
      refine ab_gR X fl_PF_21 d_PF_read_57 (by first | assumption | decide | (show _ < 124; omega) | (show _ < 61; omega) | (show _ < 20; omega)) (P1.1.pf1) ?_
      refine ab_callV (as := [ab_O 3 60]) X (fun h => by cases h) (f_PT_chooseF u1 M kd ar cn lf ch (lnF kd ar cn ch M) W j (by omega) hL hLb P1.1 (C1.2.2 hP19 j (by omega)) F1) lk_PF_88 d_PF_read_60 rfl rfl (by first | assumption | decide | (show _ < 124; omega) | (show _ < 61; omega) | (show _ < 20; omega)) ⟨by first | exact Nat.le_of_ble_eq_true rfl | (simp only [ab_rm]; omega), by first | exact Nat.le_of_ble_eq_true rfl | (simp only [ab_rm]; omega)⟩ ⟨by first | exact Nat.le_of_ble_eq_true rfl | (simp only [ab_rm]; omega), by first | exact Nat.le_of_ble_eq_true rfl | (simp only [ab_rm]; omega)⟩ (Nat.le_of_ble_eq_true rfl) (fun u60 r60 h60 => ?_)
      obtain ⟨⟨q60, f60⟩, rfl⟩ := h60
      have P60 := P1.trans q60 (by decide)
      refine ab_iinc1 X 0 1 d_PF_read_63 rfl (by decide) rfl rfl ?_
      refine ab_goto X 43 d_PF_read_66 rfl ?_
      rw [show nI j + Int32.ofInt (-1) = nI j - 1 from by rw [Int32.sub_eq_add_neg]; rfl]
      exact ih _ (by omega) P60 (q60.rr (by decide) eg) (C1.fr q60 (by decide) (by decide) (by decide)) f60 ⟨q60.ii (by decide) S1.1, q60.ii (by decide) S1.2⟩
  refine ab_aload_n X 0 d_PF_read_0 rfl rfl ?_
  refine ab_gR X fl_PF_37 d_PF_read_1 (by first | assumption | decide | (show _ < 124; omega) | (show _ < 61; omega) | (show _ < 20; omega)) (P0.1.pf3) ?_
  refine ab_callV (as := []) X (fun h => by cases h) (f_SC_start u h) lk_PF_73 d_PF_read_4 rfl rfl (by first | assumption | decide | (show _ < 124; omega) | (show _ < 61; omega) | (show _ < 20; omega)) ⟨by first | exact Nat.le_of_ble_eq_true rfl | (simp only [ab_rm]; omega), by first | exact Nat.le_of_ble_eq_true rfl | (simp only [ab_rm]; omega)⟩ ⟨by first | exact Nat.le_of_ble_eq_true rfl | (simp only [ab_rm]; omega), by first | exact Nat.le_of_ble_eq_true rfl | (simp only [ab_rm]; omega)⟩ (Nat.le_of_ble_eq_true rfl) (fun u4 r4 h4 => ?_)
  obtain ⟨⟨q4, c4⟩, rfl⟩ := h4
  have P4 := P0.trans q4 (by decide)
  refine ab_aload_n X 0 d_PF_read_7 rfl rfl ?_
  refine ab_aload_n X 0 d_PF_read_8 rfl rfl ?_
  refine ab_gR X fl_PF_12 d_PF_read_9 (by first | assumption | decide | (show _ < 124; omega) | (show _ < 61; omega) | (show _ < 20; omega)) (P4.1.pf0) ?_
  refine ab_callV (as := []) X (fun _ => hZ) (f_RD_whole u4 T t ht (q4.ii (by decide) eL) (fun k hk => q4.ii (by decide) (hT k hk)) P4.1) lk_PF_74 d_PF_read_12 rfl rfl (by first | assumption | decide | (show _ < 124; omega) | (show _ < 61; omega) | (show _ < 20; omega)) ⟨by first | exact Nat.le_of_ble_eq_true rfl | (simp only [ab_rm]; omega), by first | exact Nat.le_of_ble_eq_true rfl | (simp only [ab_rm]; omega)⟩ ⟨by first | exact Nat.le_of_ble_eq_true rfl | (simp only [ab_rm]; omega), by first | exact Nat.le_of_ble_eq_true rfl | (simp only [ab_rm]; omega)⟩ (Nat.le_of_ble_eq_true rfl) (fun u12 r12 h12 => ?_)
  rcases h12 with ⟨f12, q12, rfl⟩ | ⟨q', M', O', kd', ar', cn', op', ch', f12, q12, C12, k12, rfl⟩
  ·
    have P12 := wP.of P4 q12
    refine ab_putR X fp_PF_58 d_PF_read_15 (by first | assumption | decide | (show _ < 124; omega) | (show _ < 61; omega) | (show _ < 20; omega)) ?_
    refine ab_gen (fun u15 e15 => ?_)
    have P15 : wP u u15 := by rw [e15]; exact P12.pol (by first | exact Or.inl rfl | exact Or.inr ⟨1, by decide, rfl⟩)
    refine ab_aload_n X 0 d_PF_read_18 rfl rfl ?_
    refine ab_gR X fl_PF_58 d_PF_read_19 (by first | assumption | decide | (show _ < 124; omega) | (show _ < 61; omega) | (show _ < 20; omega)) ((show _ = (none : Option (Nat × Nat)) by rw [e15]; simp [ab_up])) ?_
    refine ab_ifnonnull X 33 d_PF_read_22 rfl (fun hb => absurd (rfl) hb) (fun _ => ?_)
    exact ab_throw (cells := 0) (slots := 0) X hfl hZ hW0 hnh hlk ow_PF_78 d_PF_read_25 d_PF_read_28 d_PF_read_29 d_PF_read_32 ⟨Nat.le_of_ble_eq_true rfl, Nat.le_of_ble_eq_true rfl⟩ ⟨Nat.le_of_ble_eq_true rfl, Nat.le_of_ble_eq_true rfl⟩ ⟨⟨P15, f12, by rw [e15]; simp [ab_up]⟩, rfl⟩
  ·
    have P12 := wP.of P4 q12
    refine ab_putR X fp_PF_58 d_PF_read_15 (by first | assumption | decide | (show _ < 124; omega) | (show _ < 61; omega) | (show _ < 20; omega)) ?_
    refine ab_gen (fun u15 e15 => ?_)
    have P15 : wP u u15 := by rw [e15]; exact P12.pol (by first | exact Or.inl rfl | exact Or.inr ⟨1, by decide, rfl⟩)
    refine ab_aload_n X 0 d_PF_read_18 rfl rfl ?_
    refine ab_gR X fl_PF_58 d_PF_read_19 (by first | assumption | decide | (show _ < 124; omega) | (show _ < 61; omega) | (show _ < 20; omega)) ((show _ = (some (2, 1) : Option (Nat × Nat)) by rw [e15]; simp [ab_up])) ?_
    refine ab_ifnonnull X 33 d_PF_read_22 rfl (fun _ => ?_) (fun hb => absurd hb ((by intro z; cases z)))
    refine ab_aload_n X 0 d_PF_read_33 rfl rfl ?_
    refine ab_gR X fl_PF_12 d_PF_read_34 (by first | assumption | decide | (show _ < 124; omega) | (show _ < 61; omega) | (show _ < 20; omega)) (P15.1.pf0) ?_
    refine ab_gI X fl_PF_81 d_PF_read_37 (by first | assumption | decide | (show _ < 124; omega) | (show _ < 61; omega) | (show _ < 20; omega)) ((show _ = nI (mn M') by rw [e15]; exact C12.1)) ?_
    refine ab_iconst (v := 1) X d_PF_read_40 (by decide) ?_
    refine ab_isub X d_PF_read_41 ?_
    refine ab_istore_n1 X 0 d_PF_read_42 rfl (by decide) rfl rfl ?_
    obtain ⟨lf, W⟩ := parse_tW f12
    have em : mn M' = M' := by have := W.2.1; unfold mn; split <;> omega
    rw [em]
    exact loop _ _ _ _ _ _ _ _ f12 lf W M' _ (Nat.le_refl _) P15 (by rw [e15]; simp [ab_up]) (C12.cong (by rw [e15]) (by rw [e15]) (fun i k _ => by rw [e15]) (fun i k => by rw [e15]; show ab_up u12.2.1 0 0 7 (some (2, 1)) 10 i k = u12.2.1 10 i k; exact ab_up_n _ _ (by omega))) (fun q a b => absurd b (by omega)) ⟨by rw [e15]; exact (k12 0 2).trans c4.1, by rw [e15]; exact (k12 0 3).trans c4.2⟩
end SaPFreadL

