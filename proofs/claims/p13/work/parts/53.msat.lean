/-! The reference's rows of a part: every call comes to its end, lengths stay small. -/
theorem bl.le {q j : Nat} {x : Int32} (h : bl q x) (hj : q ≤ j) (hb : j < 2 ^ 31) : x ≤ nI j := by
  rcases h with e | ⟨b, hb', e⟩
  · rw [e]; exact Int32.le_of_lt (Int32.lt_of_lt_of_le (by decide : (-1 : Int32) < 0) (nI_pos' hb))
  · rw [e]; exact nI_le (by omega) hb
theorem sm_mono (B : Nat → Nat) {m n : Nat} (h : m ≤ n) : sm B m ≤ sm B n := by
  induction n with
  | zero => rw [show m = 0 by omega]; exact Nat.le_refl _
  | succ n ih =>
    by_cases q : m = n + 1
    · rw [q]; exact Nat.le_refl _
    · exact Nat.le_trans (ih (by omega)) (Nat.le_add_right _ _)
theorem sm_lf (g : Nat → Nat) (n : Nat) (h : ∀ i, i < n → 1 ≤ g i) : sm (fun i => 4 * g i - 2) n + 2 * n = 4 * sm g n := by
  induction n with
  | zero => rfl
  | succ n ih =>
    have a := ih (fun i hi => h i (by omega))
    have b := h n (by omega)
    show sm (fun i => 4 * g i - 2) n + (4 * g n - 2) + 2 * (n + 1) = 4 * (sm g n + g n)
    omega
section SaMSat2
variable {l : Launch} {D : va_G} {ca : Nat → ClassId}
theorem d_MO_leafHolds_0 : decode b_MO_leafHolds 0 = .ok (.aload_n 0, 1) := by decide +kernel
theorem d_MO_leafHolds_1 : decode b_MO_leafHolds 1 = .ok (.getfield 33, 3) := by decide +kernel
theorem d_MO_leafHolds_4 : decode b_MO_leafHolds 4 = .ok (.iload_n 1, 1) := by decide +kernel
theorem d_MO_leafHolds_5 : decode b_MO_leafHolds 5 = .ok (.iaload, 1) := by decide +kernel
theorem d_MO_leafHolds_6 : decode b_MO_leafHolds 6 = .ok (.istore 6, 2) := by decide +kernel
theorem d_MO_leafHolds_8 : decode b_MO_leafHolds 8 = .ok (.iload 6, 2) := by decide +kernel
theorem d_MO_leafHolds_10 : decode b_MO_leafHolds 10 = .ok (.iconst 1, 1) := by decide +kernel
theorem d_MO_leafHolds_11 : decode b_MO_leafHolds 11 = .ok (.if_icmp .ne 25, 3) := by decide +kernel
theorem d_MO_leafHolds_14 : decode b_MO_leafHolds 14 = .ok (.iload_n 2, 1) := by decide +kernel
theorem d_MO_leafHolds_15 : decode b_MO_leafHolds 15 = .ok (.aload_n 0, 1) := by decide +kernel
theorem d_MO_leafHolds_16 : decode b_MO_leafHolds 16 = .ok (.getfield 36, 3) := by decide +kernel
theorem d_MO_leafHolds_19 : decode b_MO_leafHolds 19 = .ok (.iload_n 1, 1) := by decide +kernel
theorem d_MO_leafHolds_20 : decode b_MO_leafHolds 20 = .ok (.iaload, 1) := by decide +kernel
theorem d_MO_leafHolds_21 : decode b_MO_leafHolds 21 = .ok (.ishr, 1) := by decide +kernel
theorem d_MO_leafHolds_22 : decode b_MO_leafHolds 22 = .ok (.iconst 1, 1) := by decide +kernel
theorem d_MO_leafHolds_23 : decode b_MO_leafHolds 23 = .ok (.iand, 1) := by decide +kernel
theorem d_MO_leafHolds_24 : decode b_MO_leafHolds 24 = .ok (.iconst 1, 1) := by decide +kernel
theorem d_MO_leafHolds_25 : decode b_MO_leafHolds 25 = .ok (.if_icmp .ne 7, 3) := by decide +kernel
theorem d_MO_leafHolds_28 : decode b_MO_leafHolds 28 = .ok (.iconst 1, 1) := by decide +kernel
theorem d_MO_leafHolds_29 : decode b_MO_leafHolds 29 = .ok (.goto 76, 3) := by decide +kernel
theorem d_MO_leafHolds_32 : decode b_MO_leafHolds 32 = .ok (.iconst 0, 1) := by decide +kernel
theorem d_MO_leafHolds_33 : decode b_MO_leafHolds 33 = .ok (.goto 72, 3) := by decide +kernel
theorem d_MO_leafHolds_36 : decode b_MO_leafHolds 36 = .ok (.iload 6, 2) := by decide +kernel
theorem d_MO_leafHolds_38 : decode b_MO_leafHolds 38 = .ok (.iconst 2, 1) := by decide +kernel
theorem d_MO_leafHolds_39 : decode b_MO_leafHolds 39 = .ok (.if_icmp .ne 25, 3) := by decide +kernel
theorem d_MO_leafHolds_42 : decode b_MO_leafHolds 42 = .ok (.iload_n 3, 1) := by decide +kernel
theorem d_MO_leafHolds_43 : decode b_MO_leafHolds 43 = .ok (.aload_n 0, 1) := by decide +kernel
theorem d_MO_leafHolds_44 : decode b_MO_leafHolds 44 = .ok (.getfield 36, 3) := by decide +kernel
theorem d_MO_leafHolds_47 : decode b_MO_leafHolds 47 = .ok (.iload_n 1, 1) := by decide +kernel
theorem d_MO_leafHolds_48 : decode b_MO_leafHolds 48 = .ok (.iaload, 1) := by decide +kernel
theorem d_MO_leafHolds_49 : decode b_MO_leafHolds 49 = .ok (.ishr, 1) := by decide +kernel
theorem d_MO_leafHolds_50 : decode b_MO_leafHolds 50 = .ok (.iconst 1, 1) := by decide +kernel
theorem d_MO_leafHolds_51 : decode b_MO_leafHolds 51 = .ok (.iand, 1) := by decide +kernel
theorem d_MO_leafHolds_52 : decode b_MO_leafHolds 52 = .ok (.iconst 1, 1) := by decide +kernel
theorem d_MO_leafHolds_53 : decode b_MO_leafHolds 53 = .ok (.if_icmp .ne 7, 3) := by decide +kernel
theorem d_MO_leafHolds_56 : decode b_MO_leafHolds 56 = .ok (.iconst 1, 1) := by decide +kernel
theorem d_MO_leafHolds_57 : decode b_MO_leafHolds 57 = .ok (.goto 48, 3) := by decide +kernel
theorem d_MO_leafHolds_60 : decode b_MO_leafHolds 60 = .ok (.iconst 0, 1) := by decide +kernel
theorem d_MO_leafHolds_61 : decode b_MO_leafHolds 61 = .ok (.goto 44, 3) := by decide +kernel
theorem d_MO_leafHolds_64 : decode b_MO_leafHolds 64 = .ok (.iload 6, 2) := by decide +kernel
theorem d_MO_leafHolds_66 : decode b_MO_leafHolds 66 = .ok (.iconst 3, 1) := by decide +kernel
theorem d_MO_leafHolds_67 : decode b_MO_leafHolds 67 = .ok (.if_icmp .ne 22, 3) := by decide +kernel
theorem d_MO_leafHolds_70 : decode b_MO_leafHolds 70 = .ok (.iload 4, 2) := by decide +kernel
theorem d_MO_leafHolds_72 : decode b_MO_leafHolds 72 = .ok (.aload_n 0, 1) := by decide +kernel
theorem d_MO_leafHolds_73 : decode b_MO_leafHolds 73 = .ok (.getfield 36, 3) := by decide +kernel
theorem d_MO_leafHolds_76 : decode b_MO_leafHolds 76 = .ok (.iload_n 1, 1) := by decide +kernel
theorem d_MO_leafHolds_77 : decode b_MO_leafHolds 77 = .ok (.iaload, 1) := by decide +kernel
theorem d_MO_leafHolds_78 : decode b_MO_leafHolds 78 = .ok (.if_icmp .lt 7, 3) := by decide +kernel
theorem d_MO_leafHolds_81 : decode b_MO_leafHolds 81 = .ok (.iconst 1, 1) := by decide +kernel
theorem d_MO_leafHolds_82 : decode b_MO_leafHolds 82 = .ok (.goto 23, 3) := by decide +kernel
theorem d_MO_leafHolds_85 : decode b_MO_leafHolds 85 = .ok (.iconst 0, 1) := by decide +kernel
theorem d_MO_leafHolds_86 : decode b_MO_leafHolds 86 = .ok (.goto 19, 3) := by decide +kernel
theorem d_MO_leafHolds_89 : decode b_MO_leafHolds 89 = .ok (.iload 5, 2) := by decide +kernel
theorem d_MO_leafHolds_91 : decode b_MO_leafHolds 91 = .ok (.aload_n 0, 1) := by decide +kernel
theorem d_MO_leafHolds_92 : decode b_MO_leafHolds 92 = .ok (.getfield 36, 3) := by decide +kernel
theorem d_MO_leafHolds_95 : decode b_MO_leafHolds 95 = .ok (.iload_n 1, 1) := by decide +kernel
theorem d_MO_leafHolds_96 : decode b_MO_leafHolds 96 = .ok (.iaload, 1) := by decide +kernel
theorem d_MO_leafHolds_97 : decode b_MO_leafHolds 97 = .ok (.if_icmp .lt 7, 3) := by decide +kernel
theorem d_MO_leafHolds_100 : decode b_MO_leafHolds 100 = .ok (.iconst 1, 1) := by decide +kernel
theorem d_MO_leafHolds_101 : decode b_MO_leafHolds 101 = .ok (.goto 4, 3) := by decide +kernel
theorem d_MO_leafHolds_104 : decode b_MO_leafHolds 104 = .ok (.iconst 0, 1) := by decide +kernel
theorem d_MO_leafHolds_105 : decode b_MO_leafHolds 105 = .ok (.ireturn, 1) := by decide +kernel
set_option maxRecDepth 100000 in
set_option maxHeartbeats 1000000 in
theorem t_MO_leafHolds (u : ab_S) (p1 : Nat) (a b c' d' : Int32) (h : mR u.2.1) (hp : p1 < 40) : ab_C false l D ca y_MO_leafHolds b_MO_leafHolds 7 (some FieldType.boolean) 0 ab_nQ u [ab_O 17 0, ab_I (nI p1), ab_I a, ab_I b, ab_I c', ab_I d'] (fun u' v => u' = u ∧ ∃ b : Int32, (b = 0 ∨ b = 1) ∧ v = some (ab_I b)) := by
  refine ab_C.of (by decide) (Nat.le_of_ble_eq_true rfl) ?_
  intro p e s m args below meth c ad X hZ hr0 hlk
  have P0 : gP [26, 27, 29, 30, 115, 116] u u := gP.rf h
  refine ab_aload_n X 0 d_MO_leafHolds_0 rfl rfl ?_
  refine ab_gR X fl_MO_33 d_MO_leafHolds_1 (by first | assumption | decide | (show _ < 124; omega) | (show _ < 61; omega) | (show _ < 20; omega)) (P0.1.mo7) ?_
  refine ab_iload_n X 1 d_MO_leafHolds_4 rfl rfl ?_
  refine ab_iald X (p1) ⟨rfl, rfl⟩ d_MO_leafHolds_5 (by first | assumption | decide | (show _ < 124; omega) | (show _ < 61; omega) | (show _ < 20; omega)) (rfl) (hp) (ab_ln_lt _ _) ?_
  refine ab_istore6 X 0 1 2 3 4 5 d_MO_leafHolds_6 (by decide) rfl rfl rfl rfl rfl rfl rfl rfl rfl rfl rfl rfl ?_
  refine ab_iload X 0 d_MO_leafHolds_8 rfl ?_
  refine ab_iconst (v := 1) X d_MO_leafHolds_10 (by decide) ?_
  refine ab_icmp_ne X 36 d_MO_leafHolds_11 rfl (fun h11 => ?_) (fun h11 => ?_)
  ·
    refine ab_iload X 0 d_MO_leafHolds_36 rfl ?_
    refine ab_iconst (v := 2) X d_MO_leafHolds_38 (by decide) ?_
    refine ab_icmp_ne X 64 d_MO_leafHolds_39 rfl (fun h39 => ?_) (fun h39 => ?_)
    ·
      refine ab_iload X 0 d_MO_leafHolds_64 rfl ?_
      refine ab_iconst (v := 3) X d_MO_leafHolds_66 (by decide) ?_
      refine ab_icmp_ne X 89 d_MO_leafHolds_67 rfl (fun h67 => ?_) (fun h67 => ?_)
      ·
        refine ab_iload X 6 d_MO_leafHolds_89 rfl ?_
        refine ab_aload_n X 1 d_MO_leafHolds_91 rfl rfl ?_
        refine ab_gR X fl_MO_36 d_MO_leafHolds_92 (by first | assumption | decide | (show _ < 124; omega) | (show _ < 61; omega) | (show _ < 20; omega)) (P0.1.mo8) ?_
        refine ab_iload_n X 2 d_MO_leafHolds_95 rfl rfl ?_
        refine ab_iald X (p1) ⟨rfl, rfl⟩ d_MO_leafHolds_96 (by first | assumption | decide | (show _ < 124; omega) | (show _ < 61; omega) | (show _ < 20; omega)) (rfl) (hp) (ab_ln_lt _ _) ?_
        refine ab_icmp_lt X 104 d_MO_leafHolds_97 rfl (fun h97 => ?_) (fun h97 => ?_)
        ·
          refine ab_iconst (v := 0) X d_MO_leafHolds_104 (by decide) ?_
          exact ab_retz X hr0 hlk (by first | exact Or.inl rfl | exact Or.inr rfl) d_MO_leafHolds_105 ⟨rfl, _, by first | exact Or.inl rfl | exact Or.inr rfl, rfl⟩
        ·
          refine ab_iconst (v := 1) X d_MO_leafHolds_100 (by decide) ?_
          refine ab_goto X 105 d_MO_leafHolds_101 rfl ?_
          exact ab_retz X hr0 hlk (by first | exact Or.inl rfl | exact Or.inr rfl) d_MO_leafHolds_105 ⟨rfl, _, by first | exact Or.inl rfl | exact Or.inr rfl, rfl⟩
      ·
        refine ab_iload X 5 d_MO_leafHolds_70 rfl ?_
        refine ab_aload_n X 1 d_MO_leafHolds_72 rfl rfl ?_
        refine ab_gR X fl_MO_36 d_MO_leafHolds_73 (by first | assumption | decide | (show _ < 124; omega) | (show _ < 61; omega) | (show _ < 20; omega)) (P0.1.mo8) ?_
        refine ab_iload_n X 2 d_MO_leafHolds_76 rfl rfl ?_
        refine ab_iald X (p1) ⟨rfl, rfl⟩ d_MO_leafHolds_77 (by first | assumption | decide | (show _ < 124; omega) | (show _ < 61; omega) | (show _ < 20; omega)) (rfl) (hp) (ab_ln_lt _ _) ?_
        refine ab_icmp_lt X 85 d_MO_leafHolds_78 rfl (fun h78 => ?_) (fun h78 => ?_)
        ·
          refine ab_iconst (v := 0) X d_MO_leafHolds_85 (by decide) ?_
          refine ab_goto X 105 d_MO_leafHolds_86 rfl ?_
          exact ab_retz X hr0 hlk (by first | exact Or.inl rfl | exact Or.inr rfl) d_MO_leafHolds_105 ⟨rfl, _, by first | exact Or.inl rfl | exact Or.inr rfl, rfl⟩
        ·
          refine ab_iconst (v := 1) X d_MO_leafHolds_81 (by decide) ?_
          refine ab_goto X 105 d_MO_leafHolds_82 rfl ?_
          exact ab_retz X hr0 hlk (by first | exact Or.inl rfl | exact Or.inr rfl) d_MO_leafHolds_105 ⟨rfl, _, by first | exact Or.inl rfl | exact Or.inr rfl, rfl⟩
    ·
      refine ab_iload_n X 4 d_MO_leafHolds_42 rfl rfl ?_
      refine ab_aload_n X 1 d_MO_leafHolds_43 rfl rfl ?_
      refine ab_gR X fl_MO_36 d_MO_leafHolds_44 (by first | assumption | decide | (show _ < 124; omega) | (show _ < 61; omega) | (show _ < 20; omega)) (P0.1.mo8) ?_
      refine ab_iload_n X 2 d_MO_leafHolds_47 rfl rfl ?_
      refine ab_iald X (p1) ⟨rfl, rfl⟩ d_MO_leafHolds_48 (by first | assumption | decide | (show _ < 124; omega) | (show _ < 61; omega) | (show _ < 20; omega)) (rfl) (hp) (ab_ln_lt _ _) ?_
      refine ab_ishr X d_MO_leafHolds_49 ?_
      refine ab_iconst (v := 1) X d_MO_leafHolds_50 (by decide) ?_
      refine ab_iand X d_MO_leafHolds_51 ?_
      refine ab_iconst (v := 1) X d_MO_leafHolds_52 (by decide) ?_
      refine ab_icmp_ne X 60 d_MO_leafHolds_53 rfl (fun h53 => ?_) (fun h53 => ?_)
      ·
        refine ab_iconst (v := 0) X d_MO_leafHolds_60 (by decide) ?_
        refine ab_goto X 105 d_MO_leafHolds_61 rfl ?_
        exact ab_retz X hr0 hlk (by first | exact Or.inl rfl | exact Or.inr rfl) d_MO_leafHolds_105 ⟨rfl, _, by first | exact Or.inl rfl | exact Or.inr rfl, rfl⟩
      ·
        refine ab_iconst (v := 1) X d_MO_leafHolds_56 (by decide) ?_
        refine ab_goto X 105 d_MO_leafHolds_57 rfl ?_
        exact ab_retz X hr0 hlk (by first | exact Or.inl rfl | exact Or.inr rfl) d_MO_leafHolds_105 ⟨rfl, _, by first | exact Or.inl rfl | exact Or.inr rfl, rfl⟩
  ·
    refine ab_iload_n X 3 d_MO_leafHolds_14 rfl rfl ?_
    refine ab_aload_n X 1 d_MO_leafHolds_15 rfl rfl ?_
    refine ab_gR X fl_MO_36 d_MO_leafHolds_16 (by first | assumption | decide | (show _ < 124; omega) | (show _ < 61; omega) | (show _ < 20; omega)) (P0.1.mo8) ?_
    refine ab_iload_n X 2 d_MO_leafHolds_19 rfl rfl ?_
    refine ab_iald X (p1) ⟨rfl, rfl⟩ d_MO_leafHolds_20 (by first | assumption | decide | (show _ < 124; omega) | (show _ < 61; omega) | (show _ < 20; omega)) (rfl) (hp) (ab_ln_lt _ _) ?_
    refine ab_ishr X d_MO_leafHolds_21 ?_
    refine ab_iconst (v := 1) X d_MO_leafHolds_22 (by decide) ?_
    refine ab_iand X d_MO_leafHolds_23 ?_
    refine ab_iconst (v := 1) X d_MO_leafHolds_24 (by decide) ?_
    refine ab_icmp_ne X 32 d_MO_leafHolds_25 rfl (fun h25 => ?_) (fun h25 => ?_)
    ·
      refine ab_iconst (v := 0) X d_MO_leafHolds_32 (by decide) ?_
      refine ab_goto X 105 d_MO_leafHolds_33 rfl ?_
      exact ab_retz X hr0 hlk (by first | exact Or.inl rfl | exact Or.inr rfl) d_MO_leafHolds_105 ⟨rfl, _, by first | exact Or.inl rfl | exact Or.inr rfl, rfl⟩
    ·
      refine ab_iconst (v := 1) X d_MO_leafHolds_28 (by decide) ?_
      refine ab_goto X 105 d_MO_leafHolds_29 rfl ?_
      exact ab_retz X hr0 hlk (by first | exact Or.inl rfl | exact Or.inr rfl) d_MO_leafHolds_105 ⟨rfl, _, by first | exact Or.inl rfl | exact Or.inr rfl, rfl⟩
abbrev b_MO_offerThreshold : ByteArray := prog_10_method_43_code
def y_MO_offerThreshold : MethodName := ⟨"PolicyForgeModel", "offerThreshold", "(I)V"⟩
theorem d_MO_offerThreshold_0 : decode b_MO_offerThreshold 0 = .ok (.iconst 0, 1) := by decide +kernel
theorem d_MO_offerThreshold_1 : decode b_MO_offerThreshold 1 = .ok (.istore_n 2, 1) := by decide +kernel
theorem d_MO_offerThreshold_2 : decode b_MO_offerThreshold 2 = .ok (.iload_n 2, 1) := by decide +kernel
theorem d_MO_offerThreshold_3 : decode b_MO_offerThreshold 3 = .ok (.iconst 1, 1) := by decide +kernel
theorem d_MO_offerThreshold_4 : decode b_MO_offerThreshold 4 = .ok (.aload_n 0, 1) := by decide +kernel
theorem d_MO_offerThreshold_5 : decode b_MO_offerThreshold 5 = .ok (.getfield 39, 3) := by decide +kernel
theorem d_MO_offerThreshold_8 : decode b_MO_offerThreshold 8 = .ok (.iload_n 1, 1) := by decide +kernel
theorem d_MO_offerThreshold_9 : decode b_MO_offerThreshold 9 = .ok (.iaload, 1) := by decide +kernel
theorem d_MO_offerThreshold_10 : decode b_MO_offerThreshold 10 = .ok (.ishl, 1) := by decide +kernel
theorem d_MO_offerThreshold_11 : decode b_MO_offerThreshold 11 = .ok (.if_icmp .ge 124, 3) := by decide +kernel
theorem d_MO_offerThreshold_14 : decode b_MO_offerThreshold 14 = .ok (.iconst 0, 1) := by decide +kernel
theorem d_MO_offerThreshold_15 : decode b_MO_offerThreshold 15 = .ok (.istore_n 3, 1) := by decide +kernel
theorem d_MO_offerThreshold_16 : decode b_MO_offerThreshold 16 = .ok (.iconst 0, 1) := by decide +kernel
theorem d_MO_offerThreshold_17 : decode b_MO_offerThreshold 17 = .ok (.istore 4, 2) := by decide +kernel
theorem d_MO_offerThreshold_19 : decode b_MO_offerThreshold 19 = .ok (.iload 4, 2) := by decide +kernel
theorem d_MO_offerThreshold_21 : decode b_MO_offerThreshold 21 = .ok (.aload_n 0, 1) := by decide +kernel
theorem d_MO_offerThreshold_22 : decode b_MO_offerThreshold 22 = .ok (.getfield 39, 3) := by decide +kernel
theorem d_MO_offerThreshold_25 : decode b_MO_offerThreshold 25 = .ok (.iload_n 1, 1) := by decide +kernel
theorem d_MO_offerThreshold_26 : decode b_MO_offerThreshold 26 = .ok (.iaload, 1) := by decide +kernel
theorem d_MO_offerThreshold_27 : decode b_MO_offerThreshold 27 = .ok (.if_icmp .ge 18, 3) := by decide +kernel
theorem d_MO_offerThreshold_30 : decode b_MO_offerThreshold 30 = .ok (.iload_n 3, 1) := by decide +kernel
theorem d_MO_offerThreshold_31 : decode b_MO_offerThreshold 31 = .ok (.iload_n 2, 1) := by decide +kernel
theorem d_MO_offerThreshold_32 : decode b_MO_offerThreshold 32 = .ok (.iload 4, 2) := by decide +kernel
theorem d_MO_offerThreshold_34 : decode b_MO_offerThreshold 34 = .ok (.ishr, 1) := by decide +kernel
theorem d_MO_offerThreshold_35 : decode b_MO_offerThreshold 35 = .ok (.iconst 1, 1) := by decide +kernel
theorem d_MO_offerThreshold_36 : decode b_MO_offerThreshold 36 = .ok (.iand, 1) := by decide +kernel
theorem d_MO_offerThreshold_37 : decode b_MO_offerThreshold 37 = .ok (.iadd, 1) := by decide +kernel
theorem d_MO_offerThreshold_38 : decode b_MO_offerThreshold 38 = .ok (.istore_n 3, 1) := by decide +kernel
theorem d_MO_offerThreshold_39 : decode b_MO_offerThreshold 39 = .ok (.iinc 4 1, 3) := by decide +kernel
theorem d_MO_offerThreshold_42 : decode b_MO_offerThreshold 42 = .ok (.goto (-23), 3) := by decide +kernel
theorem d_MO_offerThreshold_45 : decode b_MO_offerThreshold 45 = .ok (.iload_n 3, 1) := by decide +kernel
theorem d_MO_offerThreshold_46 : decode b_MO_offerThreshold 46 = .ok (.aload_n 0, 1) := by decide +kernel
theorem d_MO_offerThreshold_47 : decode b_MO_offerThreshold 47 = .ok (.getfield 36, 3) := by decide +kernel
theorem d_MO_offerThreshold_50 : decode b_MO_offerThreshold 50 = .ok (.iload_n 1, 1) := by decide +kernel
theorem d_MO_offerThreshold_51 : decode b_MO_offerThreshold 51 = .ok (.iaload, 1) := by decide +kernel
theorem d_MO_offerThreshold_52 : decode b_MO_offerThreshold 52 = .ok (.if_icmp .ne 77, 3) := by decide +kernel
theorem d_MO_offerThreshold_55 : decode b_MO_offerThreshold 55 = .ok (.aload_n 0, 1) := by decide +kernel
theorem d_MO_offerThreshold_56 : decode b_MO_offerThreshold 56 = .ok (.invokevirtual 267, 3) := by decide +kernel
theorem d_MO_offerThreshold_59 : decode b_MO_offerThreshold 59 = .ok (.iconst 0, 1) := by decide +kernel
theorem d_MO_offerThreshold_60 : decode b_MO_offerThreshold 60 = .ok (.istore 4, 2) := by decide +kernel
theorem d_MO_offerThreshold_62 : decode b_MO_offerThreshold 62 = .ok (.iload 4, 2) := by decide +kernel
theorem d_MO_offerThreshold_64 : decode b_MO_offerThreshold 64 = .ok (.aload_n 0, 1) := by decide +kernel
theorem d_MO_offerThreshold_65 : decode b_MO_offerThreshold 65 = .ok (.getfield 39, 3) := by decide +kernel
theorem d_MO_offerThreshold_68 : decode b_MO_offerThreshold 68 = .ok (.iload_n 1, 1) := by decide +kernel
theorem d_MO_offerThreshold_69 : decode b_MO_offerThreshold 69 = .ok (.iaload, 1) := by decide +kernel
theorem d_MO_offerThreshold_70 : decode b_MO_offerThreshold 70 = .ok (.if_icmp .ge 55, 3) := by decide +kernel
theorem d_MO_offerThreshold_73 : decode b_MO_offerThreshold 73 = .ok (.iload_n 2, 1) := by decide +kernel
theorem d_MO_offerThreshold_74 : decode b_MO_offerThreshold 74 = .ok (.iload 4, 2) := by decide +kernel
theorem d_MO_offerThreshold_76 : decode b_MO_offerThreshold 76 = .ok (.ishr, 1) := by decide +kernel
theorem d_MO_offerThreshold_77 : decode b_MO_offerThreshold 77 = .ok (.iconst 1, 1) := by decide +kernel
theorem d_MO_offerThreshold_78 : decode b_MO_offerThreshold 78 = .ok (.iand, 1) := by decide +kernel
theorem d_MO_offerThreshold_79 : decode b_MO_offerThreshold 79 = .ok (.iconst 1, 1) := by decide +kernel
theorem d_MO_offerThreshold_80 : decode b_MO_offerThreshold 80 = .ok (.if_icmp .ne 24, 3) := by decide +kernel
theorem d_MO_offerThreshold_83 : decode b_MO_offerThreshold 83 = .ok (.aload_n 0, 1) := by decide +kernel
theorem d_MO_offerThreshold_84 : decode b_MO_offerThreshold 84 = .ok (.aload_n 0, 1) := by decide +kernel
theorem d_MO_offerThreshold_85 : decode b_MO_offerThreshold 85 = .ok (.getfield 42, 3) := by decide +kernel
theorem d_MO_offerThreshold_88 : decode b_MO_offerThreshold 88 = .ok (.iconst 4, 1) := by decide +kernel
theorem d_MO_offerThreshold_89 : decode b_MO_offerThreshold 89 = .ok (.iload_n 1, 1) := by decide +kernel
theorem d_MO_offerThreshold_90 : decode b_MO_offerThreshold 90 = .ok (.imul, 1) := by decide +kernel
theorem d_MO_offerThreshold_91 : decode b_MO_offerThreshold 91 = .ok (.iload 4, 2) := by decide +kernel
theorem d_MO_offerThreshold_93 : decode b_MO_offerThreshold 93 = .ok (.iadd, 1) := by decide +kernel
theorem d_MO_offerThreshold_94 : decode b_MO_offerThreshold 94 = .ok (.iaload, 1) := by decide +kernel
theorem d_MO_offerThreshold_95 : decode b_MO_offerThreshold 95 = .ok (.invokestatic 195, 3) := by decide +kernel
theorem d_MO_offerThreshold_98 : decode b_MO_offerThreshold 98 = .ok (.invokevirtual 270, 3) := by decide +kernel
theorem d_MO_offerThreshold_101 : decode b_MO_offerThreshold 101 = .ok (.goto 18, 3) := by decide +kernel
theorem d_MO_offerThreshold_104 : decode b_MO_offerThreshold 104 = .ok (.aload_n 0, 1) := by decide +kernel
theorem d_MO_offerThreshold_105 : decode b_MO_offerThreshold 105 = .ok (.aload_n 0, 1) := by decide +kernel
theorem d_MO_offerThreshold_106 : decode b_MO_offerThreshold 106 = .ok (.getfield 42, 3) := by decide +kernel
theorem d_MO_offerThreshold_109 : decode b_MO_offerThreshold 109 = .ok (.iconst 4, 1) := by decide +kernel
theorem d_MO_offerThreshold_110 : decode b_MO_offerThreshold 110 = .ok (.iload_n 1, 1) := by decide +kernel
theorem d_MO_offerThreshold_111 : decode b_MO_offerThreshold 111 = .ok (.imul, 1) := by decide +kernel
theorem d_MO_offerThreshold_112 : decode b_MO_offerThreshold 112 = .ok (.iload 4, 2) := by decide +kernel
theorem d_MO_offerThreshold_114 : decode b_MO_offerThreshold 114 = .ok (.iadd, 1) := by decide +kernel
theorem d_MO_offerThreshold_115 : decode b_MO_offerThreshold 115 = .ok (.iaload, 1) := by decide +kernel
theorem d_MO_offerThreshold_116 : decode b_MO_offerThreshold 116 = .ok (.invokevirtual 276, 3) := by decide +kernel
theorem d_MO_offerThreshold_119 : decode b_MO_offerThreshold 119 = .ok (.iinc 4 1, 3) := by decide +kernel
theorem d_MO_offerThreshold_122 : decode b_MO_offerThreshold 122 = .ok (.goto (-60), 3) := by decide +kernel
theorem d_MO_offerThreshold_125 : decode b_MO_offerThreshold 125 = .ok (.aload_n 0, 1) := by decide +kernel
theorem d_MO_offerThreshold_126 : decode b_MO_offerThreshold 126 = .ok (.invokevirtual 273, 3) := by decide +kernel
theorem d_MO_offerThreshold_129 : decode b_MO_offerThreshold 129 = .ok (.iinc 2 1, 3) := by decide +kernel
theorem d_MO_offerThreshold_132 : decode b_MO_offerThreshold 132 = .ok (.goto (-130), 3) := by decide +kernel
theorem d_MO_offerThreshold_135 : decode b_MO_offerThreshold 135 = .ok (.return_, 1) := by decide +kernel
theorem ls_MO_195 : ab_ls "PolicyForgeModel" 195 y_MO_d b_MO_d 1 (some FieldType.int) 1 := ⟨List.forall_mem_cons.mpr ⟨(ab_in 1132 (by decide +kernel) (by decide +kernel)), List.forall_mem_cons.mpr ⟨(ab_in 1133 (by decide +kernel) (by decide +kernel)), List.forall_mem_cons.mpr ⟨(ab_in 100 (by decide +kernel) (by decide +kernel)), List.forall_mem_cons.mpr ⟨(ab_in 1134 (by decide +kernel) (by decide +kernel)), fun _ h => absurd h List.not_mem_nil⟩⟩⟩⟩, ⟨by decide +kernel, by decide +kernel, by decide +kernel⟩, by decide⟩
set_option maxRecDepth 100000 in
set_option maxHeartbeats 1000000 in
theorem s_MO_offerThreshold (u : ab_S) (P : Nat) (kd ar cn lf : Nat → Nat) (ch : Nat → Nat → Nat) (W : tW P kd ar cn lf ch) (T : tR P kd ar cn ch u) (p1 : Nat) (hp : p1 < P) (hk : kd p1 = 7) (S : sV P lf (p1 + 1) u) (q : Nat) (hq : q ≤ 64) (eb : bl q (u.1 17 0 29)) (h : mR u.2.1) (hqq : 4 * lf p1 - 4 ≤ q) : ab_C false l D ca y_MO_offerThreshold b_MO_offerThreshold 5 none 3 ab_nQ u [ab_O 17 0, ab_I (nI p1)] (fun u' v => (gP [26, 27, 29, 30, 115, 116] u u' ∧ bl q (u'.1 17 0 29)) ∧ v = none) := by
  refine ab_C.of (by decide) (Nat.le_of_ble_eq_true rfl) ?_
  intro p e s m args below meth c ad X hZ hr0 hlk
  have P0 : gP [26, 27, 29, 30, 115, 116] u u := gP.rf h
  obtain ⟨w1, w2, w3⟩ := W
  obtain ⟨-, -, a3⟩ := w3 p1 hp
  obtain ⟨n2, n4, -, -, b5, b6⟩ := a3 (by omega)
  obtain ⟨-, ea, ec, ech⟩ := T.2 p1 hp
  have tw := ci_tw n4
  have hB := sm_lf (fun i => lf (ch p1 i)) (cn p1) (fun i hi => (w3 _ (b5 i hi).2).1.1)
  have outer : ∀ (k c1 : Nat) (u1 : ab_S), k + c1 = 17 → gP [26, 27, 29, 30, 115, 116] u u1 → bl q (u1.1 17 0 29) → ab_J p l e (ab_rm 3 0 0) s m args below meth c (MQ below (ab_Q D ca ad ab_nQ s.heap.size (fun u' v => (gP [26, 27, 29, 30, 115, 116] u u' ∧ bl q (u'.1 17 0 29)) ∧ v = none)) args s 0 0 (ab_A ad ab_nQ s.heap.size)) D ca (ab_A ad ab_nQ s.heap.size) s.heap 5 0 0 ad ab_nQ u1 2 [(2, ab_I (nI c1)), (0, ab_O 17 0), (1, ab_I (nI p1))] [] := by
    intro k
    induction k with
    | zero =>
      intro c1 u1 hc P1 b1
      refine ab_iload_n X 0 d_MO_offerThreshold_2 rfl rfl ?_
      refine ab_iconst (v := 1) X d_MO_offerThreshold_3 (by decide) ?_
      refine ab_aload_n X 1 d_MO_offerThreshold_4 rfl rfl ?_
      refine ab_gR X fl_MO_39 d_MO_offerThreshold_5 (by first | assumption | decide | (show _ < 124; omega) | (show _ < 61; omega) | (show _ < 20; omega)) (P1.1.mo9) ?_
      refine ab_iload_n X 2 d_MO_offerThreshold_8 rfl rfl ?_
      refine ab_iald X (p1) ⟨rfl, rfl⟩ d_MO_offerThreshold_9 (by first | assumption | decide | (show _ < 124; omega) | (show _ < 61; omega) | (show _ < 20; omega)) (rfl) (show p1 < 40 by omega) (ab_ln_lt _ _) ?_
      refine ab_top (P1.ai (by decide) ec) ?_
      refine ab_ishl X d_MO_offerThreshold_10 ?_
      refine ab_top tw.1 ?_
      refine ab_icmp_ge X 135 d_MO_offerThreshold_11 rfl (fun _ => ?_) (fun hb => absurd ((nI_le (by omega) (by omega))) hb)
      exact ab_retv X hr0 hlk d_MO_offerThreshold_135 ⟨⟨P1, b1⟩, rfl⟩
    | succ k ih =>
      intro c1 u1 hc P1 b1
      have in2 : ∀ (k j : Nat) (z : Int32) (u2 : ab_S) (r : Nat), k + j = cn p1 → gP [26, 27, 29, 30, 115, 116] u u2 → bl q (u2.1 17 0 29) → u2.1 17 0 26 = nI r → r ≤ sm (fun i => 4 * lf (ch p1 i) - 2) j → ab_J p l e (ab_rm 3 0 0) s m args below meth c (MQ below (ab_Q D ca ad ab_nQ s.heap.size (fun u' v => (gP [26, 27, 29, 30, 115, 116] u u' ∧ bl q (u'.1 17 0 29)) ∧ v = none)) args s 0 0 (ab_A ad ab_nQ s.heap.size)) D ca (ab_A ad ab_nQ s.heap.size) s.heap 5 0 0 ad ab_nQ u2 62 [(4, ab_I (nI j)), (3, ab_I z), (2, ab_I (nI c1)), (0, ab_O 17 0), (1, ab_I (nI p1))] [] := by
        intro k
        induction k with
        | zero =>
          intro j z u2 r hj P2 b2 er hr
          obtain rfl : j = cn p1 := by omega
          refine ab_iload X 0 d_MO_offerThreshold_62 rfl ?_
          refine ab_aload_n X 3 d_MO_offerThreshold_64 rfl rfl ?_
          refine ab_gR X fl_MO_39 d_MO_offerThreshold_65 (by first | assumption | decide | (show _ < 124; omega) | (show _ < 61; omega) | (show _ < 20; omega)) (P2.1.mo9) ?_
          refine ab_iload_n X 4 d_MO_offerThreshold_68 rfl rfl ?_
          refine ab_iald X (p1) ⟨rfl, rfl⟩ d_MO_offerThreshold_69 (by first | assumption | decide | (show _ < 124; omega) | (show _ < 61; omega) | (show _ < 20; omega)) (rfl) (show p1 < 40 by omega) (ab_ln_lt _ _) ?_
          refine ab_top (P2.ai (by decide) ec) ?_
          refine ab_icmp_ge X 125 d_MO_offerThreshold_70 rfl (fun _ => ?_) (fun hb => absurd ((nI_le (by omega) (by omega))) hb)
          refine ab_aload_n X 3 d_MO_offerThreshold_125 rfl rfl ?_
          refine ab_callV (as := []) X (fun h => by cases h) (s_MO_offer u2 q r P2.1 er (by omega) hq b2) lk_MO_273 d_MO_offerThreshold_126 rfl rfl (by first | assumption | decide | (show _ < 124; omega) | (show _ < 61; omega) | (show _ < 20; omega)) ⟨by first | exact Nat.le_of_ble_eq_true rfl | (simp only [ab_rm]; omega), by first | exact Nat.le_of_ble_eq_true rfl | (simp only [ab_rm]; omega)⟩ ⟨by first | exact Nat.le_of_ble_eq_true rfl | (simp only [ab_rm]; omega), by first | exact Nat.le_of_ble_eq_true rfl | (simp only [ab_rm]; omega)⟩ (Nat.le_of_ble_eq_true rfl) (fun u126 r126 h126 => ?_)
          obtain ⟨⟨q126, b126⟩, rfl⟩ := h126
          have P126 := P2.trans q126 (by decide)
          refine ab_iinc4 X 2 0 1 3 4 d_MO_offerThreshold_129 rfl (by decide) rfl rfl rfl rfl rfl rfl rfl rfl ?_
          refine ab_goto X 2 d_MO_offerThreshold_132 rfl ?_
          refine ab_lv (List.forall_mem_cons.mpr ⟨List.mem_of_getElem? (i := 0) rfl, List.forall_mem_cons.mpr ⟨List.mem_of_getElem? (i := 3) rfl, List.forall_mem_cons.mpr ⟨List.mem_of_getElem? (i := 4) rfl, fun _ h => absurd h List.not_mem_nil⟩⟩⟩) ?_
          rw [show nI c1 + Int32.ofInt 1 = nI (c1 + 1) from nI_1 c1]
          exact ih (c1 + 1) _ (by omega) P126 b126
        | succ k ih2 =>
          intro j z u2 r hj P2 b2 er hr
          obtain ⟨c1', c2⟩ := b5 j (by omega)
          obtain ⟨⟨m, hm, em⟩, -, sD, -⟩ := S (ch p1 j) (by omega) c2
          obtain ⟨l1, l2, -⟩ := (w3 _ c2).1
          have hs : sm (fun i => 4 * lf (ch p1 i) - 2) (j + 1) = sm (fun i => 4 * lf (ch p1 i) - 2) j + (4 * lf (ch p1 j) - 2) := rfl
          have hs2 := sm_mono (fun i => 4 * lf (ch p1 i) - 2) (show j + 1 ≤ cn p1 by omega)
          refine ab_iload X 0 d_MO_offerThreshold_62 rfl ?_
          refine ab_aload_n X 3 d_MO_offerThreshold_64 rfl rfl ?_
          refine ab_gR X fl_MO_39 d_MO_offerThreshold_65 (by first | assumption | decide | (show _ < 124; omega) | (show _ < 61; omega) | (show _ < 20; omega)) (P2.1.mo9) ?_
          refine ab_iload_n X 4 d_MO_offerThreshold_68 rfl rfl ?_
          refine ab_iald X (p1) ⟨rfl, rfl⟩ d_MO_offerThreshold_69 (by first | assumption | decide | (show _ < 124; omega) | (show _ < 61; omega) | (show _ < 20; omega)) (rfl) (show p1 < 40 by omega) (ab_ln_lt _ _) ?_
          refine ab_top (P2.ai (by decide) ec) ?_
          refine ab_icmp_ge X 125 d_MO_offerThreshold_70 rfl (fun hb => absurd hb ((nI_ge (by omega) (by omega)))) (fun _ => ?_)
          refine ab_iload_n X 2 d_MO_offerThreshold_73 rfl rfl ?_
          refine ab_iload X 0 d_MO_offerThreshold_74 rfl ?_
          refine ab_ishr X d_MO_offerThreshold_76 ?_
          refine ab_iconst (v := 1) X d_MO_offerThreshold_77 (by decide) ?_
          refine ab_iand X d_MO_offerThreshold_78 ?_
          refine ab_iconst (v := 1) X d_MO_offerThreshold_79 (by decide) ?_
          refine ab_icmp_ne X 104 d_MO_offerThreshold_80 rfl (fun h80 => ?_) (fun h80 => ?_)
          ·
            refine ab_aload_n X 3 d_MO_offerThreshold_104 rfl rfl ?_
            refine ab_aload_n X 3 d_MO_offerThreshold_105 rfl rfl ?_
            refine ab_gR X fl_MO_42 d_MO_offerThreshold_106 (by first | assumption | decide | (show _ < 124; omega) | (show _ < 61; omega) | (show _ < 20; omega)) (P2.1.mo10) ?_
            refine ab_iconst (v := 4) X d_MO_offerThreshold_109 (by decide) ?_
            refine ab_iload_n X 4 d_MO_offerThreshold_110 rfl rfl ?_
            refine ab_imul X d_MO_offerThreshold_111 ?_
            refine ab_iload X 0 d_MO_offerThreshold_112 rfl ?_
            refine ab_iadd X d_MO_offerThreshold_114 ?_
            refine ab_iald X (4 * p1 + j) ⟨rfl, rfl⟩ d_MO_offerThreshold_115 (by first | assumption | decide | (show _ < 124; omega) | (show _ < 61; omega) | (show _ < 20; omega)) (nI_4a p1 j) (show 4 * p1 + j < 160 by omega) (ab_ln_lt _ _) ?_
            refine ab_top (P2.ai (by decide) (ech j (by omega))) ?_
            refine ab_callV (as := [ab_I (nI (ch p1 j))]) X (fun h => by cases h) (s_MO_no u2 (ch p1 j) m r P2.1 (by omega) (P2.ai (by decide) em) (by omega) er (by omega)) lk_MO_276 d_MO_offerThreshold_116 rfl rfl (by first | assumption | decide | (show _ < 124; omega) | (show _ < 61; omega) | (show _ < 20; omega)) ⟨by first | exact Nat.le_of_ble_eq_true rfl | (simp only [ab_rm]; omega), by first | exact Nat.le_of_ble_eq_true rfl | (simp only [ab_rm]; omega)⟩ ⟨by first | exact Nat.le_of_ble_eq_true rfl | (simp only [ab_rm]; omega), by first | exact Nat.le_of_ble_eq_true rfl | (simp only [ab_rm]; omega)⟩ (Nat.le_of_ble_eq_true rfl) (fun u116 r116 h116 => ?_)
            obtain ⟨⟨q116, er116⟩, rfl⟩ := h116
            have P116 := P2.trans q116 (by decide)
            refine ab_iinc4 X 0 1 2 3 4 d_MO_offerThreshold_119 rfl (by decide) rfl rfl rfl rfl rfl rfl rfl rfl ?_
            refine ab_goto X 62 d_MO_offerThreshold_122 rfl ?_
            rw [show nI j + Int32.ofInt 1 = nI (j + 1) from nI_1 j]
            first | exact ih2 (j + 1) _ _ r98 (by omega) P116 (by rw [q98.fi (by decide) rfl]; exact b2) er98 (by omega) | exact ih2 (j + 1) _ _ (r + m) (by omega) P116 (by rw [q116.fi (by decide) rfl]; exact b2) er116 (by omega)
          ·
            refine ab_aload_n X 3 d_MO_offerThreshold_83 rfl rfl ?_
            refine ab_aload_n X 3 d_MO_offerThreshold_84 rfl rfl ?_
            refine ab_gR X fl_MO_42 d_MO_offerThreshold_85 (by first | assumption | decide | (show _ < 124; omega) | (show _ < 61; omega) | (show _ < 20; omega)) (P2.1.mo10) ?_
            refine ab_iconst (v := 4) X d_MO_offerThreshold_88 (by decide) ?_
            refine ab_iload_n X 4 d_MO_offerThreshold_89 rfl rfl ?_
            refine ab_imul X d_MO_offerThreshold_90 ?_
            refine ab_iload X 0 d_MO_offerThreshold_91 rfl ?_
            refine ab_iadd X d_MO_offerThreshold_93 ?_
            refine ab_iald X (4 * p1 + j) ⟨rfl, rfl⟩ d_MO_offerThreshold_94 (by first | assumption | decide | (show _ < 124; omega) | (show _ < 61; omega) | (show _ < 20; omega)) (nI_4a p1 j) (show 4 * p1 + j < 160 by omega) (ab_ln_lt _ _) ?_
            refine ab_top (P2.ai (by decide) (ech j (by omega))) ?_
            refine ab_callS (as := [ab_I (nI (ch p1 j))]) X (fun h => by cases h) (t_MO_d u2 (ch p1 j)) ls_MO_195 d_MO_offerThreshold_95 rfl rfl ⟨by first | exact Nat.le_of_ble_eq_true rfl | (simp only [ab_rm]; omega), by first | exact Nat.le_of_ble_eq_true rfl | (simp only [ab_rm]; omega)⟩ ⟨by first | exact Nat.le_of_ble_eq_true rfl | (simp only [ab_rm]; omega), by first | exact Nat.le_of_ble_eq_true rfl | (simp only [ab_rm]; omega)⟩ (Nat.le_of_ble_eq_true rfl) (fun u95 r95 h95 => ?_)
            obtain ⟨e95, rfl⟩ := h95
            subst u95
            refine ab_callV (as := [ab_I (nI (3 * ch p1 j + 1))]) X (fun h => by cases h) (s_MO_yes u2 (3 * ch p1 j + 1) (4 * lf (ch p1 j) - 2) r P2.1 (by omega) (by rw [P2.ai (by decide) rfl]; exact sD) (by omega) er (by omega)) lk_MO_270 d_MO_offerThreshold_98 rfl rfl (by first | assumption | decide | (show _ < 124; omega) | (show _ < 61; omega) | (show _ < 20; omega)) ⟨by first | exact Nat.le_of_ble_eq_true rfl | (simp only [ab_rm]; omega), by first | exact Nat.le_of_ble_eq_true rfl | (simp only [ab_rm]; omega)⟩ ⟨by first | exact Nat.le_of_ble_eq_true rfl | (simp only [ab_rm]; omega), by first | exact Nat.le_of_ble_eq_true rfl | (simp only [ab_rm]; omega)⟩ (Nat.le_of_ble_eq_true rfl) (fun u98 r98 h98 => ?_)
            obtain ⟨⟨q98, r98, hr98, er98⟩, rfl⟩ := h98
            have P98 := P2.trans q98 (by decide)
            refine ab_goto X 119 d_MO_offerThreshold_101 rfl ?_
            refine ab_iinc4 X 0 1 2 3 4 d_MO_offerThreshold_119 rfl (by decide) rfl rfl rfl rfl rfl rfl rfl rfl ?_
            refine ab_goto X 62 d_MO_offerThreshold_122 rfl ?_
            rw [show nI j + Int32.ofInt 1 = nI (j + 1) from nI_1 j]
            first | exact ih2 (j + 1) _ _ r98 (by omega) P98 (by rw [q98.fi (by decide) rfl]; exact b2) er98 (by omega) | exact ih2 (j + 1) _ _ (r + m) (by omega) P98 (by rw [q116.fi (by decide) rfl]; exact b2) er116 (by omega)
      have in1 : ∀ (k j : Nat) (z : Int32), k + j = cn p1 → ab_J p l e (ab_rm 3 0 0) s m args below meth c (MQ below (ab_Q D ca ad ab_nQ s.heap.size (fun u' v => (gP [26, 27, 29, 30, 115, 116] u u' ∧ bl q (u'.1 17 0 29)) ∧ v = none)) args s 0 0 (ab_A ad ab_nQ s.heap.size)) D ca (ab_A ad ab_nQ s.heap.size) s.heap 5 0 0 ad ab_nQ u1 19 [(4, ab_I (nI j)), (3, ab_I z), (2, ab_I (nI c1)), (0, ab_O 17 0), (1, ab_I (nI p1))] [] := by
        intro k
        induction k with
        | zero =>
          intro j z hj
          refine ab_iload X 0 d_MO_offerThreshold_19 rfl ?_
          refine ab_aload_n X 3 d_MO_offerThreshold_21 rfl rfl ?_
          refine ab_gR X fl_MO_39 d_MO_offerThreshold_22 (by first | assumption | decide | (show _ < 124; omega) | (show _ < 61; omega) | (show _ < 20; omega)) (P1.1.mo9) ?_
          refine ab_iload_n X 4 d_MO_offerThreshold_25 rfl rfl ?_
          refine ab_iald X (p1) ⟨rfl, rfl⟩ d_MO_offerThreshold_26 (by first | assumption | decide | (show _ < 124; omega) | (show _ < 61; omega) | (show _ < 20; omega)) (rfl) (show p1 < 40 by omega) (ab_ln_lt _ _) ?_
          refine ab_top (P1.ai (by decide) ec) ?_
          refine ab_icmp_ge X 45 d_MO_offerThreshold_27 rfl (fun _ => ?_) (fun hb => absurd ((nI_le (by omega) (by omega))) hb)
          refine ab_iload_n X 1 d_MO_offerThreshold_45 rfl rfl ?_
          refine ab_aload_n X 3 d_MO_offerThreshold_46 rfl rfl ?_
          refine ab_gR X fl_MO_36 d_MO_offerThreshold_47 (by first | assumption | decide | (show _ < 124; omega) | (show _ < 61; omega) | (show _ < 20; omega)) (P1.1.mo8) ?_
          refine ab_iload_n X 4 d_MO_offerThreshold_50 rfl rfl ?_
          refine ab_iald X (p1) ⟨rfl, rfl⟩ d_MO_offerThreshold_51 (by first | assumption | decide | (show _ < 124; omega) | (show _ < 61; omega) | (show _ < 20; omega)) (rfl) (show p1 < 40 by omega) (ab_ln_lt _ _) ?_
          refine ab_icmp_ne X 129 d_MO_offerThreshold_52 rfl (fun h52 => ?_) (fun h52 => ?_)
          ·
            refine ab_iinc4 X 2 0 1 3 4 d_MO_offerThreshold_129 rfl (by decide) rfl rfl rfl rfl rfl rfl rfl rfl ?_
            refine ab_goto X 2 d_MO_offerThreshold_132 rfl ?_
            refine ab_lv (List.forall_mem_cons.mpr ⟨List.mem_of_getElem? (i := 0) rfl, List.forall_mem_cons.mpr ⟨List.mem_of_getElem? (i := 3) rfl, List.forall_mem_cons.mpr ⟨List.mem_of_getElem? (i := 4) rfl, fun _ h => absurd h List.not_mem_nil⟩⟩⟩) ?_
            rw [show nI c1 + Int32.ofInt 1 = nI (c1 + 1) from nI_1 c1]
            exact ih (c1 + 1) _ (by omega) P1 b1
          ·
            refine ab_aload_n X 3 d_MO_offerThreshold_55 rfl rfl ?_
            refine ab_callV (as := []) X (fun h => by cases h) (s_MO_newRow u1 P1.1) lk_MO_267 d_MO_offerThreshold_56 rfl rfl (by first | assumption | decide | (show _ < 124; omega) | (show _ < 61; omega) | (show _ < 20; omega)) ⟨by first | exact Nat.le_of_ble_eq_true rfl | (simp only [ab_rm]; omega), by first | exact Nat.le_of_ble_eq_true rfl | (simp only [ab_rm]; omega)⟩ ⟨by first | exact Nat.le_of_ble_eq_true rfl | (simp only [ab_rm]; omega), by first | exact Nat.le_of_ble_eq_true rfl | (simp only [ab_rm]; omega)⟩ (Nat.le_of_ble_eq_true rfl) (fun u56 r56 h56 => ?_)
            obtain ⟨⟨q56, r56⟩, rfl⟩ := h56
            have P56 := P1.trans q56 (by decide)
            refine ab_iconst (v := 0) X d_MO_offerThreshold_59 (by decide) ?_
            refine ab_istore4 X 1 2 3 4 d_MO_offerThreshold_60 (by decide) rfl rfl rfl rfl rfl rfl rfl rfl ?_
            exact in2 (cn p1) 0 _ _ 0 (by omega) P56 (by rw [q56.fi (by decide) rfl]; exact b1) r56 (Nat.zero_le _)
        | succ k ih2 =>
          intro j z hj
          refine ab_iload X 0 d_MO_offerThreshold_19 rfl ?_
          refine ab_aload_n X 3 d_MO_offerThreshold_21 rfl rfl ?_
          refine ab_gR X fl_MO_39 d_MO_offerThreshold_22 (by first | assumption | decide | (show _ < 124; omega) | (show _ < 61; omega) | (show _ < 20; omega)) (P1.1.mo9) ?_
          refine ab_iload_n X 4 d_MO_offerThreshold_25 rfl rfl ?_
          refine ab_iald X (p1) ⟨rfl, rfl⟩ d_MO_offerThreshold_26 (by first | assumption | decide | (show _ < 124; omega) | (show _ < 61; omega) | (show _ < 20; omega)) (rfl) (show p1 < 40 by omega) (ab_ln_lt _ _) ?_
          refine ab_top (P1.ai (by decide) ec) ?_
          refine ab_icmp_ge X 45 d_MO_offerThreshold_27 rfl (fun hb => absurd hb ((nI_ge (by omega) (by omega)))) (fun _ => ?_)
          refine ab_iload_n X 1 d_MO_offerThreshold_30 rfl rfl ?_
          refine ab_iload_n X 2 d_MO_offerThreshold_31 rfl rfl ?_
          refine ab_iload X 0 d_MO_offerThreshold_32 rfl ?_
          refine ab_ishr X d_MO_offerThreshold_34 ?_
          refine ab_iconst (v := 1) X d_MO_offerThreshold_35 (by decide) ?_
          refine ab_iand X d_MO_offerThreshold_36 ?_
          refine ab_iadd X d_MO_offerThreshold_37 ?_
          refine ab_istore_n4 X 0 2 3 4 d_MO_offerThreshold_38 rfl (by decide) rfl rfl rfl rfl rfl rfl rfl rfl ?_
          refine ab_iinc4 X 1 0 2 3 4 d_MO_offerThreshold_39 rfl (by decide) rfl rfl rfl rfl rfl rfl rfl rfl ?_
          refine ab_goto X 19 d_MO_offerThreshold_42 rfl ?_
          rw [show nI j + Int32.ofInt 1 = nI (j + 1) from nI_1 j]
          exact ih2 (j + 1) _ (by omega)
      refine ab_iload_n X 0 d_MO_offerThreshold_2 rfl rfl ?_
      refine ab_iconst (v := 1) X d_MO_offerThreshold_3 (by decide) ?_
      refine ab_aload_n X 1 d_MO_offerThreshold_4 rfl rfl ?_
      refine ab_gR X fl_MO_39 d_MO_offerThreshold_5 (by first | assumption | decide | (show _ < 124; omega) | (show _ < 61; omega) | (show _ < 20; omega)) (P1.1.mo9) ?_
      refine ab_iload_n X 2 d_MO_offerThreshold_8 rfl rfl ?_
      refine ab_iald X (p1) ⟨rfl, rfl⟩ d_MO_offerThreshold_9 (by first | assumption | decide | (show _ < 124; omega) | (show _ < 61; omega) | (show _ < 20; omega)) (rfl) (show p1 < 40 by omega) (ab_ln_lt _ _) ?_
      refine ab_top (P1.ai (by decide) ec) ?_
      refine ab_ishl X d_MO_offerThreshold_10 ?_
      refine ab_top tw.1 ?_
      refine ab_icmp_ge X 135 d_MO_offerThreshold_11 rfl (fun h11 => ?_) (fun h11 => ?_)
      ·
        exact ab_retv X hr0 hlk d_MO_offerThreshold_135 ⟨⟨P1, b1⟩, rfl⟩
      ·
        refine ab_iconst (v := 0) X d_MO_offerThreshold_14 (by decide) ?_
        refine ab_istore_n3 X 0 1 2 d_MO_offerThreshold_15 rfl (by decide) rfl rfl rfl rfl rfl rfl ?_
        refine ab_iconst (v := 0) X d_MO_offerThreshold_16 (by decide) ?_
        refine ab_istore4 X 0 1 2 3 d_MO_offerThreshold_17 (by decide) rfl rfl rfl rfl rfl rfl rfl rfl ?_
        exact in1 (cn p1) 0 _ (by omega)
  refine ab_iconst (v := 0) X d_MO_offerThreshold_0 (by decide) ?_
  refine ab_istore_n2 X 0 1 d_MO_offerThreshold_1 rfl (by decide) rfl rfl rfl rfl ?_
  exact outer 17 0 _ rfl P0 eb
abbrev b_MO_satisfiedMore : ByteArray := prog_10_method_46_code
def y_MO_satisfiedMore : MethodName := ⟨"PolicyForgeModel", "satisfiedMore", "(IIII)V"⟩
theorem d_MO_satisfiedMore_0 : decode b_MO_satisfiedMore 0 = .ok (.iload_n 2, 1) := by decide +kernel
theorem d_MO_satisfiedMore_1 : decode b_MO_satisfiedMore 1 = .ok (.bipush 13, 2) := by decide +kernel
theorem d_MO_satisfiedMore_3 : decode b_MO_satisfiedMore 3 = .ok (.if_icmp .ne 16, 3) := by decide +kernel
theorem d_MO_satisfiedMore_6 : decode b_MO_satisfiedMore 6 = .ok (.aload_n 0, 1) := by decide +kernel
theorem d_MO_satisfiedMore_7 : decode b_MO_satisfiedMore 7 = .ok (.iload_n 3, 1) := by decide +kernel
theorem d_MO_satisfiedMore_8 : decode b_MO_satisfiedMore 8 = .ok (.invokestatic 201, 3) := by decide +kernel
theorem d_MO_satisfiedMore_11 : decode b_MO_satisfiedMore 11 = .ok (.iload 4, 2) := by decide +kernel
theorem d_MO_satisfiedMore_13 : decode b_MO_satisfiedMore 13 = .ok (.invokestatic 204, 3) := by decide +kernel
theorem d_MO_satisfiedMore_16 : decode b_MO_satisfiedMore 16 = .ok (.invokevirtual 279, 3) := by decide +kernel
theorem d_MO_satisfiedMore_19 : decode b_MO_satisfiedMore 19 = .ok (.iload_n 2, 1) := by decide +kernel
theorem d_MO_satisfiedMore_20 : decode b_MO_satisfiedMore 20 = .ok (.bipush 14, 2) := by decide +kernel
theorem d_MO_satisfiedMore_22 : decode b_MO_satisfiedMore 22 = .ok (.if_icmp .ne 16, 3) := by decide +kernel
theorem d_MO_satisfiedMore_25 : decode b_MO_satisfiedMore 25 = .ok (.aload_n 0, 1) := by decide +kernel
theorem d_MO_satisfiedMore_26 : decode b_MO_satisfiedMore 26 = .ok (.iload 4, 2) := by decide +kernel
theorem d_MO_satisfiedMore_28 : decode b_MO_satisfiedMore 28 = .ok (.invokestatic 201, 3) := by decide +kernel
theorem d_MO_satisfiedMore_31 : decode b_MO_satisfiedMore 31 = .ok (.iload_n 3, 1) := by decide +kernel
theorem d_MO_satisfiedMore_32 : decode b_MO_satisfiedMore 32 = .ok (.invokestatic 204, 3) := by decide +kernel
theorem d_MO_satisfiedMore_35 : decode b_MO_satisfiedMore 35 = .ok (.invokevirtual 279, 3) := by decide +kernel
theorem d_MO_satisfiedMore_38 : decode b_MO_satisfiedMore 38 = .ok (.iload_n 2, 1) := by decide +kernel
theorem d_MO_satisfiedMore_39 : decode b_MO_satisfiedMore 39 = .ok (.bipush 15, 2) := by decide +kernel
theorem d_MO_satisfiedMore_41 : decode b_MO_satisfiedMore 41 = .ok (.if_icmp .ne 17, 3) := by decide +kernel
theorem d_MO_satisfiedMore_44 : decode b_MO_satisfiedMore 44 = .ok (.aload_n 0, 1) := by decide +kernel
theorem d_MO_satisfiedMore_45 : decode b_MO_satisfiedMore 45 = .ok (.iload_n 3, 1) := by decide +kernel
theorem d_MO_satisfiedMore_46 : decode b_MO_satisfiedMore 46 = .ok (.invokestatic 195, 3) := by decide +kernel
theorem d_MO_satisfiedMore_49 : decode b_MO_satisfiedMore 49 = .ok (.iload_n 3, 1) := by decide +kernel
theorem d_MO_satisfiedMore_50 : decode b_MO_satisfiedMore 50 = .ok (.iload 4, 2) := by decide +kernel
theorem d_MO_satisfiedMore_52 : decode b_MO_satisfiedMore 52 = .ok (.invokestatic 204, 3) := by decide +kernel
theorem d_MO_satisfiedMore_55 : decode b_MO_satisfiedMore 55 = .ok (.invokevirtual 282, 3) := by decide +kernel
theorem d_MO_satisfiedMore_58 : decode b_MO_satisfiedMore 58 = .ok (.iload_n 2, 1) := by decide +kernel
theorem d_MO_satisfiedMore_59 : decode b_MO_satisfiedMore 59 = .ok (.bipush 16, 2) := by decide +kernel
theorem d_MO_satisfiedMore_61 : decode b_MO_satisfiedMore 61 = .ok (.if_icmp .ne 18, 3) := by decide +kernel
theorem d_MO_satisfiedMore_64 : decode b_MO_satisfiedMore 64 = .ok (.aload_n 0, 1) := by decide +kernel
theorem d_MO_satisfiedMore_65 : decode b_MO_satisfiedMore 65 = .ok (.iload 4, 2) := by decide +kernel
theorem d_MO_satisfiedMore_67 : decode b_MO_satisfiedMore 67 = .ok (.invokestatic 195, 3) := by decide +kernel
theorem d_MO_satisfiedMore_70 : decode b_MO_satisfiedMore 70 = .ok (.iload 4, 2) := by decide +kernel
theorem d_MO_satisfiedMore_72 : decode b_MO_satisfiedMore 72 = .ok (.iload_n 3, 1) := by decide +kernel
theorem d_MO_satisfiedMore_73 : decode b_MO_satisfiedMore 73 = .ok (.invokestatic 204, 3) := by decide +kernel
theorem d_MO_satisfiedMore_76 : decode b_MO_satisfiedMore 76 = .ok (.invokevirtual 282, 3) := by decide +kernel
theorem d_MO_satisfiedMore_79 : decode b_MO_satisfiedMore 79 = .ok (.iload_n 2, 1) := by decide +kernel
theorem d_MO_satisfiedMore_80 : decode b_MO_satisfiedMore 80 = .ok (.bipush 17, 2) := by decide +kernel
theorem d_MO_satisfiedMore_82 : decode b_MO_satisfiedMore 82 = .ok (.if_icmp .ne 16, 3) := by decide +kernel
theorem d_MO_satisfiedMore_85 : decode b_MO_satisfiedMore 85 = .ok (.aload_n 0, 1) := by decide +kernel
theorem d_MO_satisfiedMore_86 : decode b_MO_satisfiedMore 86 = .ok (.iload_n 3, 1) := by decide +kernel
theorem d_MO_satisfiedMore_87 : decode b_MO_satisfiedMore 87 = .ok (.invokestatic 204, 3) := by decide +kernel
theorem d_MO_satisfiedMore_90 : decode b_MO_satisfiedMore 90 = .ok (.iload 4, 2) := by decide +kernel
theorem d_MO_satisfiedMore_92 : decode b_MO_satisfiedMore 92 = .ok (.invokestatic 204, 3) := by decide +kernel
theorem d_MO_satisfiedMore_95 : decode b_MO_satisfiedMore 95 = .ok (.invokevirtual 285, 3) := by decide +kernel
theorem d_MO_satisfiedMore_98 : decode b_MO_satisfiedMore 98 = .ok (.iload_n 2, 1) := by decide +kernel
theorem d_MO_satisfiedMore_99 : decode b_MO_satisfiedMore 99 = .ok (.bipush 18, 2) := by decide +kernel
theorem d_MO_satisfiedMore_101 : decode b_MO_satisfiedMore 101 = .ok (.if_icmp .ne 75, 3) := by decide +kernel
theorem d_MO_satisfiedMore_104 : decode b_MO_satisfiedMore 104 = .ok (.iconst 0, 1) := by decide +kernel
theorem d_MO_satisfiedMore_105 : decode b_MO_satisfiedMore 105 = .ok (.istore 5, 2) := by decide +kernel
theorem d_MO_satisfiedMore_107 : decode b_MO_satisfiedMore 107 = .ok (.iload 5, 2) := by decide +kernel
theorem d_MO_satisfiedMore_109 : decode b_MO_satisfiedMore 109 = .ok (.aload_n 0, 1) := by decide +kernel
theorem d_MO_satisfiedMore_110 : decode b_MO_satisfiedMore 110 = .ok (.getfield 39, 3) := by decide +kernel
theorem d_MO_satisfiedMore_113 : decode b_MO_satisfiedMore 113 = .ok (.iload_n 1, 1) := by decide +kernel
theorem d_MO_satisfiedMore_114 : decode b_MO_satisfiedMore 114 = .ok (.iaload, 1) := by decide +kernel
theorem d_MO_satisfiedMore_115 : decode b_MO_satisfiedMore 115 = .ok (.if_icmp .ge 57, 3) := by decide +kernel
theorem d_MO_satisfiedMore_118 : decode b_MO_satisfiedMore 118 = .ok (.aload_n 0, 1) := by decide +kernel
theorem d_MO_satisfiedMore_119 : decode b_MO_satisfiedMore 119 = .ok (.iload 5, 2) := by decide +kernel
theorem d_MO_satisfiedMore_121 : decode b_MO_satisfiedMore 121 = .ok (.iconst 1, 1) := by decide +kernel
theorem d_MO_satisfiedMore_122 : decode b_MO_satisfiedMore 122 = .ok (.iadd, 1) := by decide +kernel
theorem d_MO_satisfiedMore_123 : decode b_MO_satisfiedMore 123 = .ok (.aload_n 0, 1) := by decide +kernel
theorem d_MO_satisfiedMore_124 : decode b_MO_satisfiedMore 124 = .ok (.getfield 39, 3) := by decide +kernel
theorem d_MO_satisfiedMore_127 : decode b_MO_satisfiedMore 127 = .ok (.iload_n 1, 1) := by decide +kernel
theorem d_MO_satisfiedMore_128 : decode b_MO_satisfiedMore 128 = .ok (.iaload, 1) := by decide +kernel
theorem d_MO_satisfiedMore_129 : decode b_MO_satisfiedMore 129 = .ok (.if_icmp .ge 20, 3) := by decide +kernel
theorem d_MO_satisfiedMore_132 : decode b_MO_satisfiedMore 132 = .ok (.aload_n 0, 1) := by decide +kernel
theorem d_MO_satisfiedMore_133 : decode b_MO_satisfiedMore 133 = .ok (.getfield 42, 3) := by decide +kernel
theorem d_MO_satisfiedMore_136 : decode b_MO_satisfiedMore 136 = .ok (.iconst 4, 1) := by decide +kernel
theorem d_MO_satisfiedMore_137 : decode b_MO_satisfiedMore 137 = .ok (.iload_n 1, 1) := by decide +kernel
theorem d_MO_satisfiedMore_138 : decode b_MO_satisfiedMore 138 = .ok (.imul, 1) := by decide +kernel
theorem d_MO_satisfiedMore_139 : decode b_MO_satisfiedMore 139 = .ok (.iload 5, 2) := by decide +kernel
theorem d_MO_satisfiedMore_141 : decode b_MO_satisfiedMore 141 = .ok (.iadd, 1) := by decide +kernel
theorem d_MO_satisfiedMore_142 : decode b_MO_satisfiedMore 142 = .ok (.iaload, 1) := by decide +kernel
theorem d_MO_satisfiedMore_143 : decode b_MO_satisfiedMore 143 = .ok (.invokestatic 201, 3) := by decide +kernel
theorem d_MO_satisfiedMore_146 : decode b_MO_satisfiedMore 146 = .ok (.goto 17, 3) := by decide +kernel
theorem d_MO_satisfiedMore_149 : decode b_MO_satisfiedMore 149 = .ok (.aload_n 0, 1) := by decide +kernel
theorem d_MO_satisfiedMore_150 : decode b_MO_satisfiedMore 150 = .ok (.getfield 42, 3) := by decide +kernel
theorem d_MO_satisfiedMore_153 : decode b_MO_satisfiedMore 153 = .ok (.iconst 4, 1) := by decide +kernel
theorem d_MO_satisfiedMore_154 : decode b_MO_satisfiedMore 154 = .ok (.iload_n 1, 1) := by decide +kernel
theorem d_MO_satisfiedMore_155 : decode b_MO_satisfiedMore 155 = .ok (.imul, 1) := by decide +kernel
theorem d_MO_satisfiedMore_156 : decode b_MO_satisfiedMore 156 = .ok (.iload 5, 2) := by decide +kernel
theorem d_MO_satisfiedMore_158 : decode b_MO_satisfiedMore 158 = .ok (.iadd, 1) := by decide +kernel
theorem d_MO_satisfiedMore_159 : decode b_MO_satisfiedMore 159 = .ok (.iaload, 1) := by decide +kernel
theorem d_MO_satisfiedMore_160 : decode b_MO_satisfiedMore 160 = .ok (.invokestatic 204, 3) := by decide +kernel
theorem d_MO_satisfiedMore_163 : decode b_MO_satisfiedMore 163 = .ok (.invokevirtual 270, 3) := by decide +kernel
theorem d_MO_satisfiedMore_166 : decode b_MO_satisfiedMore 166 = .ok (.iinc 5 1, 3) := by decide +kernel
theorem d_MO_satisfiedMore_169 : decode b_MO_satisfiedMore 169 = .ok (.goto (-62), 3) := by decide +kernel
theorem d_MO_satisfiedMore_172 : decode b_MO_satisfiedMore 172 = .ok (.aload_n 0, 1) := by decide +kernel
theorem d_MO_satisfiedMore_173 : decode b_MO_satisfiedMore 173 = .ok (.invokevirtual 273, 3) := by decide +kernel
theorem d_MO_satisfiedMore_176 : decode b_MO_satisfiedMore 176 = .ok (.iload_n 2, 1) := by decide +kernel
theorem d_MO_satisfiedMore_177 : decode b_MO_satisfiedMore 177 = .ok (.bipush 21, 2) := by decide +kernel
theorem d_MO_satisfiedMore_179 : decode b_MO_satisfiedMore 179 = .ok (.if_icmp .ne 16, 3) := by decide +kernel
theorem d_MO_satisfiedMore_182 : decode b_MO_satisfiedMore 182 = .ok (.aload_n 0, 1) := by decide +kernel
theorem d_MO_satisfiedMore_183 : decode b_MO_satisfiedMore 183 = .ok (.iload_n 3, 1) := by decide +kernel
theorem d_MO_satisfiedMore_184 : decode b_MO_satisfiedMore 184 = .ok (.invokestatic 201, 3) := by decide +kernel
theorem d_MO_satisfiedMore_187 : decode b_MO_satisfiedMore 187 = .ok (.iload 4, 2) := by decide +kernel
theorem d_MO_satisfiedMore_189 : decode b_MO_satisfiedMore 189 = .ok (.invokestatic 201, 3) := by decide +kernel
theorem d_MO_satisfiedMore_192 : decode b_MO_satisfiedMore 192 = .ok (.invokevirtual 279, 3) := by decide +kernel
theorem d_MO_satisfiedMore_195 : decode b_MO_satisfiedMore 195 = .ok (.iload_n 2, 1) := by decide +kernel
theorem d_MO_satisfiedMore_196 : decode b_MO_satisfiedMore 196 = .ok (.bipush 22, 2) := by decide +kernel
theorem d_MO_satisfiedMore_198 : decode b_MO_satisfiedMore 198 = .ok (.if_icmp .ne 17, 3) := by decide +kernel
theorem d_MO_satisfiedMore_201 : decode b_MO_satisfiedMore 201 = .ok (.aload_n 0, 1) := by decide +kernel
theorem d_MO_satisfiedMore_202 : decode b_MO_satisfiedMore 202 = .ok (.iload_n 3, 1) := by decide +kernel
theorem d_MO_satisfiedMore_203 : decode b_MO_satisfiedMore 203 = .ok (.invokestatic 195, 3) := by decide +kernel
theorem d_MO_satisfiedMore_206 : decode b_MO_satisfiedMore 206 = .ok (.iload_n 3, 1) := by decide +kernel
theorem d_MO_satisfiedMore_207 : decode b_MO_satisfiedMore 207 = .ok (.iload 4, 2) := by decide +kernel
theorem d_MO_satisfiedMore_209 : decode b_MO_satisfiedMore 209 = .ok (.invokestatic 201, 3) := by decide +kernel
theorem d_MO_satisfiedMore_212 : decode b_MO_satisfiedMore 212 = .ok (.invokevirtual 282, 3) := by decide +kernel
theorem d_MO_satisfiedMore_215 : decode b_MO_satisfiedMore 215 = .ok (.iload_n 2, 1) := by decide +kernel
theorem d_MO_satisfiedMore_216 : decode b_MO_satisfiedMore 216 = .ok (.bipush 23, 2) := by decide +kernel
theorem d_MO_satisfiedMore_218 : decode b_MO_satisfiedMore 218 = .ok (.if_icmp .ne 16, 3) := by decide +kernel
theorem d_MO_satisfiedMore_221 : decode b_MO_satisfiedMore 221 = .ok (.aload_n 0, 1) := by decide +kernel
theorem d_MO_satisfiedMore_222 : decode b_MO_satisfiedMore 222 = .ok (.iload_n 3, 1) := by decide +kernel
theorem d_MO_satisfiedMore_223 : decode b_MO_satisfiedMore 223 = .ok (.invokestatic 201, 3) := by decide +kernel
theorem d_MO_satisfiedMore_226 : decode b_MO_satisfiedMore 226 = .ok (.iload 4, 2) := by decide +kernel
theorem d_MO_satisfiedMore_228 : decode b_MO_satisfiedMore 228 = .ok (.invokestatic 201, 3) := by decide +kernel
theorem d_MO_satisfiedMore_231 : decode b_MO_satisfiedMore 231 = .ok (.invokevirtual 285, 3) := by decide +kernel
theorem d_MO_satisfiedMore_234 : decode b_MO_satisfiedMore 234 = .ok (.iload_n 2, 1) := by decide +kernel
theorem d_MO_satisfiedMore_235 : decode b_MO_satisfiedMore 235 = .ok (.bipush 24, 2) := by decide +kernel
theorem d_MO_satisfiedMore_237 : decode b_MO_satisfiedMore 237 = .ok (.if_icmp .ne 15, 3) := by decide +kernel
theorem d_MO_satisfiedMore_240 : decode b_MO_satisfiedMore 240 = .ok (.aload_n 0, 1) := by decide +kernel
theorem d_MO_satisfiedMore_241 : decode b_MO_satisfiedMore 241 = .ok (.iload_n 1, 1) := by decide +kernel
theorem d_MO_satisfiedMore_242 : decode b_MO_satisfiedMore 242 = .ok (.invokestatic 204, 3) := by decide +kernel
theorem d_MO_satisfiedMore_245 : decode b_MO_satisfiedMore 245 = .ok (.invokevirtual 270, 3) := by decide +kernel
theorem d_MO_satisfiedMore_248 : decode b_MO_satisfiedMore 248 = .ok (.aload_n 0, 1) := by decide +kernel
theorem d_MO_satisfiedMore_249 : decode b_MO_satisfiedMore 249 = .ok (.invokevirtual 273, 3) := by decide +kernel
theorem d_MO_satisfiedMore_252 : decode b_MO_satisfiedMore 252 = .ok (.return_, 1) := by decide +kernel
theorem ls_MO_201 : ab_ls "PolicyForgeModel" 201 y_MO_v b_MO_v 1 (some FieldType.int) 1 := ⟨List.forall_mem_cons.mpr ⟨(ab_in 1139 (by decide +kernel) (by decide +kernel)), List.forall_mem_cons.mpr ⟨(ab_in 1140 (by decide +kernel) (by decide +kernel)), List.forall_mem_cons.mpr ⟨(ab_in 100 (by decide +kernel) (by decide +kernel)), List.forall_mem_cons.mpr ⟨(ab_in 1141 (by decide +kernel) (by decide +kernel)), fun _ h => absurd h List.not_mem_nil⟩⟩⟩⟩, ⟨by decide +kernel, by decide +kernel, by decide +kernel⟩, by decide⟩
theorem ls_MO_204 : ab_ls "PolicyForgeModel" 204 y_MO_b b_MO_b 1 (some FieldType.int) 1 := ⟨List.forall_mem_cons.mpr ⟨(ab_in 1117 (by decide +kernel) (by decide +kernel)), List.forall_mem_cons.mpr ⟨(ab_in 1118 (by decide +kernel) (by decide +kernel)), List.forall_mem_cons.mpr ⟨(ab_in 100 (by decide +kernel) (by decide +kernel)), List.forall_mem_cons.mpr ⟨(ab_in 1119 (by decide +kernel) (by decide +kernel)), fun _ h => absurd h List.not_mem_nil⟩⟩⟩⟩, ⟨by decide +kernel, by decide +kernel, by decide +kernel⟩, by decide⟩
theorem lk_MO_279 : ab_lk "PolicyForgeModel" 279 y_MO_offerBoth b_MO_offerBoth 3 none 2 17 := ⟨⟨rfl, T_MO, 44, rfl⟩, List.forall_mem_cons.mpr ⟨(ab_in 1253 (by decide +kernel) (by decide +kernel)), List.forall_mem_cons.mpr ⟨(ab_in 1255 (by decide +kernel) (by decide +kernel)), List.forall_mem_cons.mpr ⟨(ab_in 79 (by decide +kernel) (by decide +kernel)), List.forall_mem_cons.mpr ⟨(ab_in 100 (by decide +kernel) (by decide +kernel)), List.forall_mem_cons.mpr ⟨(ab_in 1256 (by decide +kernel) (by decide +kernel)), fun _ h => absurd h List.not_mem_nil⟩⟩⟩⟩⟩, ⟨by decide +kernel, by decide +kernel, by decide +kernel⟩, by decide⟩
theorem lk_MO_282 : ab_lk "PolicyForgeModel" 282 y_MO_offerEither b_MO_offerEither 4 none 3 17 := ⟨⟨rfl, T_MO, 44, rfl⟩, List.forall_mem_cons.mpr ⟨(ab_in 1261 (by decide +kernel) (by decide +kernel)), List.forall_mem_cons.mpr ⟨(ab_in 1263 (by decide +kernel) (by decide +kernel)), List.forall_mem_cons.mpr ⟨(ab_in 81 (by decide +kernel) (by decide +kernel)), List.forall_mem_cons.mpr ⟨(ab_in 100 (by decide +kernel) (by decide +kernel)), List.forall_mem_cons.mpr ⟨(ab_in 1264 (by decide +kernel) (by decide +kernel)), fun _ h => absurd h List.not_mem_nil⟩⟩⟩⟩⟩, ⟨by decide +kernel, by decide +kernel, by decide +kernel⟩, by decide⟩
theorem lk_MO_285 : ab_lk "PolicyForgeModel" 285 y_MO_offerChoice b_MO_offerChoice 3 none 2 17 := ⟨⟨rfl, T_MO, 44, rfl⟩, List.forall_mem_cons.mpr ⟨(ab_in 1265 (by decide +kernel) (by decide +kernel)), List.forall_mem_cons.mpr ⟨(ab_in 1267 (by decide +kernel) (by decide +kernel)), List.forall_mem_cons.mpr ⟨(ab_in 82 (by decide +kernel) (by decide +kernel)), List.forall_mem_cons.mpr ⟨(ab_in 100 (by decide +kernel) (by decide +kernel)), List.forall_mem_cons.mpr ⟨(ab_in 1268 (by decide +kernel) (by decide +kernel)), fun _ h => absurd h List.not_mem_nil⟩⟩⟩⟩⟩, ⟨by decide +kernel, by decide +kernel, by decide +kernel⟩, by decide⟩
set_option maxRecDepth 100000 in
set_option maxHeartbeats 1000000 in
theorem s_MO_satisfiedMore13 (u : ab_S) (P : Nat) (kd ar cn lf : Nat → Nat) (ch : Nat → Nat → Nat) (W : tW P kd ar cn lf ch) (T : tR P kd ar cn ch u) (p1 : Nat) (hp : p1 < P) (hk : kd p1 = 5 ∨ kd p1 = 6) (S : sV P lf (p1 + 1) u) (x y : Nat) (x1 : p1 < x) (x2 : x < P) (y1 : p1 < y) (y2 : y < P) (l0 : lf x + lf y ≤ lf p1) (l1 : 1 ≤ lf x) (l2 : 1 ≤ lf y) (q : Nat) (hq : q ≤ 64) (eb : bl q (u.1 17 0 29)) (h : mR u.2.1) (hqq : 4 * lf p1 - 3 ≤ q) : ab_C false l D ca y_MO_satisfiedMore b_MO_satisfiedMore 6 none 4 ab_nQ u [ab_O 17 0, ab_I (nI p1), ab_I (nI 13), ab_I (nI x), ab_I (nI y)] (fun u' v => (gP [26, 27, 29, 30, 115, 116] u u' ∧ bl q (u'.1 17 0 29)) ∧ v = none) := by
  refine ab_C.of (by decide) (Nat.le_of_ble_eq_true rfl) ?_
  intro p e s m args below meth c ad X hZ hr0 hlk
  have P0 : gP [26, 27, 29, 30, 115, 116] u u := gP.rf h
  obtain ⟨w1, w2, w3⟩ := W
  obtain ⟨l3, l4, -⟩ := (w3 p1 hp).1
  have sx := S x (by omega) x2
  have sy := S y (by omega) y2
  obtain ⟨mx, hmx, emx⟩ := sx.1
  obtain ⟨my, hmy, emy⟩ := sy.1
  refine ab_iload_n X 2 d_MO_satisfiedMore_0 rfl rfl ?_
  refine ab_bipush (v := 13) X d_MO_satisfiedMore_1 (by decide) ?_
  refine ab_icmp_ne X 19 d_MO_satisfiedMore_3 rfl (fun hb => absurd ((by decide)) hb) (fun _ => ?_)
  refine ab_aload_n X 0 d_MO_satisfiedMore_6 rfl rfl ?_
  refine ab_iload_n X 3 d_MO_satisfiedMore_7 rfl rfl ?_
  refine ab_callS (as := [ab_I (nI x)]) X (fun h => by cases h) (t_MO_v u x) ls_MO_201 d_MO_satisfiedMore_8 rfl rfl ⟨by first | exact Nat.le_of_ble_eq_true rfl | (simp only [ab_rm]; omega), by first | exact Nat.le_of_ble_eq_true rfl | (simp only [ab_rm]; omega)⟩ ⟨by first | exact Nat.le_of_ble_eq_true rfl | (simp only [ab_rm]; omega), by first | exact Nat.le_of_ble_eq_true rfl | (simp only [ab_rm]; omega)⟩ (Nat.le_of_ble_eq_true rfl) (fun u8 r8 h8 => ?_)
  obtain ⟨e8, rfl⟩ := h8
  subst u8
  refine ab_iload X 4 d_MO_satisfiedMore_11 rfl ?_
  refine ab_callS (as := [ab_I (nI y)]) X (fun h => by cases h) (t_MO_b u y) ls_MO_204 d_MO_satisfiedMore_13 rfl rfl ⟨by first | exact Nat.le_of_ble_eq_true rfl | (simp only [ab_rm]; omega), by first | exact Nat.le_of_ble_eq_true rfl | (simp only [ab_rm]; omega)⟩ ⟨by first | exact Nat.le_of_ble_eq_true rfl | (simp only [ab_rm]; omega), by first | exact Nat.le_of_ble_eq_true rfl | (simp only [ab_rm]; omega)⟩ (Nat.le_of_ble_eq_true rfl) (fun u13 r13 h13 => ?_)
  obtain ⟨e13, rfl⟩ := h13
  subst u13
  refine ab_callV (as := [ab_I (nI (3 * x + 2)), ab_I (nI (3 * y))]) X (fun h => by cases h) (s_MO_offerBoth u (3 * x + 2) (3 * y) (4 * lf x - 2) (4 * lf y - 3) q (by omega) eb P0.1 (by omega) (by omega) (by rw [P0.ai (by decide) rfl]; exact sx.2.2.2) (by rw [P0.ai (by decide) rfl]; exact sy.2.1) (by omega) (by omega) (by omega)) lk_MO_279 d_MO_satisfiedMore_16 rfl rfl (by first | assumption | decide | (show _ < 124; omega) | (show _ < 61; omega) | (show _ < 20; omega)) ⟨by first | exact Nat.le_of_ble_eq_true rfl | (simp only [ab_rm]; omega), by first | exact Nat.le_of_ble_eq_true rfl | (simp only [ab_rm]; omega)⟩ ⟨by first | exact Nat.le_of_ble_eq_true rfl | (simp only [ab_rm]; omega), by first | exact Nat.le_of_ble_eq_true rfl | (simp only [ab_rm]; omega)⟩ (Nat.le_of_ble_eq_true rfl) (fun u16 r16 h16 => ?_)
  obtain ⟨⟨q16, b16⟩, rfl⟩ := h16
  have P16 := P0.trans q16 (by decide)
  refine ab_iload_n X 2 d_MO_satisfiedMore_19 rfl rfl ?_
  refine ab_bipush (v := 14) X d_MO_satisfiedMore_20 (by decide) ?_
  refine ab_icmp_ne X 38 d_MO_satisfiedMore_22 rfl (fun _ => ?_) (fun hb => absurd hb ((by decide)))
  refine ab_iload_n X 2 d_MO_satisfiedMore_38 rfl rfl ?_
  refine ab_bipush (v := 15) X d_MO_satisfiedMore_39 (by decide) ?_
  refine ab_icmp_ne X 58 d_MO_satisfiedMore_41 rfl (fun _ => ?_) (fun hb => absurd hb ((by decide)))
  refine ab_iload_n X 2 d_MO_satisfiedMore_58 rfl rfl ?_
  refine ab_bipush (v := 16) X d_MO_satisfiedMore_59 (by decide) ?_
  refine ab_icmp_ne X 79 d_MO_satisfiedMore_61 rfl (fun _ => ?_) (fun hb => absurd hb ((by decide)))
  refine ab_iload_n X 2 d_MO_satisfiedMore_79 rfl rfl ?_
  refine ab_bipush (v := 17) X d_MO_satisfiedMore_80 (by decide) ?_
  refine ab_icmp_ne X 98 d_MO_satisfiedMore_82 rfl (fun _ => ?_) (fun hb => absurd hb ((by decide)))
  refine ab_iload_n X 2 d_MO_satisfiedMore_98 rfl rfl ?_
  refine ab_bipush (v := 18) X d_MO_satisfiedMore_99 (by decide) ?_
  refine ab_icmp_ne X 176 d_MO_satisfiedMore_101 rfl (fun _ => ?_) (fun hb => absurd hb ((by decide)))
  refine ab_iload_n X 2 d_MO_satisfiedMore_176 rfl rfl ?_
  refine ab_bipush (v := 21) X d_MO_satisfiedMore_177 (by decide) ?_
  refine ab_icmp_ne X 195 d_MO_satisfiedMore_179 rfl (fun _ => ?_) (fun hb => absurd hb ((by decide)))
  refine ab_iload_n X 2 d_MO_satisfiedMore_195 rfl rfl ?_
  refine ab_bipush (v := 22) X d_MO_satisfiedMore_196 (by decide) ?_
  refine ab_icmp_ne X 215 d_MO_satisfiedMore_198 rfl (fun _ => ?_) (fun hb => absurd hb ((by decide)))
  refine ab_iload_n X 2 d_MO_satisfiedMore_215 rfl rfl ?_
  refine ab_bipush (v := 23) X d_MO_satisfiedMore_216 (by decide) ?_
  refine ab_icmp_ne X 234 d_MO_satisfiedMore_218 rfl (fun _ => ?_) (fun hb => absurd hb ((by decide)))
  refine ab_iload_n X 2 d_MO_satisfiedMore_234 rfl rfl ?_
  refine ab_bipush (v := 24) X d_MO_satisfiedMore_235 (by decide) ?_
  refine ab_icmp_ne X 252 d_MO_satisfiedMore_237 rfl (fun _ => ?_) (fun hb => absurd hb ((by decide)))
  exact ab_retv X hr0 hlk d_MO_satisfiedMore_252 ⟨⟨P16, b16⟩, rfl⟩
set_option maxRecDepth 100000 in
set_option maxHeartbeats 1000000 in
theorem s_MO_satisfiedMore14 (u : ab_S) (P : Nat) (kd ar cn lf : Nat → Nat) (ch : Nat → Nat → Nat) (W : tW P kd ar cn lf ch) (T : tR P kd ar cn ch u) (p1 : Nat) (hp : p1 < P) (hk : kd p1 = 5 ∨ kd p1 = 6) (S : sV P lf (p1 + 1) u) (x y : Nat) (x1 : p1 < x) (x2 : x < P) (y1 : p1 < y) (y2 : y < P) (l0 : lf x + lf y ≤ lf p1) (l1 : 1 ≤ lf x) (l2 : 1 ≤ lf y) (q : Nat) (hq : q ≤ 64) (eb : bl q (u.1 17 0 29)) (h : mR u.2.1) (hqq : 4 * lf p1 - 3 ≤ q) : ab_C false l D ca y_MO_satisfiedMore b_MO_satisfiedMore 6 none 4 ab_nQ u [ab_O 17 0, ab_I (nI p1), ab_I (nI 14), ab_I (nI x), ab_I (nI y)] (fun u' v => (gP [26, 27, 29, 30, 115, 116] u u' ∧ bl q (u'.1 17 0 29)) ∧ v = none) := by
  refine ab_C.of (by decide) (Nat.le_of_ble_eq_true rfl) ?_
  intro p e s m args below meth c ad X hZ hr0 hlk
  have P0 : gP [26, 27, 29, 30, 115, 116] u u := gP.rf h
  obtain ⟨w1, w2, w3⟩ := W
  obtain ⟨l3, l4, -⟩ := (w3 p1 hp).1
  have sx := S x (by omega) x2
  have sy := S y (by omega) y2
  obtain ⟨mx, hmx, emx⟩ := sx.1
  obtain ⟨my, hmy, emy⟩ := sy.1
  refine ab_iload_n X 2 d_MO_satisfiedMore_0 rfl rfl ?_
  refine ab_bipush (v := 13) X d_MO_satisfiedMore_1 (by decide) ?_
  refine ab_icmp_ne X 19 d_MO_satisfiedMore_3 rfl (fun _ => ?_) (fun hb => absurd hb ((by decide)))
  refine ab_iload_n X 2 d_MO_satisfiedMore_19 rfl rfl ?_
  refine ab_bipush (v := 14) X d_MO_satisfiedMore_20 (by decide) ?_
  refine ab_icmp_ne X 38 d_MO_satisfiedMore_22 rfl (fun hb => absurd ((by decide)) hb) (fun _ => ?_)
  refine ab_aload_n X 0 d_MO_satisfiedMore_25 rfl rfl ?_
  refine ab_iload X 4 d_MO_satisfiedMore_26 rfl ?_
  refine ab_callS (as := [ab_I (nI y)]) X (fun h => by cases h) (t_MO_v u y) ls_MO_201 d_MO_satisfiedMore_28 rfl rfl ⟨by first | exact Nat.le_of_ble_eq_true rfl | (simp only [ab_rm]; omega), by first | exact Nat.le_of_ble_eq_true rfl | (simp only [ab_rm]; omega)⟩ ⟨by first | exact Nat.le_of_ble_eq_true rfl | (simp only [ab_rm]; omega), by first | exact Nat.le_of_ble_eq_true rfl | (simp only [ab_rm]; omega)⟩ (Nat.le_of_ble_eq_true rfl) (fun u28 r28 h28 => ?_)
  obtain ⟨e28, rfl⟩ := h28
  subst u28
  refine ab_iload_n X 3 d_MO_satisfiedMore_31 rfl rfl ?_
  refine ab_callS (as := [ab_I (nI x)]) X (fun h => by cases h) (t_MO_b u x) ls_MO_204 d_MO_satisfiedMore_32 rfl rfl ⟨by first | exact Nat.le_of_ble_eq_true rfl | (simp only [ab_rm]; omega), by first | exact Nat.le_of_ble_eq_true rfl | (simp only [ab_rm]; omega)⟩ ⟨by first | exact Nat.le_of_ble_eq_true rfl | (simp only [ab_rm]; omega), by first | exact Nat.le_of_ble_eq_true rfl | (simp only [ab_rm]; omega)⟩ (Nat.le_of_ble_eq_true rfl) (fun u32 r32 h32 => ?_)
  obtain ⟨e32, rfl⟩ := h32
  subst u32
  refine ab_callV (as := [ab_I (nI (3 * y + 2)), ab_I (nI (3 * x))]) X (fun h => by cases h) (s_MO_offerBoth u (3 * y + 2) (3 * x) (4 * lf y - 2) (4 * lf x - 3) q (by omega) eb P0.1 (by omega) (by omega) (by rw [P0.ai (by decide) rfl]; exact sy.2.2.2) (by rw [P0.ai (by decide) rfl]; exact sx.2.1) (by omega) (by omega) (by omega)) lk_MO_279 d_MO_satisfiedMore_35 rfl rfl (by first | assumption | decide | (show _ < 124; omega) | (show _ < 61; omega) | (show _ < 20; omega)) ⟨by first | exact Nat.le_of_ble_eq_true rfl | (simp only [ab_rm]; omega), by first | exact Nat.le_of_ble_eq_true rfl | (simp only [ab_rm]; omega)⟩ ⟨by first | exact Nat.le_of_ble_eq_true rfl | (simp only [ab_rm]; omega), by first | exact Nat.le_of_ble_eq_true rfl | (simp only [ab_rm]; omega)⟩ (Nat.le_of_ble_eq_true rfl) (fun u35 r35 h35 => ?_)
  obtain ⟨⟨q35, b35⟩, rfl⟩ := h35
  have P35 := P0.trans q35 (by decide)
  refine ab_iload_n X 2 d_MO_satisfiedMore_38 rfl rfl ?_
  refine ab_bipush (v := 15) X d_MO_satisfiedMore_39 (by decide) ?_
  refine ab_icmp_ne X 58 d_MO_satisfiedMore_41 rfl (fun _ => ?_) (fun hb => absurd hb ((by decide)))
  refine ab_iload_n X 2 d_MO_satisfiedMore_58 rfl rfl ?_
  refine ab_bipush (v := 16) X d_MO_satisfiedMore_59 (by decide) ?_
  refine ab_icmp_ne X 79 d_MO_satisfiedMore_61 rfl (fun _ => ?_) (fun hb => absurd hb ((by decide)))
  refine ab_iload_n X 2 d_MO_satisfiedMore_79 rfl rfl ?_
  refine ab_bipush (v := 17) X d_MO_satisfiedMore_80 (by decide) ?_
  refine ab_icmp_ne X 98 d_MO_satisfiedMore_82 rfl (fun _ => ?_) (fun hb => absurd hb ((by decide)))
  refine ab_iload_n X 2 d_MO_satisfiedMore_98 rfl rfl ?_
  refine ab_bipush (v := 18) X d_MO_satisfiedMore_99 (by decide) ?_
  refine ab_icmp_ne X 176 d_MO_satisfiedMore_101 rfl (fun _ => ?_) (fun hb => absurd hb ((by decide)))
  refine ab_iload_n X 2 d_MO_satisfiedMore_176 rfl rfl ?_
  refine ab_bipush (v := 21) X d_MO_satisfiedMore_177 (by decide) ?_
  refine ab_icmp_ne X 195 d_MO_satisfiedMore_179 rfl (fun _ => ?_) (fun hb => absurd hb ((by decide)))
  refine ab_iload_n X 2 d_MO_satisfiedMore_195 rfl rfl ?_
  refine ab_bipush (v := 22) X d_MO_satisfiedMore_196 (by decide) ?_
  refine ab_icmp_ne X 215 d_MO_satisfiedMore_198 rfl (fun _ => ?_) (fun hb => absurd hb ((by decide)))
  refine ab_iload_n X 2 d_MO_satisfiedMore_215 rfl rfl ?_
  refine ab_bipush (v := 23) X d_MO_satisfiedMore_216 (by decide) ?_
  refine ab_icmp_ne X 234 d_MO_satisfiedMore_218 rfl (fun _ => ?_) (fun hb => absurd hb ((by decide)))
  refine ab_iload_n X 2 d_MO_satisfiedMore_234 rfl rfl ?_
  refine ab_bipush (v := 24) X d_MO_satisfiedMore_235 (by decide) ?_
  refine ab_icmp_ne X 252 d_MO_satisfiedMore_237 rfl (fun _ => ?_) (fun hb => absurd hb ((by decide)))
  exact ab_retv X hr0 hlk d_MO_satisfiedMore_252 ⟨⟨P35, b35⟩, rfl⟩
set_option maxRecDepth 100000 in
set_option maxHeartbeats 1000000 in
theorem s_MO_satisfiedMore15 (u : ab_S) (P : Nat) (kd ar cn lf : Nat → Nat) (ch : Nat → Nat → Nat) (W : tW P kd ar cn lf ch) (T : tR P kd ar cn ch u) (p1 : Nat) (hp : p1 < P) (hk : kd p1 = 5 ∨ kd p1 = 6) (S : sV P lf (p1 + 1) u) (x y : Nat) (x1 : p1 < x) (x2 : x < P) (y1 : p1 < y) (y2 : y < P) (l0 : lf x + lf y ≤ lf p1) (l1 : 1 ≤ lf x) (l2 : 1 ≤ lf y) (q : Nat) (hq : q ≤ 64) (eb : bl q (u.1 17 0 29)) (h : mR u.2.1) (hqq : 4 * lf p1 - 3 ≤ q) : ab_C false l D ca y_MO_satisfiedMore b_MO_satisfiedMore 6 none 4 ab_nQ u [ab_O 17 0, ab_I (nI p1), ab_I (nI 15), ab_I (nI x), ab_I (nI y)] (fun u' v => (gP [26, 27, 29, 30, 115, 116] u u' ∧ bl q (u'.1 17 0 29)) ∧ v = none) := by
  refine ab_C.of (by decide) (Nat.le_of_ble_eq_true rfl) ?_
  intro p e s m args below meth c ad X hZ hr0 hlk
  have P0 : gP [26, 27, 29, 30, 115, 116] u u := gP.rf h
  obtain ⟨w1, w2, w3⟩ := W
  obtain ⟨l3, l4, -⟩ := (w3 p1 hp).1
  have sx := S x (by omega) x2
  have sy := S y (by omega) y2
  obtain ⟨mx, hmx, emx⟩ := sx.1
  obtain ⟨my, hmy, emy⟩ := sy.1
  refine ab_iload_n X 2 d_MO_satisfiedMore_0 rfl rfl ?_
  refine ab_bipush (v := 13) X d_MO_satisfiedMore_1 (by decide) ?_
  refine ab_icmp_ne X 19 d_MO_satisfiedMore_3 rfl (fun _ => ?_) (fun hb => absurd hb ((by decide)))
  refine ab_iload_n X 2 d_MO_satisfiedMore_19 rfl rfl ?_
  refine ab_bipush (v := 14) X d_MO_satisfiedMore_20 (by decide) ?_
  refine ab_icmp_ne X 38 d_MO_satisfiedMore_22 rfl (fun _ => ?_) (fun hb => absurd hb ((by decide)))
  refine ab_iload_n X 2 d_MO_satisfiedMore_38 rfl rfl ?_
  refine ab_bipush (v := 15) X d_MO_satisfiedMore_39 (by decide) ?_
  refine ab_icmp_ne X 58 d_MO_satisfiedMore_41 rfl (fun hb => absurd ((by decide)) hb) (fun _ => ?_)
  refine ab_aload_n X 0 d_MO_satisfiedMore_44 rfl rfl ?_
  refine ab_iload_n X 3 d_MO_satisfiedMore_45 rfl rfl ?_
  refine ab_callS (as := [ab_I (nI x)]) X (fun h => by cases h) (t_MO_d u x) ls_MO_195 d_MO_satisfiedMore_46 rfl rfl ⟨by first | exact Nat.le_of_ble_eq_true rfl | (simp only [ab_rm]; omega), by first | exact Nat.le_of_ble_eq_true rfl | (simp only [ab_rm]; omega)⟩ ⟨by first | exact Nat.le_of_ble_eq_true rfl | (simp only [ab_rm]; omega), by first | exact Nat.le_of_ble_eq_true rfl | (simp only [ab_rm]; omega)⟩ (Nat.le_of_ble_eq_true rfl) (fun u46 r46 h46 => ?_)
  obtain ⟨e46, rfl⟩ := h46
  subst u46
  refine ab_iload_n X 3 d_MO_satisfiedMore_49 rfl rfl ?_
  refine ab_iload X 4 d_MO_satisfiedMore_50 rfl ?_
  refine ab_callS (as := [ab_I (nI y)]) X (fun h => by cases h) (t_MO_b u y) ls_MO_204 d_MO_satisfiedMore_52 rfl rfl ⟨by first | exact Nat.le_of_ble_eq_true rfl | (simp only [ab_rm]; omega), by first | exact Nat.le_of_ble_eq_true rfl | (simp only [ab_rm]; omega)⟩ ⟨by first | exact Nat.le_of_ble_eq_true rfl | (simp only [ab_rm]; omega), by first | exact Nat.le_of_ble_eq_true rfl | (simp only [ab_rm]; omega)⟩ (Nat.le_of_ble_eq_true rfl) (fun u52 r52 h52 => ?_)
  obtain ⟨e52, rfl⟩ := h52
  subst u52
  refine ab_callV (as := [ab_I (nI (3 * x + 1)), ab_I (nI x), ab_I (nI (3 * y))]) X (fun h => by cases h) (s_MO_offerEither u (3 * x + 1) x (3 * y) (4 * lf x - 2) mx (4 * lf y - 3) q (by omega) eb P0.1 (by omega) (by omega) (by omega) (by rw [P0.ai (by decide) rfl]; exact sx.2.2.1) (P0.ai (by decide) emx) (by rw [P0.ai (by decide) rfl]; exact sy.2.1) (by omega) (by omega) (by omega) (by omega) (by omega)) lk_MO_282 d_MO_satisfiedMore_55 rfl rfl (by first | assumption | decide | (show _ < 124; omega) | (show _ < 61; omega) | (show _ < 20; omega)) ⟨by first | exact Nat.le_of_ble_eq_true rfl | (simp only [ab_rm]; omega), by first | exact Nat.le_of_ble_eq_true rfl | (simp only [ab_rm]; omega)⟩ ⟨by first | exact Nat.le_of_ble_eq_true rfl | (simp only [ab_rm]; omega), by first | exact Nat.le_of_ble_eq_true rfl | (simp only [ab_rm]; omega)⟩ (Nat.le_of_ble_eq_true rfl) (fun u55 r55 h55 => ?_)
  obtain ⟨⟨q55, b55⟩, rfl⟩ := h55
  have P55 := P0.trans q55 (by decide)
  refine ab_iload_n X 2 d_MO_satisfiedMore_58 rfl rfl ?_
  refine ab_bipush (v := 16) X d_MO_satisfiedMore_59 (by decide) ?_
  refine ab_icmp_ne X 79 d_MO_satisfiedMore_61 rfl (fun _ => ?_) (fun hb => absurd hb ((by decide)))
  refine ab_iload_n X 2 d_MO_satisfiedMore_79 rfl rfl ?_
  refine ab_bipush (v := 17) X d_MO_satisfiedMore_80 (by decide) ?_
  refine ab_icmp_ne X 98 d_MO_satisfiedMore_82 rfl (fun _ => ?_) (fun hb => absurd hb ((by decide)))
  refine ab_iload_n X 2 d_MO_satisfiedMore_98 rfl rfl ?_
  refine ab_bipush (v := 18) X d_MO_satisfiedMore_99 (by decide) ?_
  refine ab_icmp_ne X 176 d_MO_satisfiedMore_101 rfl (fun _ => ?_) (fun hb => absurd hb ((by decide)))
  refine ab_iload_n X 2 d_MO_satisfiedMore_176 rfl rfl ?_
  refine ab_bipush (v := 21) X d_MO_satisfiedMore_177 (by decide) ?_
  refine ab_icmp_ne X 195 d_MO_satisfiedMore_179 rfl (fun _ => ?_) (fun hb => absurd hb ((by decide)))
  refine ab_iload_n X 2 d_MO_satisfiedMore_195 rfl rfl ?_
  refine ab_bipush (v := 22) X d_MO_satisfiedMore_196 (by decide) ?_
  refine ab_icmp_ne X 215 d_MO_satisfiedMore_198 rfl (fun _ => ?_) (fun hb => absurd hb ((by decide)))
  refine ab_iload_n X 2 d_MO_satisfiedMore_215 rfl rfl ?_
  refine ab_bipush (v := 23) X d_MO_satisfiedMore_216 (by decide) ?_
  refine ab_icmp_ne X 234 d_MO_satisfiedMore_218 rfl (fun _ => ?_) (fun hb => absurd hb ((by decide)))
  refine ab_iload_n X 2 d_MO_satisfiedMore_234 rfl rfl ?_
  refine ab_bipush (v := 24) X d_MO_satisfiedMore_235 (by decide) ?_
  refine ab_icmp_ne X 252 d_MO_satisfiedMore_237 rfl (fun _ => ?_) (fun hb => absurd hb ((by decide)))
  exact ab_retv X hr0 hlk d_MO_satisfiedMore_252 ⟨⟨P55, b55⟩, rfl⟩
set_option maxRecDepth 100000 in
set_option maxHeartbeats 1000000 in
theorem s_MO_satisfiedMore16 (u : ab_S) (P : Nat) (kd ar cn lf : Nat → Nat) (ch : Nat → Nat → Nat) (W : tW P kd ar cn lf ch) (T : tR P kd ar cn ch u) (p1 : Nat) (hp : p1 < P) (hk : kd p1 = 5 ∨ kd p1 = 6) (S : sV P lf (p1 + 1) u) (x y : Nat) (x1 : p1 < x) (x2 : x < P) (y1 : p1 < y) (y2 : y < P) (l0 : lf x + lf y ≤ lf p1) (l1 : 1 ≤ lf x) (l2 : 1 ≤ lf y) (q : Nat) (hq : q ≤ 64) (eb : bl q (u.1 17 0 29)) (h : mR u.2.1) (hqq : 4 * lf p1 - 3 ≤ q) : ab_C false l D ca y_MO_satisfiedMore b_MO_satisfiedMore 6 none 4 ab_nQ u [ab_O 17 0, ab_I (nI p1), ab_I (nI 16), ab_I (nI x), ab_I (nI y)] (fun u' v => (gP [26, 27, 29, 30, 115, 116] u u' ∧ bl q (u'.1 17 0 29)) ∧ v = none) := by
  refine ab_C.of (by decide) (Nat.le_of_ble_eq_true rfl) ?_
  intro p e s m args below meth c ad X hZ hr0 hlk
  have P0 : gP [26, 27, 29, 30, 115, 116] u u := gP.rf h
  obtain ⟨w1, w2, w3⟩ := W
  obtain ⟨l3, l4, -⟩ := (w3 p1 hp).1
  have sx := S x (by omega) x2
  have sy := S y (by omega) y2
  obtain ⟨mx, hmx, emx⟩ := sx.1
  obtain ⟨my, hmy, emy⟩ := sy.1
  refine ab_iload_n X 2 d_MO_satisfiedMore_0 rfl rfl ?_
  refine ab_bipush (v := 13) X d_MO_satisfiedMore_1 (by decide) ?_
  refine ab_icmp_ne X 19 d_MO_satisfiedMore_3 rfl (fun _ => ?_) (fun hb => absurd hb ((by decide)))
  refine ab_iload_n X 2 d_MO_satisfiedMore_19 rfl rfl ?_
  refine ab_bipush (v := 14) X d_MO_satisfiedMore_20 (by decide) ?_
  refine ab_icmp_ne X 38 d_MO_satisfiedMore_22 rfl (fun _ => ?_) (fun hb => absurd hb ((by decide)))
  refine ab_iload_n X 2 d_MO_satisfiedMore_38 rfl rfl ?_
  refine ab_bipush (v := 15) X d_MO_satisfiedMore_39 (by decide) ?_
  refine ab_icmp_ne X 58 d_MO_satisfiedMore_41 rfl (fun _ => ?_) (fun hb => absurd hb ((by decide)))
  refine ab_iload_n X 2 d_MO_satisfiedMore_58 rfl rfl ?_
  refine ab_bipush (v := 16) X d_MO_satisfiedMore_59 (by decide) ?_
  refine ab_icmp_ne X 79 d_MO_satisfiedMore_61 rfl (fun hb => absurd ((by decide)) hb) (fun _ => ?_)
  refine ab_aload_n X 0 d_MO_satisfiedMore_64 rfl rfl ?_
  refine ab_iload X 4 d_MO_satisfiedMore_65 rfl ?_
  refine ab_callS (as := [ab_I (nI y)]) X (fun h => by cases h) (t_MO_d u y) ls_MO_195 d_MO_satisfiedMore_67 rfl rfl ⟨by first | exact Nat.le_of_ble_eq_true rfl | (simp only [ab_rm]; omega), by first | exact Nat.le_of_ble_eq_true rfl | (simp only [ab_rm]; omega)⟩ ⟨by first | exact Nat.le_of_ble_eq_true rfl | (simp only [ab_rm]; omega), by first | exact Nat.le_of_ble_eq_true rfl | (simp only [ab_rm]; omega)⟩ (Nat.le_of_ble_eq_true rfl) (fun u67 r67 h67 => ?_)
  obtain ⟨e67, rfl⟩ := h67
  subst u67
  refine ab_iload X 4 d_MO_satisfiedMore_70 rfl ?_
  refine ab_iload_n X 3 d_MO_satisfiedMore_72 rfl rfl ?_
  refine ab_callS (as := [ab_I (nI x)]) X (fun h => by cases h) (t_MO_b u x) ls_MO_204 d_MO_satisfiedMore_73 rfl rfl ⟨by first | exact Nat.le_of_ble_eq_true rfl | (simp only [ab_rm]; omega), by first | exact Nat.le_of_ble_eq_true rfl | (simp only [ab_rm]; omega)⟩ ⟨by first | exact Nat.le_of_ble_eq_true rfl | (simp only [ab_rm]; omega), by first | exact Nat.le_of_ble_eq_true rfl | (simp only [ab_rm]; omega)⟩ (Nat.le_of_ble_eq_true rfl) (fun u73 r73 h73 => ?_)
  obtain ⟨e73, rfl⟩ := h73
  subst u73
  refine ab_callV (as := [ab_I (nI (3 * y + 1)), ab_I (nI y), ab_I (nI (3 * x))]) X (fun h => by cases h) (s_MO_offerEither u (3 * y + 1) y (3 * x) (4 * lf y - 2) my (4 * lf x - 3) q (by omega) eb P0.1 (by omega) (by omega) (by omega) (by rw [P0.ai (by decide) rfl]; exact sy.2.2.1) (P0.ai (by decide) emy) (by rw [P0.ai (by decide) rfl]; exact sx.2.1) (by omega) (by omega) (by omega) (by omega) (by omega)) lk_MO_282 d_MO_satisfiedMore_76 rfl rfl (by first | assumption | decide | (show _ < 124; omega) | (show _ < 61; omega) | (show _ < 20; omega)) ⟨by first | exact Nat.le_of_ble_eq_true rfl | (simp only [ab_rm]; omega), by first | exact Nat.le_of_ble_eq_true rfl | (simp only [ab_rm]; omega)⟩ ⟨by first | exact Nat.le_of_ble_eq_true rfl | (simp only [ab_rm]; omega), by first | exact Nat.le_of_ble_eq_true rfl | (simp only [ab_rm]; omega)⟩ (Nat.le_of_ble_eq_true rfl) (fun u76 r76 h76 => ?_)
  obtain ⟨⟨q76, b76⟩, rfl⟩ := h76
  have P76 := P0.trans q76 (by decide)
  refine ab_iload_n X 2 d_MO_satisfiedMore_79 rfl rfl ?_
  refine ab_bipush (v := 17) X d_MO_satisfiedMore_80 (by decide) ?_
  refine ab_icmp_ne X 98 d_MO_satisfiedMore_82 rfl (fun _ => ?_) (fun hb => absurd hb ((by decide)))
  refine ab_iload_n X 2 d_MO_satisfiedMore_98 rfl rfl ?_
  refine ab_bipush (v := 18) X d_MO_satisfiedMore_99 (by decide) ?_
  refine ab_icmp_ne X 176 d_MO_satisfiedMore_101 rfl (fun _ => ?_) (fun hb => absurd hb ((by decide)))
  refine ab_iload_n X 2 d_MO_satisfiedMore_176 rfl rfl ?_
  refine ab_bipush (v := 21) X d_MO_satisfiedMore_177 (by decide) ?_
  refine ab_icmp_ne X 195 d_MO_satisfiedMore_179 rfl (fun _ => ?_) (fun hb => absurd hb ((by decide)))
  refine ab_iload_n X 2 d_MO_satisfiedMore_195 rfl rfl ?_
  refine ab_bipush (v := 22) X d_MO_satisfiedMore_196 (by decide) ?_
  refine ab_icmp_ne X 215 d_MO_satisfiedMore_198 rfl (fun _ => ?_) (fun hb => absurd hb ((by decide)))
  refine ab_iload_n X 2 d_MO_satisfiedMore_215 rfl rfl ?_
  refine ab_bipush (v := 23) X d_MO_satisfiedMore_216 (by decide) ?_
  refine ab_icmp_ne X 234 d_MO_satisfiedMore_218 rfl (fun _ => ?_) (fun hb => absurd hb ((by decide)))
  refine ab_iload_n X 2 d_MO_satisfiedMore_234 rfl rfl ?_
  refine ab_bipush (v := 24) X d_MO_satisfiedMore_235 (by decide) ?_
  refine ab_icmp_ne X 252 d_MO_satisfiedMore_237 rfl (fun _ => ?_) (fun hb => absurd hb ((by decide)))
  exact ab_retv X hr0 hlk d_MO_satisfiedMore_252 ⟨⟨P76, b76⟩, rfl⟩
set_option maxRecDepth 100000 in
set_option maxHeartbeats 1000000 in
theorem s_MO_satisfiedMore17 (u : ab_S) (P : Nat) (kd ar cn lf : Nat → Nat) (ch : Nat → Nat → Nat) (W : tW P kd ar cn lf ch) (T : tR P kd ar cn ch u) (p1 : Nat) (hp : p1 < P) (hk : kd p1 = 5 ∨ kd p1 = 6) (S : sV P lf (p1 + 1) u) (x y : Nat) (x1 : p1 < x) (x2 : x < P) (y1 : p1 < y) (y2 : y < P) (l0 : lf x + lf y ≤ lf p1) (l1 : 1 ≤ lf x) (l2 : 1 ≤ lf y) (q : Nat) (hq : q ≤ 64) (eb : bl q (u.1 17 0 29)) (h : mR u.2.1) (hqq : 4 * lf p1 - 3 ≤ q) : ab_C false l D ca y_MO_satisfiedMore b_MO_satisfiedMore 6 none 4 ab_nQ u [ab_O 17 0, ab_I (nI p1), ab_I (nI 17), ab_I (nI x), ab_I (nI y)] (fun u' v => (gP [26, 27, 29, 30, 115, 116] u u' ∧ bl q (u'.1 17 0 29)) ∧ v = none) := by
  refine ab_C.of (by decide) (Nat.le_of_ble_eq_true rfl) ?_
  intro p e s m args below meth c ad X hZ hr0 hlk
  have P0 : gP [26, 27, 29, 30, 115, 116] u u := gP.rf h
  obtain ⟨w1, w2, w3⟩ := W
  obtain ⟨l3, l4, -⟩ := (w3 p1 hp).1
  have sx := S x (by omega) x2
  have sy := S y (by omega) y2
  obtain ⟨mx, hmx, emx⟩ := sx.1
  obtain ⟨my, hmy, emy⟩ := sy.1
  refine ab_iload_n X 2 d_MO_satisfiedMore_0 rfl rfl ?_
  refine ab_bipush (v := 13) X d_MO_satisfiedMore_1 (by decide) ?_
  refine ab_icmp_ne X 19 d_MO_satisfiedMore_3 rfl (fun _ => ?_) (fun hb => absurd hb ((by decide)))
  refine ab_iload_n X 2 d_MO_satisfiedMore_19 rfl rfl ?_
  refine ab_bipush (v := 14) X d_MO_satisfiedMore_20 (by decide) ?_
  refine ab_icmp_ne X 38 d_MO_satisfiedMore_22 rfl (fun _ => ?_) (fun hb => absurd hb ((by decide)))
  refine ab_iload_n X 2 d_MO_satisfiedMore_38 rfl rfl ?_
  refine ab_bipush (v := 15) X d_MO_satisfiedMore_39 (by decide) ?_
  refine ab_icmp_ne X 58 d_MO_satisfiedMore_41 rfl (fun _ => ?_) (fun hb => absurd hb ((by decide)))
  refine ab_iload_n X 2 d_MO_satisfiedMore_58 rfl rfl ?_
  refine ab_bipush (v := 16) X d_MO_satisfiedMore_59 (by decide) ?_
  refine ab_icmp_ne X 79 d_MO_satisfiedMore_61 rfl (fun _ => ?_) (fun hb => absurd hb ((by decide)))
  refine ab_iload_n X 2 d_MO_satisfiedMore_79 rfl rfl ?_
  refine ab_bipush (v := 17) X d_MO_satisfiedMore_80 (by decide) ?_
  refine ab_icmp_ne X 98 d_MO_satisfiedMore_82 rfl (fun hb => absurd ((by decide)) hb) (fun _ => ?_)
  refine ab_aload_n X 0 d_MO_satisfiedMore_85 rfl rfl ?_
  refine ab_iload_n X 3 d_MO_satisfiedMore_86 rfl rfl ?_
  refine ab_callS (as := [ab_I (nI x)]) X (fun h => by cases h) (t_MO_b u x) ls_MO_204 d_MO_satisfiedMore_87 rfl rfl ⟨by first | exact Nat.le_of_ble_eq_true rfl | (simp only [ab_rm]; omega), by first | exact Nat.le_of_ble_eq_true rfl | (simp only [ab_rm]; omega)⟩ ⟨by first | exact Nat.le_of_ble_eq_true rfl | (simp only [ab_rm]; omega), by first | exact Nat.le_of_ble_eq_true rfl | (simp only [ab_rm]; omega)⟩ (Nat.le_of_ble_eq_true rfl) (fun u87 r87 h87 => ?_)
  obtain ⟨e87, rfl⟩ := h87
  subst u87
  refine ab_iload X 4 d_MO_satisfiedMore_90 rfl ?_
  refine ab_callS (as := [ab_I (nI y)]) X (fun h => by cases h) (t_MO_b u y) ls_MO_204 d_MO_satisfiedMore_92 rfl rfl ⟨by first | exact Nat.le_of_ble_eq_true rfl | (simp only [ab_rm]; omega), by first | exact Nat.le_of_ble_eq_true rfl | (simp only [ab_rm]; omega)⟩ ⟨by first | exact Nat.le_of_ble_eq_true rfl | (simp only [ab_rm]; omega), by first | exact Nat.le_of_ble_eq_true rfl | (simp only [ab_rm]; omega)⟩ (Nat.le_of_ble_eq_true rfl) (fun u92 r92 h92 => ?_)
  obtain ⟨e92, rfl⟩ := h92
  subst u92
  refine ab_callV (as := [ab_I (nI (3 * x)), ab_I (nI (3 * y))]) X (fun h => by cases h) (s_MO_offerChoice u (3 * x) (3 * y) (4 * lf x - 3) (4 * lf y - 3) q (by omega) eb P0.1 (by omega) (by omega) (by rw [P0.ai (by decide) rfl]; exact sx.2.1) (by rw [P0.ai (by decide) rfl]; exact sy.2.1) (by omega) (by omega) (by omega) (by omega)) lk_MO_285 d_MO_satisfiedMore_95 rfl rfl (by first | assumption | decide | (show _ < 124; omega) | (show _ < 61; omega) | (show _ < 20; omega)) ⟨by first | exact Nat.le_of_ble_eq_true rfl | (simp only [ab_rm]; omega), by first | exact Nat.le_of_ble_eq_true rfl | (simp only [ab_rm]; omega)⟩ ⟨by first | exact Nat.le_of_ble_eq_true rfl | (simp only [ab_rm]; omega), by first | exact Nat.le_of_ble_eq_true rfl | (simp only [ab_rm]; omega)⟩ (Nat.le_of_ble_eq_true rfl) (fun u95 r95 h95 => ?_)
  obtain ⟨⟨q95, b95⟩, rfl⟩ := h95
  have P95 := P0.trans q95 (by decide)
  refine ab_iload_n X 2 d_MO_satisfiedMore_98 rfl rfl ?_
  refine ab_bipush (v := 18) X d_MO_satisfiedMore_99 (by decide) ?_
  refine ab_icmp_ne X 176 d_MO_satisfiedMore_101 rfl (fun _ => ?_) (fun hb => absurd hb ((by decide)))
  refine ab_iload_n X 2 d_MO_satisfiedMore_176 rfl rfl ?_
  refine ab_bipush (v := 21) X d_MO_satisfiedMore_177 (by decide) ?_
  refine ab_icmp_ne X 195 d_MO_satisfiedMore_179 rfl (fun _ => ?_) (fun hb => absurd hb ((by decide)))
  refine ab_iload_n X 2 d_MO_satisfiedMore_195 rfl rfl ?_
  refine ab_bipush (v := 22) X d_MO_satisfiedMore_196 (by decide) ?_
  refine ab_icmp_ne X 215 d_MO_satisfiedMore_198 rfl (fun _ => ?_) (fun hb => absurd hb ((by decide)))
  refine ab_iload_n X 2 d_MO_satisfiedMore_215 rfl rfl ?_
  refine ab_bipush (v := 23) X d_MO_satisfiedMore_216 (by decide) ?_
  refine ab_icmp_ne X 234 d_MO_satisfiedMore_218 rfl (fun _ => ?_) (fun hb => absurd hb ((by decide)))
  refine ab_iload_n X 2 d_MO_satisfiedMore_234 rfl rfl ?_
  refine ab_bipush (v := 24) X d_MO_satisfiedMore_235 (by decide) ?_
  refine ab_icmp_ne X 252 d_MO_satisfiedMore_237 rfl (fun _ => ?_) (fun hb => absurd hb ((by decide)))
  exact ab_retv X hr0 hlk d_MO_satisfiedMore_252 ⟨⟨P95, b95⟩, rfl⟩
set_option maxRecDepth 100000 in
set_option maxHeartbeats 1000000 in
theorem s_MO_satisfiedMore21 (u : ab_S) (P : Nat) (kd ar cn lf : Nat → Nat) (ch : Nat → Nat → Nat) (W : tW P kd ar cn lf ch) (T : tR P kd ar cn ch u) (p1 : Nat) (hp : p1 < P) (hk : kd p1 = 5 ∨ kd p1 = 6) (S : sV P lf (p1 + 1) u) (x y : Nat) (x1 : p1 < x) (x2 : x < P) (y1 : p1 < y) (y2 : y < P) (l0 : lf x + lf y ≤ lf p1) (l1 : 1 ≤ lf x) (l2 : 1 ≤ lf y) (q : Nat) (hq : q ≤ 64) (eb : bl q (u.1 17 0 29)) (h : mR u.2.1) (hqq : 4 * lf p1 - 3 ≤ q) : ab_C false l D ca y_MO_satisfiedMore b_MO_satisfiedMore 6 none 4 ab_nQ u [ab_O 17 0, ab_I (nI p1), ab_I (nI 21), ab_I (nI x), ab_I (nI y)] (fun u' v => (gP [26, 27, 29, 30, 115, 116] u u' ∧ bl q (u'.1 17 0 29)) ∧ v = none) := by
  refine ab_C.of (by decide) (Nat.le_of_ble_eq_true rfl) ?_
  intro p e s m args below meth c ad X hZ hr0 hlk
  have P0 : gP [26, 27, 29, 30, 115, 116] u u := gP.rf h
  obtain ⟨w1, w2, w3⟩ := W
  obtain ⟨l3, l4, -⟩ := (w3 p1 hp).1
  have sx := S x (by omega) x2
  have sy := S y (by omega) y2
  obtain ⟨mx, hmx, emx⟩ := sx.1
  obtain ⟨my, hmy, emy⟩ := sy.1
  refine ab_iload_n X 2 d_MO_satisfiedMore_0 rfl rfl ?_
  refine ab_bipush (v := 13) X d_MO_satisfiedMore_1 (by decide) ?_
  refine ab_icmp_ne X 19 d_MO_satisfiedMore_3 rfl (fun _ => ?_) (fun hb => absurd hb ((by decide)))
  refine ab_iload_n X 2 d_MO_satisfiedMore_19 rfl rfl ?_
  refine ab_bipush (v := 14) X d_MO_satisfiedMore_20 (by decide) ?_
  refine ab_icmp_ne X 38 d_MO_satisfiedMore_22 rfl (fun _ => ?_) (fun hb => absurd hb ((by decide)))
  refine ab_iload_n X 2 d_MO_satisfiedMore_38 rfl rfl ?_
  refine ab_bipush (v := 15) X d_MO_satisfiedMore_39 (by decide) ?_
  refine ab_icmp_ne X 58 d_MO_satisfiedMore_41 rfl (fun _ => ?_) (fun hb => absurd hb ((by decide)))
  refine ab_iload_n X 2 d_MO_satisfiedMore_58 rfl rfl ?_
  refine ab_bipush (v := 16) X d_MO_satisfiedMore_59 (by decide) ?_
  refine ab_icmp_ne X 79 d_MO_satisfiedMore_61 rfl (fun _ => ?_) (fun hb => absurd hb ((by decide)))
  refine ab_iload_n X 2 d_MO_satisfiedMore_79 rfl rfl ?_
  refine ab_bipush (v := 17) X d_MO_satisfiedMore_80 (by decide) ?_
  refine ab_icmp_ne X 98 d_MO_satisfiedMore_82 rfl (fun _ => ?_) (fun hb => absurd hb ((by decide)))
  refine ab_iload_n X 2 d_MO_satisfiedMore_98 rfl rfl ?_
  refine ab_bipush (v := 18) X d_MO_satisfiedMore_99 (by decide) ?_
  refine ab_icmp_ne X 176 d_MO_satisfiedMore_101 rfl (fun _ => ?_) (fun hb => absurd hb ((by decide)))
  refine ab_iload_n X 2 d_MO_satisfiedMore_176 rfl rfl ?_
  refine ab_bipush (v := 21) X d_MO_satisfiedMore_177 (by decide) ?_
  refine ab_icmp_ne X 195 d_MO_satisfiedMore_179 rfl (fun hb => absurd ((by decide)) hb) (fun _ => ?_)
  refine ab_aload_n X 0 d_MO_satisfiedMore_182 rfl rfl ?_
  refine ab_iload_n X 3 d_MO_satisfiedMore_183 rfl rfl ?_
  refine ab_callS (as := [ab_I (nI x)]) X (fun h => by cases h) (t_MO_v u x) ls_MO_201 d_MO_satisfiedMore_184 rfl rfl ⟨by first | exact Nat.le_of_ble_eq_true rfl | (simp only [ab_rm]; omega), by first | exact Nat.le_of_ble_eq_true rfl | (simp only [ab_rm]; omega)⟩ ⟨by first | exact Nat.le_of_ble_eq_true rfl | (simp only [ab_rm]; omega), by first | exact Nat.le_of_ble_eq_true rfl | (simp only [ab_rm]; omega)⟩ (Nat.le_of_ble_eq_true rfl) (fun u184 r184 h184 => ?_)
  obtain ⟨e184, rfl⟩ := h184
  subst u184
  refine ab_iload X 4 d_MO_satisfiedMore_187 rfl ?_
  refine ab_callS (as := [ab_I (nI y)]) X (fun h => by cases h) (t_MO_v u y) ls_MO_201 d_MO_satisfiedMore_189 rfl rfl ⟨by first | exact Nat.le_of_ble_eq_true rfl | (simp only [ab_rm]; omega), by first | exact Nat.le_of_ble_eq_true rfl | (simp only [ab_rm]; omega)⟩ ⟨by first | exact Nat.le_of_ble_eq_true rfl | (simp only [ab_rm]; omega), by first | exact Nat.le_of_ble_eq_true rfl | (simp only [ab_rm]; omega)⟩ (Nat.le_of_ble_eq_true rfl) (fun u189 r189 h189 => ?_)
  obtain ⟨e189, rfl⟩ := h189
  subst u189
  refine ab_callV (as := [ab_I (nI (3 * x + 2)), ab_I (nI (3 * y + 2))]) X (fun h => by cases h) (s_MO_offerBoth u (3 * x + 2) (3 * y + 2) (4 * lf x - 2) (4 * lf y - 2) q (by omega) eb P0.1 (by omega) (by omega) (by rw [P0.ai (by decide) rfl]; exact sx.2.2.2) (by rw [P0.ai (by decide) rfl]; exact sy.2.2.2) (by omega) (by omega) (by omega)) lk_MO_279 d_MO_satisfiedMore_192 rfl rfl (by first | assumption | decide | (show _ < 124; omega) | (show _ < 61; omega) | (show _ < 20; omega)) ⟨by first | exact Nat.le_of_ble_eq_true rfl | (simp only [ab_rm]; omega), by first | exact Nat.le_of_ble_eq_true rfl | (simp only [ab_rm]; omega)⟩ ⟨by first | exact Nat.le_of_ble_eq_true rfl | (simp only [ab_rm]; omega), by first | exact Nat.le_of_ble_eq_true rfl | (simp only [ab_rm]; omega)⟩ (Nat.le_of_ble_eq_true rfl) (fun u192 r192 h192 => ?_)
  obtain ⟨⟨q192, b192⟩, rfl⟩ := h192
  have P192 := P0.trans q192 (by decide)
  refine ab_iload_n X 2 d_MO_satisfiedMore_195 rfl rfl ?_
  refine ab_bipush (v := 22) X d_MO_satisfiedMore_196 (by decide) ?_
  refine ab_icmp_ne X 215 d_MO_satisfiedMore_198 rfl (fun _ => ?_) (fun hb => absurd hb ((by decide)))
  refine ab_iload_n X 2 d_MO_satisfiedMore_215 rfl rfl ?_
  refine ab_bipush (v := 23) X d_MO_satisfiedMore_216 (by decide) ?_
  refine ab_icmp_ne X 234 d_MO_satisfiedMore_218 rfl (fun _ => ?_) (fun hb => absurd hb ((by decide)))
  refine ab_iload_n X 2 d_MO_satisfiedMore_234 rfl rfl ?_
  refine ab_bipush (v := 24) X d_MO_satisfiedMore_235 (by decide) ?_
  refine ab_icmp_ne X 252 d_MO_satisfiedMore_237 rfl (fun _ => ?_) (fun hb => absurd hb ((by decide)))
  exact ab_retv X hr0 hlk d_MO_satisfiedMore_252 ⟨⟨P192, b192⟩, rfl⟩
set_option maxRecDepth 100000 in
set_option maxHeartbeats 1000000 in
theorem s_MO_satisfiedMore22 (u : ab_S) (P : Nat) (kd ar cn lf : Nat → Nat) (ch : Nat → Nat → Nat) (W : tW P kd ar cn lf ch) (T : tR P kd ar cn ch u) (p1 : Nat) (hp : p1 < P) (hk : kd p1 = 5 ∨ kd p1 = 6) (S : sV P lf (p1 + 1) u) (x y : Nat) (x1 : p1 < x) (x2 : x < P) (y1 : p1 < y) (y2 : y < P) (l0 : lf x + lf y ≤ lf p1) (l1 : 1 ≤ lf x) (l2 : 1 ≤ lf y) (q : Nat) (hq : q ≤ 64) (eb : bl q (u.1 17 0 29)) (h : mR u.2.1) (hqq : 4 * lf p1 - 3 ≤ q) : ab_C false l D ca y_MO_satisfiedMore b_MO_satisfiedMore 6 none 4 ab_nQ u [ab_O 17 0, ab_I (nI p1), ab_I (nI 22), ab_I (nI x), ab_I (nI y)] (fun u' v => (gP [26, 27, 29, 30, 115, 116] u u' ∧ bl q (u'.1 17 0 29)) ∧ v = none) := by
  refine ab_C.of (by decide) (Nat.le_of_ble_eq_true rfl) ?_
  intro p e s m args below meth c ad X hZ hr0 hlk
  have P0 : gP [26, 27, 29, 30, 115, 116] u u := gP.rf h
  obtain ⟨w1, w2, w3⟩ := W
  obtain ⟨l3, l4, -⟩ := (w3 p1 hp).1
  have sx := S x (by omega) x2
  have sy := S y (by omega) y2
  obtain ⟨mx, hmx, emx⟩ := sx.1
  obtain ⟨my, hmy, emy⟩ := sy.1
  refine ab_iload_n X 2 d_MO_satisfiedMore_0 rfl rfl ?_
  refine ab_bipush (v := 13) X d_MO_satisfiedMore_1 (by decide) ?_
  refine ab_icmp_ne X 19 d_MO_satisfiedMore_3 rfl (fun _ => ?_) (fun hb => absurd hb ((by decide)))
  refine ab_iload_n X 2 d_MO_satisfiedMore_19 rfl rfl ?_
  refine ab_bipush (v := 14) X d_MO_satisfiedMore_20 (by decide) ?_
  refine ab_icmp_ne X 38 d_MO_satisfiedMore_22 rfl (fun _ => ?_) (fun hb => absurd hb ((by decide)))
  refine ab_iload_n X 2 d_MO_satisfiedMore_38 rfl rfl ?_
  refine ab_bipush (v := 15) X d_MO_satisfiedMore_39 (by decide) ?_
  refine ab_icmp_ne X 58 d_MO_satisfiedMore_41 rfl (fun _ => ?_) (fun hb => absurd hb ((by decide)))
  refine ab_iload_n X 2 d_MO_satisfiedMore_58 rfl rfl ?_
  refine ab_bipush (v := 16) X d_MO_satisfiedMore_59 (by decide) ?_
  refine ab_icmp_ne X 79 d_MO_satisfiedMore_61 rfl (fun _ => ?_) (fun hb => absurd hb ((by decide)))
  refine ab_iload_n X 2 d_MO_satisfiedMore_79 rfl rfl ?_
  refine ab_bipush (v := 17) X d_MO_satisfiedMore_80 (by decide) ?_
  refine ab_icmp_ne X 98 d_MO_satisfiedMore_82 rfl (fun _ => ?_) (fun hb => absurd hb ((by decide)))
  refine ab_iload_n X 2 d_MO_satisfiedMore_98 rfl rfl ?_
  refine ab_bipush (v := 18) X d_MO_satisfiedMore_99 (by decide) ?_
  refine ab_icmp_ne X 176 d_MO_satisfiedMore_101 rfl (fun _ => ?_) (fun hb => absurd hb ((by decide)))
  refine ab_iload_n X 2 d_MO_satisfiedMore_176 rfl rfl ?_
  refine ab_bipush (v := 21) X d_MO_satisfiedMore_177 (by decide) ?_
  refine ab_icmp_ne X 195 d_MO_satisfiedMore_179 rfl (fun _ => ?_) (fun hb => absurd hb ((by decide)))
  refine ab_iload_n X 2 d_MO_satisfiedMore_195 rfl rfl ?_
  refine ab_bipush (v := 22) X d_MO_satisfiedMore_196 (by decide) ?_
  refine ab_icmp_ne X 215 d_MO_satisfiedMore_198 rfl (fun hb => absurd ((by decide)) hb) (fun _ => ?_)
  refine ab_aload_n X 0 d_MO_satisfiedMore_201 rfl rfl ?_
  refine ab_iload_n X 3 d_MO_satisfiedMore_202 rfl rfl ?_
  refine ab_callS (as := [ab_I (nI x)]) X (fun h => by cases h) (t_MO_d u x) ls_MO_195 d_MO_satisfiedMore_203 rfl rfl ⟨by first | exact Nat.le_of_ble_eq_true rfl | (simp only [ab_rm]; omega), by first | exact Nat.le_of_ble_eq_true rfl | (simp only [ab_rm]; omega)⟩ ⟨by first | exact Nat.le_of_ble_eq_true rfl | (simp only [ab_rm]; omega), by first | exact Nat.le_of_ble_eq_true rfl | (simp only [ab_rm]; omega)⟩ (Nat.le_of_ble_eq_true rfl) (fun u203 r203 h203 => ?_)
  obtain ⟨e203, rfl⟩ := h203
  subst u203
  refine ab_iload_n X 3 d_MO_satisfiedMore_206 rfl rfl ?_
  refine ab_iload X 4 d_MO_satisfiedMore_207 rfl ?_
  refine ab_callS (as := [ab_I (nI y)]) X (fun h => by cases h) (t_MO_v u y) ls_MO_201 d_MO_satisfiedMore_209 rfl rfl ⟨by first | exact Nat.le_of_ble_eq_true rfl | (simp only [ab_rm]; omega), by first | exact Nat.le_of_ble_eq_true rfl | (simp only [ab_rm]; omega)⟩ ⟨by first | exact Nat.le_of_ble_eq_true rfl | (simp only [ab_rm]; omega), by first | exact Nat.le_of_ble_eq_true rfl | (simp only [ab_rm]; omega)⟩ (Nat.le_of_ble_eq_true rfl) (fun u209 r209 h209 => ?_)
  obtain ⟨e209, rfl⟩ := h209
  subst u209
  refine ab_callV (as := [ab_I (nI (3 * x + 1)), ab_I (nI x), ab_I (nI (3 * y + 2))]) X (fun h => by cases h) (s_MO_offerEither u (3 * x + 1) x (3 * y + 2) (4 * lf x - 2) mx (4 * lf y - 2) q (by omega) eb P0.1 (by omega) (by omega) (by omega) (by rw [P0.ai (by decide) rfl]; exact sx.2.2.1) (P0.ai (by decide) emx) (by rw [P0.ai (by decide) rfl]; exact sy.2.2.2) (by omega) (by omega) (by omega) (by omega) (by omega)) lk_MO_282 d_MO_satisfiedMore_212 rfl rfl (by first | assumption | decide | (show _ < 124; omega) | (show _ < 61; omega) | (show _ < 20; omega)) ⟨by first | exact Nat.le_of_ble_eq_true rfl | (simp only [ab_rm]; omega), by first | exact Nat.le_of_ble_eq_true rfl | (simp only [ab_rm]; omega)⟩ ⟨by first | exact Nat.le_of_ble_eq_true rfl | (simp only [ab_rm]; omega), by first | exact Nat.le_of_ble_eq_true rfl | (simp only [ab_rm]; omega)⟩ (Nat.le_of_ble_eq_true rfl) (fun u212 r212 h212 => ?_)
  obtain ⟨⟨q212, b212⟩, rfl⟩ := h212
  have P212 := P0.trans q212 (by decide)
  refine ab_iload_n X 2 d_MO_satisfiedMore_215 rfl rfl ?_
  refine ab_bipush (v := 23) X d_MO_satisfiedMore_216 (by decide) ?_
  refine ab_icmp_ne X 234 d_MO_satisfiedMore_218 rfl (fun _ => ?_) (fun hb => absurd hb ((by decide)))
  refine ab_iload_n X 2 d_MO_satisfiedMore_234 rfl rfl ?_
  refine ab_bipush (v := 24) X d_MO_satisfiedMore_235 (by decide) ?_
  refine ab_icmp_ne X 252 d_MO_satisfiedMore_237 rfl (fun _ => ?_) (fun hb => absurd hb ((by decide)))
  exact ab_retv X hr0 hlk d_MO_satisfiedMore_252 ⟨⟨P212, b212⟩, rfl⟩
set_option maxRecDepth 100000 in
set_option maxHeartbeats 1000000 in
theorem s_MO_satisfiedMore23 (u : ab_S) (P : Nat) (kd ar cn lf : Nat → Nat) (ch : Nat → Nat → Nat) (W : tW P kd ar cn lf ch) (T : tR P kd ar cn ch u) (p1 : Nat) (hp : p1 < P) (hk : kd p1 = 5 ∨ kd p1 = 6) (S : sV P lf (p1 + 1) u) (x y : Nat) (x1 : p1 < x) (x2 : x < P) (y1 : p1 < y) (y2 : y < P) (l0 : lf x + lf y ≤ lf p1) (l1 : 1 ≤ lf x) (l2 : 1 ≤ lf y) (q : Nat) (hq : q ≤ 64) (eb : bl q (u.1 17 0 29)) (h : mR u.2.1) (hqq : 4 * lf p1 - 3 ≤ q) : ab_C false l D ca y_MO_satisfiedMore b_MO_satisfiedMore 6 none 4 ab_nQ u [ab_O 17 0, ab_I (nI p1), ab_I (nI 23), ab_I (nI x), ab_I (nI y)] (fun u' v => (gP [26, 27, 29, 30, 115, 116] u u' ∧ bl q (u'.1 17 0 29)) ∧ v = none) := by
  refine ab_C.of (by decide) (Nat.le_of_ble_eq_true rfl) ?_
  intro p e s m args below meth c ad X hZ hr0 hlk
  have P0 : gP [26, 27, 29, 30, 115, 116] u u := gP.rf h
  obtain ⟨w1, w2, w3⟩ := W
  obtain ⟨l3, l4, -⟩ := (w3 p1 hp).1
  have sx := S x (by omega) x2
  have sy := S y (by omega) y2
  obtain ⟨mx, hmx, emx⟩ := sx.1
  obtain ⟨my, hmy, emy⟩ := sy.1
  refine ab_iload_n X 2 d_MO_satisfiedMore_0 rfl rfl ?_
  refine ab_bipush (v := 13) X d_MO_satisfiedMore_1 (by decide) ?_
  refine ab_icmp_ne X 19 d_MO_satisfiedMore_3 rfl (fun _ => ?_) (fun hb => absurd hb ((by decide)))
  refine ab_iload_n X 2 d_MO_satisfiedMore_19 rfl rfl ?_
  refine ab_bipush (v := 14) X d_MO_satisfiedMore_20 (by decide) ?_
  refine ab_icmp_ne X 38 d_MO_satisfiedMore_22 rfl (fun _ => ?_) (fun hb => absurd hb ((by decide)))
  refine ab_iload_n X 2 d_MO_satisfiedMore_38 rfl rfl ?_
  refine ab_bipush (v := 15) X d_MO_satisfiedMore_39 (by decide) ?_
  refine ab_icmp_ne X 58 d_MO_satisfiedMore_41 rfl (fun _ => ?_) (fun hb => absurd hb ((by decide)))
  refine ab_iload_n X 2 d_MO_satisfiedMore_58 rfl rfl ?_
  refine ab_bipush (v := 16) X d_MO_satisfiedMore_59 (by decide) ?_
  refine ab_icmp_ne X 79 d_MO_satisfiedMore_61 rfl (fun _ => ?_) (fun hb => absurd hb ((by decide)))
  refine ab_iload_n X 2 d_MO_satisfiedMore_79 rfl rfl ?_
  refine ab_bipush (v := 17) X d_MO_satisfiedMore_80 (by decide) ?_
  refine ab_icmp_ne X 98 d_MO_satisfiedMore_82 rfl (fun _ => ?_) (fun hb => absurd hb ((by decide)))
  refine ab_iload_n X 2 d_MO_satisfiedMore_98 rfl rfl ?_
  refine ab_bipush (v := 18) X d_MO_satisfiedMore_99 (by decide) ?_
  refine ab_icmp_ne X 176 d_MO_satisfiedMore_101 rfl (fun _ => ?_) (fun hb => absurd hb ((by decide)))
  refine ab_iload_n X 2 d_MO_satisfiedMore_176 rfl rfl ?_
  refine ab_bipush (v := 21) X d_MO_satisfiedMore_177 (by decide) ?_
  refine ab_icmp_ne X 195 d_MO_satisfiedMore_179 rfl (fun _ => ?_) (fun hb => absurd hb ((by decide)))
  refine ab_iload_n X 2 d_MO_satisfiedMore_195 rfl rfl ?_
  refine ab_bipush (v := 22) X d_MO_satisfiedMore_196 (by decide) ?_
  refine ab_icmp_ne X 215 d_MO_satisfiedMore_198 rfl (fun _ => ?_) (fun hb => absurd hb ((by decide)))
  refine ab_iload_n X 2 d_MO_satisfiedMore_215 rfl rfl ?_
  refine ab_bipush (v := 23) X d_MO_satisfiedMore_216 (by decide) ?_
  refine ab_icmp_ne X 234 d_MO_satisfiedMore_218 rfl (fun hb => absurd ((by decide)) hb) (fun _ => ?_)
  refine ab_aload_n X 0 d_MO_satisfiedMore_221 rfl rfl ?_
  refine ab_iload_n X 3 d_MO_satisfiedMore_222 rfl rfl ?_
  refine ab_callS (as := [ab_I (nI x)]) X (fun h => by cases h) (t_MO_v u x) ls_MO_201 d_MO_satisfiedMore_223 rfl rfl ⟨by first | exact Nat.le_of_ble_eq_true rfl | (simp only [ab_rm]; omega), by first | exact Nat.le_of_ble_eq_true rfl | (simp only [ab_rm]; omega)⟩ ⟨by first | exact Nat.le_of_ble_eq_true rfl | (simp only [ab_rm]; omega), by first | exact Nat.le_of_ble_eq_true rfl | (simp only [ab_rm]; omega)⟩ (Nat.le_of_ble_eq_true rfl) (fun u223 r223 h223 => ?_)
  obtain ⟨e223, rfl⟩ := h223
  subst u223
  refine ab_iload X 4 d_MO_satisfiedMore_226 rfl ?_
  refine ab_callS (as := [ab_I (nI y)]) X (fun h => by cases h) (t_MO_v u y) ls_MO_201 d_MO_satisfiedMore_228 rfl rfl ⟨by first | exact Nat.le_of_ble_eq_true rfl | (simp only [ab_rm]; omega), by first | exact Nat.le_of_ble_eq_true rfl | (simp only [ab_rm]; omega)⟩ ⟨by first | exact Nat.le_of_ble_eq_true rfl | (simp only [ab_rm]; omega), by first | exact Nat.le_of_ble_eq_true rfl | (simp only [ab_rm]; omega)⟩ (Nat.le_of_ble_eq_true rfl) (fun u228 r228 h228 => ?_)
  obtain ⟨e228, rfl⟩ := h228
  subst u228
  refine ab_callV (as := [ab_I (nI (3 * x + 2)), ab_I (nI (3 * y + 2))]) X (fun h => by cases h) (s_MO_offerChoice u (3 * x + 2) (3 * y + 2) (4 * lf x - 2) (4 * lf y - 2) q (by omega) eb P0.1 (by omega) (by omega) (by rw [P0.ai (by decide) rfl]; exact sx.2.2.2) (by rw [P0.ai (by decide) rfl]; exact sy.2.2.2) (by omega) (by omega) (by omega) (by omega)) lk_MO_285 d_MO_satisfiedMore_231 rfl rfl (by first | assumption | decide | (show _ < 124; omega) | (show _ < 61; omega) | (show _ < 20; omega)) ⟨by first | exact Nat.le_of_ble_eq_true rfl | (simp only [ab_rm]; omega), by first | exact Nat.le_of_ble_eq_true rfl | (simp only [ab_rm]; omega)⟩ ⟨by first | exact Nat.le_of_ble_eq_true rfl | (simp only [ab_rm]; omega), by first | exact Nat.le_of_ble_eq_true rfl | (simp only [ab_rm]; omega)⟩ (Nat.le_of_ble_eq_true rfl) (fun u231 r231 h231 => ?_)
  obtain ⟨⟨q231, b231⟩, rfl⟩ := h231
  have P231 := P0.trans q231 (by decide)
  refine ab_iload_n X 2 d_MO_satisfiedMore_234 rfl rfl ?_
  refine ab_bipush (v := 24) X d_MO_satisfiedMore_235 (by decide) ?_
  refine ab_icmp_ne X 252 d_MO_satisfiedMore_237 rfl (fun _ => ?_) (fun hb => absurd hb ((by decide)))
  exact ab_retv X hr0 hlk d_MO_satisfiedMore_252 ⟨⟨P231, b231⟩, rfl⟩
set_option maxRecDepth 100000 in
set_option maxHeartbeats 1000000 in
theorem s_MO_satisfiedMore24 (u : ab_S) (P : Nat) (kd ar cn lf : Nat → Nat) (ch : Nat → Nat → Nat) (W : tW P kd ar cn lf ch) (T : tR P kd ar cn ch u) (p1 : Nat) (hp : p1 < P) (a b : Int32) (sB : bl (4 * lf p1 - 3) (u.1 18 11 (3 * p1))) (er : u.1 17 0 26 = nI 0) (q : Nat) (hq : q ≤ 64) (eb : bl q (u.1 17 0 29)) (h : mR u.2.1) (hqq : 4 * lf p1 - 3 ≤ q) : ab_C false l D ca y_MO_satisfiedMore b_MO_satisfiedMore 6 none 4 ab_nQ u [ab_O 17 0, ab_I (nI p1), ab_I (nI 24), ab_I a, ab_I b] (fun u' v => (gP [26, 27, 29, 30, 115, 116] u u' ∧ bl q (u'.1 17 0 29)) ∧ v = none) := by
  refine ab_C.of (by decide) (Nat.le_of_ble_eq_true rfl) ?_
  intro p e s m args below meth c ad X hZ hr0 hlk
  have P0 : gP [26, 27, 29, 30, 115, 116] u u := gP.rf h
  obtain ⟨w1, w2, w3⟩ := W
  obtain ⟨l3, l4, -⟩ := (w3 p1 hp).1
  refine ab_iload_n X 2 d_MO_satisfiedMore_0 rfl rfl ?_
  refine ab_bipush (v := 13) X d_MO_satisfiedMore_1 (by decide) ?_
  refine ab_icmp_ne X 19 d_MO_satisfiedMore_3 rfl (fun _ => ?_) (fun hb => absurd hb ((by decide)))
  refine ab_iload_n X 2 d_MO_satisfiedMore_19 rfl rfl ?_
  refine ab_bipush (v := 14) X d_MO_satisfiedMore_20 (by decide) ?_
  refine ab_icmp_ne X 38 d_MO_satisfiedMore_22 rfl (fun _ => ?_) (fun hb => absurd hb ((by decide)))
  refine ab_iload_n X 2 d_MO_satisfiedMore_38 rfl rfl ?_
  refine ab_bipush (v := 15) X d_MO_satisfiedMore_39 (by decide) ?_
  refine ab_icmp_ne X 58 d_MO_satisfiedMore_41 rfl (fun _ => ?_) (fun hb => absurd hb ((by decide)))
  refine ab_iload_n X 2 d_MO_satisfiedMore_58 rfl rfl ?_
  refine ab_bipush (v := 16) X d_MO_satisfiedMore_59 (by decide) ?_
  refine ab_icmp_ne X 79 d_MO_satisfiedMore_61 rfl (fun _ => ?_) (fun hb => absurd hb ((by decide)))
  refine ab_iload_n X 2 d_MO_satisfiedMore_79 rfl rfl ?_
  refine ab_bipush (v := 17) X d_MO_satisfiedMore_80 (by decide) ?_
  refine ab_icmp_ne X 98 d_MO_satisfiedMore_82 rfl (fun _ => ?_) (fun hb => absurd hb ((by decide)))
  refine ab_iload_n X 2 d_MO_satisfiedMore_98 rfl rfl ?_
  refine ab_bipush (v := 18) X d_MO_satisfiedMore_99 (by decide) ?_
  refine ab_icmp_ne X 176 d_MO_satisfiedMore_101 rfl (fun _ => ?_) (fun hb => absurd hb ((by decide)))
  refine ab_iload_n X 2 d_MO_satisfiedMore_176 rfl rfl ?_
  refine ab_bipush (v := 21) X d_MO_satisfiedMore_177 (by decide) ?_
  refine ab_icmp_ne X 195 d_MO_satisfiedMore_179 rfl (fun _ => ?_) (fun hb => absurd hb ((by decide)))
  refine ab_iload_n X 2 d_MO_satisfiedMore_195 rfl rfl ?_
  refine ab_bipush (v := 22) X d_MO_satisfiedMore_196 (by decide) ?_
  refine ab_icmp_ne X 215 d_MO_satisfiedMore_198 rfl (fun _ => ?_) (fun hb => absurd hb ((by decide)))
  refine ab_iload_n X 2 d_MO_satisfiedMore_215 rfl rfl ?_
  refine ab_bipush (v := 23) X d_MO_satisfiedMore_216 (by decide) ?_
  refine ab_icmp_ne X 234 d_MO_satisfiedMore_218 rfl (fun _ => ?_) (fun hb => absurd hb ((by decide)))
  refine ab_iload_n X 2 d_MO_satisfiedMore_234 rfl rfl ?_
  refine ab_bipush (v := 24) X d_MO_satisfiedMore_235 (by decide) ?_
  refine ab_icmp_ne X 252 d_MO_satisfiedMore_237 rfl (fun hb => absurd ((by decide)) hb) (fun _ => ?_)
  refine ab_aload_n X 0 d_MO_satisfiedMore_240 rfl rfl ?_
  refine ab_iload_n X 1 d_MO_satisfiedMore_241 rfl rfl ?_
  refine ab_callS (as := [ab_I (nI p1)]) X (fun h => by cases h) (t_MO_b u p1) ls_MO_204 d_MO_satisfiedMore_242 rfl rfl ⟨by first | exact Nat.le_of_ble_eq_true rfl | (simp only [ab_rm]; omega), by first | exact Nat.le_of_ble_eq_true rfl | (simp only [ab_rm]; omega)⟩ ⟨by first | exact Nat.le_of_ble_eq_true rfl | (simp only [ab_rm]; omega), by first | exact Nat.le_of_ble_eq_true rfl | (simp only [ab_rm]; omega)⟩ (Nat.le_of_ble_eq_true rfl) (fun u242 r242 h242 => ?_)
  obtain ⟨e242, rfl⟩ := h242
  subst u242
  refine ab_callV (as := [ab_I (nI (3 * p1))]) X (fun h => by cases h) (s_MO_yes u (3 * p1) (4 * lf p1 - 3) 0 h (by omega) sB (by omega) er (by omega)) lk_MO_270 d_MO_satisfiedMore_245 rfl rfl (by first | assumption | decide | (show _ < 124; omega) | (show _ < 61; omega) | (show _ < 20; omega)) ⟨by first | exact Nat.le_of_ble_eq_true rfl | (simp only [ab_rm]; omega), by first | exact Nat.le_of_ble_eq_true rfl | (simp only [ab_rm]; omega)⟩ ⟨by first | exact Nat.le_of_ble_eq_true rfl | (simp only [ab_rm]; omega), by first | exact Nat.le_of_ble_eq_true rfl | (simp only [ab_rm]; omega)⟩ (Nat.le_of_ble_eq_true rfl) (fun u245 r245 h245 => ?_)
  obtain ⟨⟨q245, r245, hr245, er245⟩, rfl⟩ := h245
  have P245 := P0.trans q245 (by decide)
  refine ab_aload_n X 0 d_MO_satisfiedMore_248 rfl rfl ?_
  refine ab_callV (as := []) X (fun h => by cases h) (s_MO_offer u245 q r245 P245.1 er245 (by omega) hq (by rw [q245.fi (by decide) rfl]; exact eb)) lk_MO_273 d_MO_satisfiedMore_249 rfl rfl (by first | assumption | decide | (show _ < 124; omega) | (show _ < 61; omega) | (show _ < 20; omega)) ⟨by first | exact Nat.le_of_ble_eq_true rfl | (simp only [ab_rm]; omega), by first | exact Nat.le_of_ble_eq_true rfl | (simp only [ab_rm]; omega)⟩ ⟨by first | exact Nat.le_of_ble_eq_true rfl | (simp only [ab_rm]; omega), by first | exact Nat.le_of_ble_eq_true rfl | (simp only [ab_rm]; omega)⟩ (Nat.le_of_ble_eq_true rfl) (fun u249 r249 h249 => ?_)
  obtain ⟨⟨q249, b249⟩, rfl⟩ := h249
  have P249 := P245.trans q249 (by decide)
  exact ab_retv X hr0 hlk d_MO_satisfiedMore_252 ⟨⟨P249, b249⟩, rfl⟩
set_option maxRecDepth 100000 in
set_option maxHeartbeats 1000000 in
theorem s_MO_satisfiedMore18 (u : ab_S) (P : Nat) (kd ar cn lf : Nat → Nat) (ch : Nat → Nat → Nat) (W : tW P kd ar cn lf ch) (T : tR P kd ar cn ch u) (p1 : Nat) (hp : p1 < P) (hk : kd p1 = 7) (S : sV P lf (p1 + 1) u) (a b : Int32) (er : u.1 17 0 26 = nI 0) (q : Nat) (hq : q ≤ 64) (eb : bl q (u.1 17 0 29)) (h : mR u.2.1) (hqq : 4 * lf p1 - 3 ≤ q) : ab_C false l D ca y_MO_satisfiedMore b_MO_satisfiedMore 6 none 4 ab_nQ u [ab_O 17 0, ab_I (nI p1), ab_I (nI 18), ab_I a, ab_I b] (fun u' v => (gP [26, 27, 29, 30, 115, 116] u u' ∧ bl q (u'.1 17 0 29)) ∧ v = none) := by
  refine ab_C.of (by decide) (Nat.le_of_ble_eq_true rfl) ?_
  intro p e s m args below meth c ad X hZ hr0 hlk
  have P0 : gP [26, 27, 29, 30, 115, 116] u u := gP.rf h
  obtain ⟨w1, w2, w3⟩ := W
  obtain ⟨-, -, a3⟩ := w3 p1 hp
  obtain ⟨n2, n4, -, -, b5, b6⟩ := a3 (by omega)
  obtain ⟨-, ea, ec, ech⟩ := T.2 p1 hp
  have hB := sm_lf (fun i => lf (ch p1 i)) (cn p1) (fun i hi => (w3 _ (b5 i hi).2).1.1)
  have loop : ∀ (k j : Nat) (u2 : ab_S) (r : Nat), k + j = cn p1 → gP [26, 27, 29, 30, 115, 116] u u2 → bl q (u2.1 17 0 29) → u2.1 17 0 26 = nI r → r ≤ sm (fun i => 4 * lf (ch p1 i) - 2) j → ab_J p l e (ab_rm 4 0 0) s m args below meth c (MQ below (ab_Q D ca ad ab_nQ s.heap.size (fun u' v => (gP [26, 27, 29, 30, 115, 116] u u' ∧ bl q (u'.1 17 0 29)) ∧ v = none)) args s 0 0 (ab_A ad ab_nQ s.heap.size)) D ca (ab_A ad ab_nQ s.heap.size) s.heap 6 0 0 ad ab_nQ u2 107 [(5, ab_I (nI j)), (0, ab_O 17 0), (1, ab_I (nI p1)), (2, ab_I (nI 18)), (3, ab_I a), (4, ab_I b)] [] := by
    intro k
    induction k with
    | zero =>
      intro j u2 r hj P2 b2 er hr
      obtain rfl : j = cn p1 := by omega
      refine ab_iload X 0 d_MO_satisfiedMore_107 rfl ?_
      refine ab_aload_n X 1 d_MO_satisfiedMore_109 rfl rfl ?_
      refine ab_gR X fl_MO_39 d_MO_satisfiedMore_110 (by first | assumption | decide | (show _ < 124; omega) | (show _ < 61; omega) | (show _ < 20; omega)) (P2.1.mo9) ?_
      refine ab_iload_n X 2 d_MO_satisfiedMore_113 rfl rfl ?_
      refine ab_iald X (p1) ⟨rfl, rfl⟩ d_MO_satisfiedMore_114 (by first | assumption | decide | (show _ < 124; omega) | (show _ < 61; omega) | (show _ < 20; omega)) (rfl) (show p1 < 40 by omega) (ab_ln_lt _ _) ?_
      refine ab_top (P2.ai (by decide) ec) ?_
      refine ab_icmp_ge X 172 d_MO_satisfiedMore_115 rfl (fun _ => ?_) (fun hb => absurd ((nI_le (by omega) (by omega))) hb)
      refine ab_aload_n X 1 d_MO_satisfiedMore_172 rfl rfl ?_
      refine ab_callV (as := []) X (fun h => by cases h) (s_MO_offer u2 q r P2.1 er (by omega) hq b2) lk_MO_273 d_MO_satisfiedMore_173 rfl rfl (by first | assumption | decide | (show _ < 124; omega) | (show _ < 61; omega) | (show _ < 20; omega)) ⟨by first | exact Nat.le_of_ble_eq_true rfl | (simp only [ab_rm]; omega), by first | exact Nat.le_of_ble_eq_true rfl | (simp only [ab_rm]; omega)⟩ ⟨by first | exact Nat.le_of_ble_eq_true rfl | (simp only [ab_rm]; omega), by first | exact Nat.le_of_ble_eq_true rfl | (simp only [ab_rm]; omega)⟩ (Nat.le_of_ble_eq_true rfl) (fun u173 r173 h173 => ?_)
      obtain ⟨⟨q173, b173⟩, rfl⟩ := h173
      have P173 := P2.trans q173 (by decide)
      refine ab_iload_n X 3 d_MO_satisfiedMore_176 rfl rfl ?_
      refine ab_bipush (v := 21) X d_MO_satisfiedMore_177 (by decide) ?_
      refine ab_icmp_ne X 195 d_MO_satisfiedMore_179 rfl (fun _ => ?_) (fun hb => absurd hb ((by decide)))
      refine ab_iload_n X 3 d_MO_satisfiedMore_195 rfl rfl ?_
      refine ab_bipush (v := 22) X d_MO_satisfiedMore_196 (by decide) ?_
      refine ab_icmp_ne X 215 d_MO_satisfiedMore_198 rfl (fun _ => ?_) (fun hb => absurd hb ((by decide)))
      refine ab_iload_n X 3 d_MO_satisfiedMore_215 rfl rfl ?_
      refine ab_bipush (v := 23) X d_MO_satisfiedMore_216 (by decide) ?_
      refine ab_icmp_ne X 234 d_MO_satisfiedMore_218 rfl (fun _ => ?_) (fun hb => absurd hb ((by decide)))
      refine ab_iload_n X 3 d_MO_satisfiedMore_234 rfl rfl ?_
      refine ab_bipush (v := 24) X d_MO_satisfiedMore_235 (by decide) ?_
      refine ab_icmp_ne X 252 d_MO_satisfiedMore_237 rfl (fun _ => ?_) (fun hb => absurd hb ((by decide)))
      exact ab_retv X hr0 hlk d_MO_satisfiedMore_252 ⟨⟨P173, b173⟩, rfl⟩
    | succ k ih2 =>
      intro j u2 r hj P2 b2 er hr
      obtain ⟨c1', c2⟩ := b5 j (by omega)
      obtain ⟨-, sB, -, sV⟩ := S (ch p1 j) (by omega) c2
      obtain ⟨l1, l2, -⟩ := (w3 _ c2).1
      have hs : sm (fun i => 4 * lf (ch p1 i) - 2) (j + 1) = sm (fun i => 4 * lf (ch p1 i) - 2) j + (4 * lf (ch p1 j) - 2) := rfl
      have hs2 := sm_mono (fun i => 4 * lf (ch p1 i) - 2) (show j + 1 ≤ cn p1 by omega)
      refine ab_iload X 0 d_MO_satisfiedMore_107 rfl ?_
      refine ab_aload_n X 1 d_MO_satisfiedMore_109 rfl rfl ?_
      refine ab_gR X fl_MO_39 d_MO_satisfiedMore_110 (by first | assumption | decide | (show _ < 124; omega) | (show _ < 61; omega) | (show _ < 20; omega)) (P2.1.mo9) ?_
      refine ab_iload_n X 2 d_MO_satisfiedMore_113 rfl rfl ?_
      refine ab_iald X (p1) ⟨rfl, rfl⟩ d_MO_satisfiedMore_114 (by first | assumption | decide | (show _ < 124; omega) | (show _ < 61; omega) | (show _ < 20; omega)) (rfl) (show p1 < 40 by omega) (ab_ln_lt _ _) ?_
      refine ab_top (P2.ai (by decide) ec) ?_
      refine ab_icmp_ge X 172 d_MO_satisfiedMore_115 rfl (fun hb => absurd hb ((nI_ge (by omega) (by omega)))) (fun _ => ?_)
      refine ab_aload_n X 1 d_MO_satisfiedMore_118 rfl rfl ?_
      refine ab_iload X 0 d_MO_satisfiedMore_119 rfl ?_
      refine ab_iconst (v := 1) X d_MO_satisfiedMore_121 (by decide) ?_
      refine ab_iadd X d_MO_satisfiedMore_122 ?_
      refine ab_top (nI_1 _) ?_
      refine ab_aload_n X 1 d_MO_satisfiedMore_123 rfl rfl ?_
      refine ab_gR X fl_MO_39 d_MO_satisfiedMore_124 (by first | assumption | decide | (show _ < 124; omega) | (show _ < 61; omega) | (show _ < 20; omega)) (P2.1.mo9) ?_
      refine ab_iload_n X 2 d_MO_satisfiedMore_127 rfl rfl ?_
      refine ab_iald X (p1) ⟨rfl, rfl⟩ d_MO_satisfiedMore_128 (by first | assumption | decide | (show _ < 124; omega) | (show _ < 61; omega) | (show _ < 20; omega)) (rfl) (show p1 < 40 by omega) (ab_ln_lt _ _) ?_
      refine ab_icmp_ge X 149 d_MO_satisfiedMore_129 rfl (fun h129 => ?_) (fun h129 => ?_)
      ·
        refine ab_aload_n X 1 d_MO_satisfiedMore_149 rfl rfl ?_
        refine ab_gR X fl_MO_42 d_MO_satisfiedMore_150 (by first | assumption | decide | (show _ < 124; omega) | (show _ < 61; omega) | (show _ < 20; omega)) (P2.1.mo10) ?_
        refine ab_iconst (v := 4) X d_MO_satisfiedMore_153 (by decide) ?_
        refine ab_iload_n X 2 d_MO_satisfiedMore_154 rfl rfl ?_
        refine ab_imul X d_MO_satisfiedMore_155 ?_
        refine ab_iload X 0 d_MO_satisfiedMore_156 rfl ?_
        refine ab_iadd X d_MO_satisfiedMore_158 ?_
        refine ab_iald X (4 * p1 + j) ⟨rfl, rfl⟩ d_MO_satisfiedMore_159 (by first | assumption | decide | (show _ < 124; omega) | (show _ < 61; omega) | (show _ < 20; omega)) (nI_4a p1 j) (show 4 * p1 + j < 160 by omega) (ab_ln_lt _ _) ?_
        refine ab_top (P2.ai (by decide) (ech j (by omega))) ?_
        refine ab_callS (as := [ab_I (nI (ch p1 j))]) X (fun h => by cases h) (t_MO_b u2 (ch p1 j)) ls_MO_204 d_MO_satisfiedMore_160 rfl rfl ⟨by first | exact Nat.le_of_ble_eq_true rfl | (simp only [ab_rm]; omega), by first | exact Nat.le_of_ble_eq_true rfl | (simp only [ab_rm]; omega)⟩ ⟨by first | exact Nat.le_of_ble_eq_true rfl | (simp only [ab_rm]; omega), by first | exact Nat.le_of_ble_eq_true rfl | (simp only [ab_rm]; omega)⟩ (Nat.le_of_ble_eq_true rfl) (fun u160 r160 h160 => ?_)
        obtain ⟨e160, rfl⟩ := h160
        subst u160
        refine ab_callV (as := [ab_I (nI _)]) X (fun h => by cases h) (s_MO_yes u2 _ (4 * lf (ch p1 j) - 2) r P2.1 (by omega) (by rw [P2.ai (by decide) rfl]; first | exact sV | exact sB.mono (by omega)) (by omega) er (by omega)) lk_MO_270 d_MO_satisfiedMore_163 rfl rfl (by first | assumption | decide | (show _ < 124; omega) | (show _ < 61; omega) | (show _ < 20; omega)) ⟨by first | exact Nat.le_of_ble_eq_true rfl | (simp only [ab_rm]; omega), by first | exact Nat.le_of_ble_eq_true rfl | (simp only [ab_rm]; omega)⟩ ⟨by first | exact Nat.le_of_ble_eq_true rfl | (simp only [ab_rm]; omega), by first | exact Nat.le_of_ble_eq_true rfl | (simp only [ab_rm]; omega)⟩ (Nat.le_of_ble_eq_true rfl) (fun u163 r163 h163 => ?_)
        obtain ⟨⟨q163, r163, hr163, er163⟩, rfl⟩ := h163
        have P163 := P2.trans q163 (by decide)
        refine ab_iinc5 X 0 1 2 3 4 5 d_MO_satisfiedMore_166 rfl (by decide) rfl rfl rfl rfl rfl rfl rfl rfl rfl rfl ?_
        refine ab_goto X 107 d_MO_satisfiedMore_169 rfl ?_
        rw [show nI j + Int32.ofInt 1 = nI (j + 1) from nI_1 j]
        exact ih2 (j + 1) _ r163 (by omega) P163 (by rw [q163.fi (by decide) rfl]; exact b2) er163 (by omega)
      ·
        refine ab_aload_n X 1 d_MO_satisfiedMore_132 rfl rfl ?_
        refine ab_gR X fl_MO_42 d_MO_satisfiedMore_133 (by first | assumption | decide | (show _ < 124; omega) | (show _ < 61; omega) | (show _ < 20; omega)) (P2.1.mo10) ?_
        refine ab_iconst (v := 4) X d_MO_satisfiedMore_136 (by decide) ?_
        refine ab_iload_n X 2 d_MO_satisfiedMore_137 rfl rfl ?_
        refine ab_imul X d_MO_satisfiedMore_138 ?_
        refine ab_iload X 0 d_MO_satisfiedMore_139 rfl ?_
        refine ab_iadd X d_MO_satisfiedMore_141 ?_
        refine ab_iald X (4 * p1 + j) ⟨rfl, rfl⟩ d_MO_satisfiedMore_142 (by first | assumption | decide | (show _ < 124; omega) | (show _ < 61; omega) | (show _ < 20; omega)) (nI_4a p1 j) (show 4 * p1 + j < 160 by omega) (ab_ln_lt _ _) ?_
        refine ab_top (P2.ai (by decide) (ech j (by omega))) ?_
        refine ab_callS (as := [ab_I (nI (ch p1 j))]) X (fun h => by cases h) (t_MO_v u2 (ch p1 j)) ls_MO_201 d_MO_satisfiedMore_143 rfl rfl ⟨by first | exact Nat.le_of_ble_eq_true rfl | (simp only [ab_rm]; omega), by first | exact Nat.le_of_ble_eq_true rfl | (simp only [ab_rm]; omega)⟩ ⟨by first | exact Nat.le_of_ble_eq_true rfl | (simp only [ab_rm]; omega), by first | exact Nat.le_of_ble_eq_true rfl | (simp only [ab_rm]; omega)⟩ (Nat.le_of_ble_eq_true rfl) (fun u143 r143 h143 => ?_)
        obtain ⟨e143, rfl⟩ := h143
        subst u143
        refine ab_goto X 163 d_MO_satisfiedMore_146 rfl ?_
        refine ab_callV (as := [ab_I (nI _)]) X (fun h => by cases h) (s_MO_yes u2 _ (4 * lf (ch p1 j) - 2) r P2.1 (by omega) (by rw [P2.ai (by decide) rfl]; first | exact sV | exact sB.mono (by omega)) (by omega) er (by omega)) lk_MO_270 d_MO_satisfiedMore_163 rfl rfl (by first | assumption | decide | (show _ < 124; omega) | (show _ < 61; omega) | (show _ < 20; omega)) ⟨by first | exact Nat.le_of_ble_eq_true rfl | (simp only [ab_rm]; omega), by first | exact Nat.le_of_ble_eq_true rfl | (simp only [ab_rm]; omega)⟩ ⟨by first | exact Nat.le_of_ble_eq_true rfl | (simp only [ab_rm]; omega), by first | exact Nat.le_of_ble_eq_true rfl | (simp only [ab_rm]; omega)⟩ (Nat.le_of_ble_eq_true rfl) (fun u163 r163 h163 => ?_)
        obtain ⟨⟨q163, r163, hr163, er163⟩, rfl⟩ := h163
        have P163 := P2.trans q163 (by decide)
        refine ab_iinc5 X 0 1 2 3 4 5 d_MO_satisfiedMore_166 rfl (by decide) rfl rfl rfl rfl rfl rfl rfl rfl rfl rfl ?_
        refine ab_goto X 107 d_MO_satisfiedMore_169 rfl ?_
        rw [show nI j + Int32.ofInt 1 = nI (j + 1) from nI_1 j]
        exact ih2 (j + 1) _ r163 (by omega) P163 (by rw [q163.fi (by decide) rfl]; exact b2) er163 (by omega)
  refine ab_iload_n X 2 d_MO_satisfiedMore_0 rfl rfl ?_
  refine ab_bipush (v := 13) X d_MO_satisfiedMore_1 (by decide) ?_
  refine ab_icmp_ne X 19 d_MO_satisfiedMore_3 rfl (fun _ => ?_) (fun hb => absurd hb ((by decide)))
  refine ab_iload_n X 2 d_MO_satisfiedMore_19 rfl rfl ?_
  refine ab_bipush (v := 14) X d_MO_satisfiedMore_20 (by decide) ?_
  refine ab_icmp_ne X 38 d_MO_satisfiedMore_22 rfl (fun _ => ?_) (fun hb => absurd hb ((by decide)))
  refine ab_iload_n X 2 d_MO_satisfiedMore_38 rfl rfl ?_
  refine ab_bipush (v := 15) X d_MO_satisfiedMore_39 (by decide) ?_
  refine ab_icmp_ne X 58 d_MO_satisfiedMore_41 rfl (fun _ => ?_) (fun hb => absurd hb ((by decide)))
  refine ab_iload_n X 2 d_MO_satisfiedMore_58 rfl rfl ?_
  refine ab_bipush (v := 16) X d_MO_satisfiedMore_59 (by decide) ?_
  refine ab_icmp_ne X 79 d_MO_satisfiedMore_61 rfl (fun _ => ?_) (fun hb => absurd hb ((by decide)))
  refine ab_iload_n X 2 d_MO_satisfiedMore_79 rfl rfl ?_
  refine ab_bipush (v := 17) X d_MO_satisfiedMore_80 (by decide) ?_
  refine ab_icmp_ne X 98 d_MO_satisfiedMore_82 rfl (fun _ => ?_) (fun hb => absurd hb ((by decide)))
  refine ab_iload_n X 2 d_MO_satisfiedMore_98 rfl rfl ?_
  refine ab_bipush (v := 18) X d_MO_satisfiedMore_99 (by decide) ?_
  refine ab_icmp_ne X 176 d_MO_satisfiedMore_101 rfl (fun hb => absurd ((by decide)) hb) (fun _ => ?_)
  refine ab_iconst (v := 0) X d_MO_satisfiedMore_104 (by decide) ?_
  refine ab_istore5 X 0 1 2 3 4 d_MO_satisfiedMore_105 (by decide) rfl rfl rfl rfl rfl rfl rfl rfl rfl rfl ?_
  exact loop (cn p1) 0 _ 0 (by omega) P0 eb er (Nat.zero_le _)
theorem d_MO_satisfied_0 : decode b_MO_satisfied 0 = .ok (.aload_n 0, 1) := by decide +kernel
theorem d_MO_satisfied_1 : decode b_MO_satisfied 1 = .ok (.iconst (-1), 1) := by decide +kernel
theorem d_MO_satisfied_2 : decode b_MO_satisfied 2 = .ok (.putfield 99, 3) := by decide +kernel
theorem d_MO_satisfied_5 : decode b_MO_satisfied 5 = .ok (.aload_n 0, 1) := by decide +kernel
theorem d_MO_satisfied_6 : decode b_MO_satisfied 6 = .ok (.ldc_w 263, 3) := by decide +kernel
theorem d_MO_satisfied_9 : decode b_MO_satisfied 9 = .ok (.putfield 102, 3) := by decide +kernel
theorem d_MO_satisfied_12 : decode b_MO_satisfied 12 = .ok (.aload_n 0, 1) := by decide +kernel
theorem d_MO_satisfied_13 : decode b_MO_satisfied 13 = .ok (.getfield 45, 3) := by decide +kernel
theorem d_MO_satisfied_16 : decode b_MO_satisfied 16 = .ok (.iload_n 2, 1) := by decide +kernel
theorem d_MO_satisfied_17 : decode b_MO_satisfied 17 = .ok (.iaload, 1) := by decide +kernel
theorem d_MO_satisfied_18 : decode b_MO_satisfied 18 = .ok (.istore 4, 2) := by decide +kernel
theorem d_MO_satisfied_20 : decode b_MO_satisfied 20 = .ok (.aload_n 0, 1) := by decide +kernel
theorem d_MO_satisfied_21 : decode b_MO_satisfied 21 = .ok (.getfield 42, 3) := by decide +kernel
theorem d_MO_satisfied_24 : decode b_MO_satisfied 24 = .ok (.iconst 4, 1) := by decide +kernel
theorem d_MO_satisfied_25 : decode b_MO_satisfied 25 = .ok (.iload_n 1, 1) := by decide +kernel
theorem d_MO_satisfied_26 : decode b_MO_satisfied 26 = .ok (.imul, 1) := by decide +kernel
theorem d_MO_satisfied_27 : decode b_MO_satisfied 27 = .ok (.iaload, 1) := by decide +kernel
theorem d_MO_satisfied_28 : decode b_MO_satisfied 28 = .ok (.istore 5, 2) := by decide +kernel
theorem d_MO_satisfied_30 : decode b_MO_satisfied 30 = .ok (.aload_n 0, 1) := by decide +kernel
theorem d_MO_satisfied_31 : decode b_MO_satisfied 31 = .ok (.getfield 42, 3) := by decide +kernel
theorem d_MO_satisfied_34 : decode b_MO_satisfied 34 = .ok (.iconst 4, 1) := by decide +kernel
theorem d_MO_satisfied_35 : decode b_MO_satisfied 35 = .ok (.iload_n 1, 1) := by decide +kernel
theorem d_MO_satisfied_36 : decode b_MO_satisfied 36 = .ok (.imul, 1) := by decide +kernel
theorem d_MO_satisfied_37 : decode b_MO_satisfied 37 = .ok (.iconst 1, 1) := by decide +kernel
theorem d_MO_satisfied_38 : decode b_MO_satisfied 38 = .ok (.iadd, 1) := by decide +kernel
theorem d_MO_satisfied_39 : decode b_MO_satisfied 39 = .ok (.iaload, 1) := by decide +kernel
theorem d_MO_satisfied_40 : decode b_MO_satisfied 40 = .ok (.istore 6, 2) := by decide +kernel
theorem d_MO_satisfied_42 : decode b_MO_satisfied 42 = .ok (.aload_n 0, 1) := by decide +kernel
theorem d_MO_satisfied_43 : decode b_MO_satisfied 43 = .ok (.invokevirtual 267, 3) := by decide +kernel
theorem d_MO_satisfied_46 : decode b_MO_satisfied 46 = .ok (.iload 4, 2) := by decide +kernel
theorem d_MO_satisfied_48 : decode b_MO_satisfied 48 = .ok (.iconst 1, 1) := by decide +kernel
theorem d_MO_satisfied_49 : decode b_MO_satisfied 49 = .ok (.if_icmp .eq 17, 3) := by decide +kernel
theorem d_MO_satisfied_52 : decode b_MO_satisfied 52 = .ok (.iload 4, 2) := by decide +kernel
theorem d_MO_satisfied_54 : decode b_MO_satisfied 54 = .ok (.bipush 11, 2) := by decide +kernel
theorem d_MO_satisfied_56 : decode b_MO_satisfied 56 = .ok (.if_icmp .eq 10, 3) := by decide +kernel
theorem d_MO_satisfied_59 : decode b_MO_satisfied 59 = .ok (.iload 4, 2) := by decide +kernel
theorem d_MO_satisfied_61 : decode b_MO_satisfied 61 = .ok (.bipush 12, 2) := by decide +kernel
theorem d_MO_satisfied_63 : decode b_MO_satisfied 63 = .ok (.if_icmp .ne 44, 3) := by decide +kernel
theorem d_MO_satisfied_66 : decode b_MO_satisfied 66 = .ok (.iload_n 3, 1) := by decide +kernel
theorem d_MO_satisfied_67 : decode b_MO_satisfied 67 = .ok (.ifCond .eq 239, 3) := by decide +kernel
theorem d_MO_satisfied_70 : decode b_MO_satisfied 70 = .ok (.aload_n 0, 1) := by decide +kernel
theorem d_MO_satisfied_71 : decode b_MO_satisfied 71 = .ok (.getfield 33, 3) := by decide +kernel
theorem d_MO_satisfied_74 : decode b_MO_satisfied 74 = .ok (.iload_n 1, 1) := by decide +kernel
theorem d_MO_satisfied_75 : decode b_MO_satisfied 75 = .ok (.iaload, 1) := by decide +kernel
theorem d_MO_satisfied_76 : decode b_MO_satisfied 76 = .ok (.iconst 3, 1) := by decide +kernel
theorem d_MO_satisfied_77 : decode b_MO_satisfied 77 = .ok (.if_icmp .ge 23, 3) := by decide +kernel
theorem d_MO_satisfied_80 : decode b_MO_satisfied 80 = .ok (.aload_n 0, 1) := by decide +kernel
theorem d_MO_satisfied_81 : decode b_MO_satisfied 81 = .ok (.aload_n 0, 1) := by decide +kernel
theorem d_MO_satisfied_82 : decode b_MO_satisfied 82 = .ok (.getfield 33, 3) := by decide +kernel
theorem d_MO_satisfied_85 : decode b_MO_satisfied 85 = .ok (.iload_n 1, 1) := by decide +kernel
theorem d_MO_satisfied_86 : decode b_MO_satisfied 86 = .ok (.iaload, 1) := by decide +kernel
theorem d_MO_satisfied_87 : decode b_MO_satisfied 87 = .ok (.bipush 10, 2) := by decide +kernel
theorem d_MO_satisfied_89 : decode b_MO_satisfied 89 = .ok (.imul, 1) := by decide +kernel
theorem d_MO_satisfied_90 : decode b_MO_satisfied 90 = .ok (.aload_n 0, 1) := by decide +kernel
theorem d_MO_satisfied_91 : decode b_MO_satisfied 91 = .ok (.getfield 36, 3) := by decide +kernel
theorem d_MO_satisfied_94 : decode b_MO_satisfied 94 = .ok (.iload_n 1, 1) := by decide +kernel
theorem d_MO_satisfied_95 : decode b_MO_satisfied 95 = .ok (.iaload, 1) := by decide +kernel
theorem d_MO_satisfied_96 : decode b_MO_satisfied 96 = .ok (.iadd, 1) := by decide +kernel
theorem d_MO_satisfied_97 : decode b_MO_satisfied 97 = .ok (.invokevirtual 264, 3) := by decide +kernel
theorem d_MO_satisfied_100 : decode b_MO_satisfied 100 = .ok (.aload_n 0, 1) := by decide +kernel
theorem d_MO_satisfied_101 : decode b_MO_satisfied 101 = .ok (.invokevirtual 273, 3) := by decide +kernel
theorem d_MO_satisfied_104 : decode b_MO_satisfied 104 = .ok (.goto 202, 3) := by decide +kernel
theorem d_MO_satisfied_107 : decode b_MO_satisfied 107 = .ok (.iload 4, 2) := by decide +kernel
theorem d_MO_satisfied_109 : decode b_MO_satisfied 109 = .ok (.iconst 2, 1) := by decide +kernel
theorem d_MO_satisfied_110 : decode b_MO_satisfied 110 = .ok (.if_icmp .ne 20, 3) := by decide +kernel
theorem d_MO_satisfied_113 : decode b_MO_satisfied 113 = .ok (.aload_n 0, 1) := by decide +kernel
theorem d_MO_satisfied_114 : decode b_MO_satisfied 114 = .ok (.iload 5, 2) := by decide +kernel
theorem d_MO_satisfied_116 : decode b_MO_satisfied 116 = .ok (.invokestatic 195, 3) := by decide +kernel
theorem d_MO_satisfied_119 : decode b_MO_satisfied 119 = .ok (.iload 6, 2) := by decide +kernel
theorem d_MO_satisfied_121 : decode b_MO_satisfied 121 = .ok (.invokestatic 195, 3) := by decide +kernel
theorem d_MO_satisfied_124 : decode b_MO_satisfied 124 = .ok (.invokevirtual 279, 3) := by decide +kernel
theorem d_MO_satisfied_127 : decode b_MO_satisfied 127 = .ok (.goto 179, 3) := by decide +kernel
theorem d_MO_satisfied_130 : decode b_MO_satisfied 130 = .ok (.iload 4, 2) := by decide +kernel
theorem d_MO_satisfied_132 : decode b_MO_satisfied 132 = .ok (.iconst 3, 1) := by decide +kernel
theorem d_MO_satisfied_133 : decode b_MO_satisfied 133 = .ok (.if_icmp .ne 48, 3) := by decide +kernel
theorem d_MO_satisfied_136 : decode b_MO_satisfied 136 = .ok (.aload_n 0, 1) := by decide +kernel
theorem d_MO_satisfied_137 : decode b_MO_satisfied 137 = .ok (.iload 5, 2) := by decide +kernel
theorem d_MO_satisfied_139 : decode b_MO_satisfied 139 = .ok (.invokestatic 195, 3) := by decide +kernel
theorem d_MO_satisfied_142 : decode b_MO_satisfied 142 = .ok (.invokevirtual 270, 3) := by decide +kernel
theorem d_MO_satisfied_145 : decode b_MO_satisfied 145 = .ok (.aload_n 0, 1) := by decide +kernel
theorem d_MO_satisfied_146 : decode b_MO_satisfied 146 = .ok (.iload 6, 2) := by decide +kernel
theorem d_MO_satisfied_148 : decode b_MO_satisfied 148 = .ok (.invokevirtual 276, 3) := by decide +kernel
theorem d_MO_satisfied_151 : decode b_MO_satisfied 151 = .ok (.aload_n 0, 1) := by decide +kernel
theorem d_MO_satisfied_152 : decode b_MO_satisfied 152 = .ok (.invokevirtual 273, 3) := by decide +kernel
theorem d_MO_satisfied_155 : decode b_MO_satisfied 155 = .ok (.aload_n 0, 1) := by decide +kernel
theorem d_MO_satisfied_156 : decode b_MO_satisfied 156 = .ok (.invokevirtual 267, 3) := by decide +kernel
theorem d_MO_satisfied_159 : decode b_MO_satisfied 159 = .ok (.aload_n 0, 1) := by decide +kernel
theorem d_MO_satisfied_160 : decode b_MO_satisfied 160 = .ok (.iload 5, 2) := by decide +kernel
theorem d_MO_satisfied_162 : decode b_MO_satisfied 162 = .ok (.invokevirtual 276, 3) := by decide +kernel
theorem d_MO_satisfied_165 : decode b_MO_satisfied 165 = .ok (.aload_n 0, 1) := by decide +kernel
theorem d_MO_satisfied_166 : decode b_MO_satisfied 166 = .ok (.iload 6, 2) := by decide +kernel
theorem d_MO_satisfied_168 : decode b_MO_satisfied 168 = .ok (.invokestatic 195, 3) := by decide +kernel
theorem d_MO_satisfied_171 : decode b_MO_satisfied 171 = .ok (.invokevirtual 270, 3) := by decide +kernel
theorem d_MO_satisfied_174 : decode b_MO_satisfied 174 = .ok (.aload_n 0, 1) := by decide +kernel
theorem d_MO_satisfied_175 : decode b_MO_satisfied 175 = .ok (.invokevirtual 273, 3) := by decide +kernel
theorem d_MO_satisfied_178 : decode b_MO_satisfied 178 = .ok (.goto 128, 3) := by decide +kernel
theorem d_MO_satisfied_181 : decode b_MO_satisfied 181 = .ok (.iload 4, 2) := by decide +kernel
theorem d_MO_satisfied_183 : decode b_MO_satisfied 183 = .ok (.iconst 4, 1) := by decide +kernel
theorem d_MO_satisfied_184 : decode b_MO_satisfied 184 = .ok (.if_icmp .ne 22, 3) := by decide +kernel
theorem d_MO_satisfied_187 : decode b_MO_satisfied 187 = .ok (.aload_n 0, 1) := by decide +kernel
theorem d_MO_satisfied_188 : decode b_MO_satisfied 188 = .ok (.iload 5, 2) := by decide +kernel
theorem d_MO_satisfied_190 : decode b_MO_satisfied 190 = .ok (.invokestatic 195, 3) := by decide +kernel
theorem d_MO_satisfied_193 : decode b_MO_satisfied 193 = .ok (.iload 5, 2) := by decide +kernel
theorem d_MO_satisfied_195 : decode b_MO_satisfied 195 = .ok (.iload 6, 2) := by decide +kernel
theorem d_MO_satisfied_197 : decode b_MO_satisfied 197 = .ok (.invokestatic 195, 3) := by decide +kernel
theorem d_MO_satisfied_200 : decode b_MO_satisfied 200 = .ok (.invokevirtual 282, 3) := by decide +kernel
theorem d_MO_satisfied_203 : decode b_MO_satisfied 203 = .ok (.goto 103, 3) := by decide +kernel
theorem d_MO_satisfied_206 : decode b_MO_satisfied 206 = .ok (.iload 4, 2) := by decide +kernel
theorem d_MO_satisfied_208 : decode b_MO_satisfied 208 = .ok (.iconst 5, 1) := by decide +kernel
theorem d_MO_satisfied_209 : decode b_MO_satisfied 209 = .ok (.if_icmp .ne 20, 3) := by decide +kernel
theorem d_MO_satisfied_212 : decode b_MO_satisfied 212 = .ok (.aload_n 0, 1) := by decide +kernel
theorem d_MO_satisfied_213 : decode b_MO_satisfied 213 = .ok (.iload 5, 2) := by decide +kernel
theorem d_MO_satisfied_215 : decode b_MO_satisfied 215 = .ok (.invokestatic 195, 3) := by decide +kernel
theorem d_MO_satisfied_218 : decode b_MO_satisfied 218 = .ok (.iload 6, 2) := by decide +kernel
theorem d_MO_satisfied_220 : decode b_MO_satisfied 220 = .ok (.invokestatic 204, 3) := by decide +kernel
theorem d_MO_satisfied_223 : decode b_MO_satisfied 223 = .ok (.invokevirtual 285, 3) := by decide +kernel
theorem d_MO_satisfied_226 : decode b_MO_satisfied 226 = .ok (.goto 80, 3) := by decide +kernel
theorem d_MO_satisfied_229 : decode b_MO_satisfied 229 = .ok (.iload 4, 2) := by decide +kernel
theorem d_MO_satisfied_231 : decode b_MO_satisfied 231 = .ok (.bipush 6, 2) := by decide +kernel
theorem d_MO_satisfied_233 : decode b_MO_satisfied 233 = .ok (.if_icmp .ne 20, 3) := by decide +kernel
theorem d_MO_satisfied_236 : decode b_MO_satisfied 236 = .ok (.aload_n 0, 1) := by decide +kernel
theorem d_MO_satisfied_237 : decode b_MO_satisfied 237 = .ok (.iload 5, 2) := by decide +kernel
theorem d_MO_satisfied_239 : decode b_MO_satisfied 239 = .ok (.invokestatic 204, 3) := by decide +kernel
theorem d_MO_satisfied_242 : decode b_MO_satisfied 242 = .ok (.iload 6, 2) := by decide +kernel
theorem d_MO_satisfied_244 : decode b_MO_satisfied 244 = .ok (.invokestatic 195, 3) := by decide +kernel
theorem d_MO_satisfied_247 : decode b_MO_satisfied 247 = .ok (.invokevirtual 285, 3) := by decide +kernel
theorem d_MO_satisfied_250 : decode b_MO_satisfied 250 = .ok (.goto 56, 3) := by decide +kernel
theorem d_MO_satisfied_253 : decode b_MO_satisfied 253 = .ok (.iload 4, 2) := by decide +kernel
theorem d_MO_satisfied_255 : decode b_MO_satisfied 255 = .ok (.bipush 7, 2) := by decide +kernel
theorem d_MO_satisfied_257 : decode b_MO_satisfied 257 = .ok (.if_icmp .ne 11, 3) := by decide +kernel
theorem d_MO_satisfied_260 : decode b_MO_satisfied 260 = .ok (.aload_n 0, 1) := by decide +kernel
theorem d_MO_satisfied_261 : decode b_MO_satisfied 261 = .ok (.iload_n 1, 1) := by decide +kernel
theorem d_MO_satisfied_262 : decode b_MO_satisfied 262 = .ok (.invokevirtual 288, 3) := by decide +kernel
theorem d_MO_satisfied_265 : decode b_MO_satisfied 265 = .ok (.goto 41, 3) := by decide +kernel
theorem d_MO_satisfied_268 : decode b_MO_satisfied 268 = .ok (.iload 4, 2) := by decide +kernel
theorem d_MO_satisfied_270 : decode b_MO_satisfied 270 = .ok (.bipush 8, 2) := by decide +kernel
theorem d_MO_satisfied_272 : decode b_MO_satisfied 272 = .ok (.if_icmp .ne 23, 3) := by decide +kernel
theorem d_MO_satisfied_275 : decode b_MO_satisfied 275 = .ok (.aload_n 0, 1) := by decide +kernel
theorem d_MO_satisfied_276 : decode b_MO_satisfied 276 = .ok (.iconst 1, 1) := by decide +kernel
theorem d_MO_satisfied_277 : decode b_MO_satisfied 277 = .ok (.invokevirtual 264, 3) := by decide +kernel
theorem d_MO_satisfied_280 : decode b_MO_satisfied 280 = .ok (.aload_n 0, 1) := by decide +kernel
theorem d_MO_satisfied_281 : decode b_MO_satisfied 281 = .ok (.iload_n 1, 1) := by decide +kernel
theorem d_MO_satisfied_282 : decode b_MO_satisfied 282 = .ok (.invokestatic 204, 3) := by decide +kernel
theorem d_MO_satisfied_285 : decode b_MO_satisfied 285 = .ok (.invokevirtual 270, 3) := by decide +kernel
theorem d_MO_satisfied_288 : decode b_MO_satisfied 288 = .ok (.aload_n 0, 1) := by decide +kernel
theorem d_MO_satisfied_289 : decode b_MO_satisfied 289 = .ok (.invokevirtual 273, 3) := by decide +kernel
theorem d_MO_satisfied_292 : decode b_MO_satisfied 292 = .ok (.goto 14, 3) := by decide +kernel
theorem d_MO_satisfied_295 : decode b_MO_satisfied 295 = .ok (.aload_n 0, 1) := by decide +kernel
theorem d_MO_satisfied_296 : decode b_MO_satisfied 296 = .ok (.iload_n 1, 1) := by decide +kernel
theorem d_MO_satisfied_297 : decode b_MO_satisfied 297 = .ok (.iload 4, 2) := by decide +kernel
theorem d_MO_satisfied_299 : decode b_MO_satisfied 299 = .ok (.iload 5, 2) := by decide +kernel
theorem d_MO_satisfied_301 : decode b_MO_satisfied 301 = .ok (.iload 6, 2) := by decide +kernel
theorem d_MO_satisfied_303 : decode b_MO_satisfied 303 = .ok (.invokevirtual 291, 3) := by decide +kernel
theorem d_MO_satisfied_306 : decode b_MO_satisfied 306 = .ok (.aload_n 0, 1) := by decide +kernel
theorem d_MO_satisfied_307 : decode b_MO_satisfied 307 = .ok (.getfield 75, 3) := by decide +kernel
theorem d_MO_satisfied_310 : decode b_MO_satisfied 310 = .ok (.iload_n 2, 1) := by decide +kernel
theorem d_MO_satisfied_311 : decode b_MO_satisfied 311 = .ok (.aload_n 0, 1) := by decide +kernel
theorem d_MO_satisfied_312 : decode b_MO_satisfied 312 = .ok (.getfield 99, 3) := by decide +kernel
theorem d_MO_satisfied_315 : decode b_MO_satisfied 315 = .ok (.iastore, 1) := by decide +kernel
theorem d_MO_satisfied_316 : decode b_MO_satisfied 316 = .ok (.aload_n 0, 1) := by decide +kernel
theorem d_MO_satisfied_317 : decode b_MO_satisfied 317 = .ok (.getfield 78, 3) := by decide +kernel
theorem d_MO_satisfied_320 : decode b_MO_satisfied 320 = .ok (.iload_n 2, 1) := by decide +kernel
theorem d_MO_satisfied_321 : decode b_MO_satisfied 321 = .ok (.aload_n 0, 1) := by decide +kernel
theorem d_MO_satisfied_322 : decode b_MO_satisfied 322 = .ok (.getfield 102, 3) := by decide +kernel
theorem d_MO_satisfied_325 : decode b_MO_satisfied 325 = .ok (.iastore, 1) := by decide +kernel
theorem d_MO_satisfied_326 : decode b_MO_satisfied 326 = .ok (.iconst 0, 1) := by decide +kernel
theorem d_MO_satisfied_327 : decode b_MO_satisfied 327 = .ok (.istore 7, 2) := by decide +kernel
theorem d_MO_satisfied_329 : decode b_MO_satisfied 329 = .ok (.iload 7, 2) := by decide +kernel
theorem d_MO_satisfied_331 : decode b_MO_satisfied 331 = .ok (.aload_n 0, 1) := by decide +kernel
theorem d_MO_satisfied_332 : decode b_MO_satisfied 332 = .ok (.getfield 99, 3) := by decide +kernel
theorem d_MO_satisfied_335 : decode b_MO_satisfied 335 = .ok (.if_icmp .ge 28, 3) := by decide +kernel
theorem d_MO_satisfied_338 : decode b_MO_satisfied 338 = .ok (.aload_n 0, 1) := by decide +kernel
theorem d_MO_satisfied_339 : decode b_MO_satisfied 339 = .ok (.getfield 72, 3) := by decide +kernel
theorem d_MO_satisfied_342 : decode b_MO_satisfied 342 = .ok (.bipush 50, 2) := by decide +kernel
theorem d_MO_satisfied_344 : decode b_MO_satisfied 344 = .ok (.iload_n 2, 1) := by decide +kernel
theorem d_MO_satisfied_345 : decode b_MO_satisfied 345 = .ok (.imul, 1) := by decide +kernel
theorem d_MO_satisfied_346 : decode b_MO_satisfied 346 = .ok (.iload 7, 2) := by decide +kernel
theorem d_MO_satisfied_348 : decode b_MO_satisfied 348 = .ok (.iadd, 1) := by decide +kernel
theorem d_MO_satisfied_349 : decode b_MO_satisfied 349 = .ok (.aload_n 0, 1) := by decide +kernel
theorem d_MO_satisfied_350 : decode b_MO_satisfied 350 = .ok (.getfield 96, 3) := by decide +kernel
theorem d_MO_satisfied_353 : decode b_MO_satisfied 353 = .ok (.iload 7, 2) := by decide +kernel
theorem d_MO_satisfied_355 : decode b_MO_satisfied 355 = .ok (.iaload, 1) := by decide +kernel
theorem d_MO_satisfied_356 : decode b_MO_satisfied 356 = .ok (.iastore, 1) := by decide +kernel
theorem d_MO_satisfied_357 : decode b_MO_satisfied 357 = .ok (.iinc 7 1, 3) := by decide +kernel
theorem d_MO_satisfied_360 : decode b_MO_satisfied 360 = .ok (.goto (-31), 3) := by decide +kernel
theorem d_MO_satisfied_363 : decode b_MO_satisfied 363 = .ok (.return_, 1) := by decide +kernel
theorem fl_MO_45 : ab_fl "PolicyForgeModel" 45 17 11 1 := ⟨rfl, R_MO, T_MO, 44, rfl, uw_MO, by decide, rfl, (ab_in 937 (by decide +kernel) (by decide +kernel))⟩
theorem lk_MO_288 : ab_lk "PolicyForgeModel" 288 y_MO_offerThreshold b_MO_offerThreshold 5 none 1 17 := ⟨⟨rfl, T_MO, 44, rfl⟩, List.forall_mem_cons.mpr ⟨(ab_in 1269 (by decide +kernel) (by decide +kernel)), List.forall_mem_cons.mpr ⟨(ab_in 1271 (by decide +kernel) (by decide +kernel)), List.forall_mem_cons.mpr ⟨(ab_in 83 (by decide +kernel) (by decide +kernel)), List.forall_mem_cons.mpr ⟨(ab_in 100 (by decide +kernel) (by decide +kernel)), List.forall_mem_cons.mpr ⟨(ab_in 1272 (by decide +kernel) (by decide +kernel)), fun _ h => absurd h List.not_mem_nil⟩⟩⟩⟩⟩, ⟨by decide +kernel, by decide +kernel, by decide +kernel⟩, by decide⟩
theorem lk_MO_291 : ab_lk "PolicyForgeModel" 291 y_MO_satisfiedMore b_MO_satisfiedMore 6 none 4 17 := ⟨⟨rfl, T_MO, 44, rfl⟩, List.forall_mem_cons.mpr ⟨(ab_in 1273 (by decide +kernel) (by decide +kernel)), List.forall_mem_cons.mpr ⟨(ab_in 1275 (by decide +kernel) (by decide +kernel)), List.forall_mem_cons.mpr ⟨(ab_in 84 (by decide +kernel) (by decide +kernel)), List.forall_mem_cons.mpr ⟨(ab_in 100 (by decide +kernel) (by decide +kernel)), List.forall_mem_cons.mpr ⟨(ab_in 1276 (by decide +kernel) (by decide +kernel)), fun _ h => absurd h List.not_mem_nil⟩⟩⟩⟩⟩, ⟨by decide +kernel, by decide +kernel, by decide +kernel⟩, by decide⟩
set_option maxRecDepth 100000 in
set_option maxHeartbeats 20000000 in
theorem s_MO_satisfied (u : ab_S) (P : Nat) (kd ar cn lf : Nat → Nat) (ch : Nat → Nat → Nat) (W : tW P kd ar cn lf ch) (T : tR P kd ar cn ch u) (p1 j w q : Nat) (hp : p1 < P) (hj : j < 3) (S : sV P lf (p1 + 1) u) (sB : 0 < j → bl (4 * lf p1 - 3) (u.1 18 11 (3 * p1))) (hw : wv (kd p1) j w) (ew : u.1 18 5 (3 * p1 + j) = nI w) (hq : (j = 0 ∧ q = 4 * lf p1 - 3) ∨ (0 < j ∧ q = 4 * lf p1 - 2)) (hd : Int32) (h : mR u.2.1) : ab_C false l D ca y_MO_satisfied b_MO_satisfied 8 none 5 ab_nQ u [ab_O 17 0, ab_I (nI p1), ab_I (nI (3 * p1 + j)), ab_I hd] (fun u' v => (gP [26, 27, 29, 30, 110, 111, 112, 115, 116] u u' ∧ (∀ g, g ≠ 3 * p1 + j → u'.1 18 11 g = u.1 18 11 g) ∧ bl q (u'.1 18 11 (3 * p1 + j))) ∧ v = none) := by
  refine ab_C.of (by decide) (Nat.le_of_ble_eq_true rfl) ?_
  intro p e s m args below meth c ad X hZ hr0 hlk
  have P0 : gP [26, 27, 29, 30, 110, 111, 112, 115, 116] u u := gP.rf h
  obtain ⟨l3, l4, -⟩ := (W.2.2 p1 hp).1
  have hP19 := W.2.1
  have loop : ∀ (k i : Nat) (u1 : ab_S), k + i = q → gP [26, 27, 29, 30, 110, 111, 112, 115, 116] u u1 → (∀ g, g ≠ 3 * p1 + j → u1.1 18 11 g = u.1 18 11 g) → bl q (u1.1 18 11 (3 * p1 + j)) → bl q (u1.1 17 0 29) → ab_J p l e (ab_rm 5 0 0) s m args below meth c (MQ below (ab_Q D ca ad ab_nQ s.heap.size (fun u' v => (gP [26, 27, 29, 30, 110, 111, 112, 115, 116] u u' ∧ (∀ g, g ≠ 3 * p1 + j → u'.1 18 11 g = u.1 18 11 g) ∧ bl q (u'.1 18 11 (3 * p1 + j))) ∧ v = none)) args s 0 0 (ab_A ad ab_nQ s.heap.size)) D ca (ab_A ad ab_nQ s.heap.size) s.heap 8 0 0 ad ab_nQ u1 329 [(7, ab_I (nI i)), (0, ab_O 17 0), (1, ab_I (nI p1)), (2, ab_I (nI (3 * p1 + j)))] [] := by
    intro k
    induction k with
    | zero =>
      intro i u1 hi P1 a1 a2 a3
      refine ab_iload X 0 d_MO_satisfied_329 rfl ?_
      refine ab_aload_n X 1 d_MO_satisfied_331 rfl rfl ?_
      refine ab_gI X fl_MO_99 d_MO_satisfied_332 (by first | assumption | decide | (show _ < 124; omega) | (show _ < 61; omega) | (show _ < 20; omega)) (rfl) ?_
      refine ab_icmp_ge X 363 d_MO_satisfied_335 rfl (fun _ => ?_) (fun hb => absurd ((a3.le (by omega) (by omega))) hb)
      exact ab_retv X hr0 hlk d_MO_satisfied_363 ⟨⟨P1, a1, a2⟩, rfl⟩
    | succ k ih =>
      intro i u1 hi P1 a1 a2 a3
      refine ab_iload X 0 d_MO_satisfied_329 rfl ?_
      refine ab_aload_n X 1 d_MO_satisfied_331 rfl rfl ?_
      refine ab_gI X fl_MO_99 d_MO_satisfied_332 (by first | assumption | decide | (show _ < 124; omega) | (show _ < 61; omega) | (show _ < 20; omega)) (rfl) ?_
      refine ab_icmp_ge X 363 d_MO_satisfied_335 rfl (fun h335 => ?_) (fun h335 => ?_)
      ·
        exact ab_retv X hr0 hlk d_MO_satisfied_363 ⟨⟨P1, a1, a2⟩, rfl⟩
      ·
        refine ab_aload_n X 1 d_MO_satisfied_338 rfl rfl ?_
        refine ab_gR X fl_MO_72 d_MO_satisfied_339 (by first | assumption | decide | (show _ < 124; omega) | (show _ < 61; omega) | (show _ < 20; omega)) (P1.1.mo20) ?_
        refine ab_bipush (v := 50) X d_MO_satisfied_342 (by decide) ?_
        refine ab_iload_n X 3 d_MO_satisfied_344 rfl rfl ?_
        refine ab_imul X d_MO_satisfied_345 ?_
        refine ab_iload X 0 d_MO_satisfied_346 rfl ?_
        refine ab_iadd X d_MO_satisfied_348 ?_
        refine ab_aload_n X 1 d_MO_satisfied_349 rfl rfl ?_
        refine ab_gR X fl_MO_96 d_MO_satisfied_350 (by first | assumption | decide | (show _ < 124; omega) | (show _ < 61; omega) | (show _ < 20; omega)) (P1.1.mo28) ?_
        refine ab_iload X 0 d_MO_satisfied_353 rfl ?_
        refine ab_iald X (i) ⟨rfl, rfl⟩ d_MO_satisfied_355 (by first | assumption | decide | (show _ < 124; omega) | (show _ < 61; omega) | (show _ < 20; omega)) (rfl) (show i < 64 by omega) (ab_ln_lt _ _) ?_
        refine ab_iast X (50 * (3 * p1 + j) + i) ⟨rfl, rfl⟩ d_MO_satisfied_356 (by first | assumption | decide | (show _ < 124; omega) | (show _ < 61; omega) | (show _ < 20; omega)) (nI_50a (3 * p1 + j) i) (show 50 * (3 * p1 + j) + i < 3600 by omega) (ab_ln_lt _ _) ?_
        refine ab_gen (fun u356 e356 => ?_)
        have P356 : gP [26, 27, 29, 30, 110, 111, 112, 115, 116] u u356 := by rw [e356]; exact P1.ui rfl (by decide)
        refine ab_iinc3 X 0 1 2 3 d_MO_satisfied_357 rfl (by decide) rfl rfl rfl rfl rfl rfl ?_
        refine ab_goto X 329 d_MO_satisfied_360 rfl ?_
        rw [show nI i + Int32.ofInt 1 = nI (i + 1) from nI_1 i]
        exact ih (i + 1) _ (by omega) P356 (fun g hg => (show _ = u1.1 18 11 g by rw [e356]; simp [ab_up]).trans (a1 g hg)) (by rw [e356]; simpa [ab_up] using a2) (by rw [e356]; simpa [ab_up] using a3)
  have fin : ∀ (u1 : ab_S), gP [26, 27, 29, 30, 115, 116] u u1 → bl q (u1.1 17 0 29) → ab_J p l e (ab_rm 5 0 0) s m args below meth c (MQ below (ab_Q D ca ad ab_nQ s.heap.size (fun u' v => (gP [26, 27, 29, 30, 110, 111, 112, 115, 116] u u' ∧ (∀ g, g ≠ 3 * p1 + j → u'.1 18 11 g = u.1 18 11 g) ∧ bl q (u'.1 18 11 (3 * p1 + j))) ∧ v = none)) args s 0 0 (ab_A ad ab_nQ s.heap.size)) D ca (ab_A ad ab_nQ s.heap.size) s.heap 8 0 0 ad ab_nQ u1 306 [(0, ab_O 17 0), (1, ab_I (nI p1)), (2, ab_I (nI (3 * p1 + j)))] [] := by
    intro u1 P1 a3
    have P2 : gP [26, 27, 29, 30, 110, 111, 112, 115, 116] u u1 := P1.wk (by decide)
    refine ab_aload_n X 0 d_MO_satisfied_306 rfl rfl ?_
    refine ab_gR X fl_MO_75 d_MO_satisfied_307 (by first | assumption | decide | (show _ < 124; omega) | (show _ < 61; omega) | (show _ < 20; omega)) (P2.1.mo21) ?_
    refine ab_iload_n X 2 d_MO_satisfied_310 rfl rfl ?_
    refine ab_aload_n X 0 d_MO_satisfied_311 rfl rfl ?_
    refine ab_gI X fl_MO_99 d_MO_satisfied_312 (by first | assumption | decide | (show _ < 124; omega) | (show _ < 61; omega) | (show _ < 20; omega)) (rfl) ?_
    refine ab_iast X (3 * p1 + j) ⟨rfl, rfl⟩ d_MO_satisfied_315 (by first | assumption | decide | (show _ < 124; omega) | (show _ < 61; omega) | (show _ < 20; omega)) (rfl) (show 3 * p1 + j < 72 by omega) (ab_ln_lt _ _) ?_
    refine ab_gen (fun u315 e315 => ?_)
    have P315 : gP [26, 27, 29, 30, 110, 111, 112, 115, 116] u u315 := by rw [e315]; exact P2.ui rfl (by decide)
    refine ab_aload_n X 0 d_MO_satisfied_316 rfl rfl ?_
    refine ab_gR X fl_MO_78 d_MO_satisfied_317 (by first | assumption | decide | (show _ < 124; omega) | (show _ < 61; omega) | (show _ < 20; omega)) (P315.1.mo22) ?_
    refine ab_iload_n X 2 d_MO_satisfied_320 rfl rfl ?_
    refine ab_aload_n X 0 d_MO_satisfied_321 rfl rfl ?_
    refine ab_gI X fl_MO_102 d_MO_satisfied_322 (by first | assumption | decide | (show _ < 124; omega) | (show _ < 61; omega) | (show _ < 20; omega)) (rfl) ?_
    refine ab_iast X (3 * p1 + j) ⟨rfl, rfl⟩ d_MO_satisfied_325 (by first | assumption | decide | (show _ < 124; omega) | (show _ < 61; omega) | (show _ < 20; omega)) (rfl) (show 3 * p1 + j < 72 by omega) (ab_ln_lt _ _) ?_
    refine ab_gen (fun u325 e325 => ?_)
    have P325 : gP [26, 27, 29, 30, 110, 111, 112, 115, 116] u u325 := by rw [e325]; exact P315.ui rfl (by decide)
    refine ab_iconst (v := 0) X d_MO_satisfied_326 (by decide) ?_
    refine ab_istore3 X 0 1 2 d_MO_satisfied_327 (by decide) rfl rfl rfl rfl rfl rfl ?_
    exact loop q 0 _ (by omega) P325 (fun g hg => (show _ = u1.1 18 11 g by rw [e325, e315]; simp [ab_up, hg]).trans (P1.ai (by decide) rfl)) (by rw [e325, e315]; simpa [ab_up] using a3) (by rw [e325, e315]; simpa [ab_up] using a3)
  have R0 : gP [26, 27, 29, 30, 115, 116] u u := gP.rf h
  have leaf : ∀ (u1 : ab_S) (r : Nat), gP [26, 27, 29, 30, 115, 116] u u1 → r ≤ 1 → u1.1 17 0 26 = nI r → bl q (u1.1 17 0 29) → ab_J p l e (ab_rm 5 0 0) s m args below meth c (MQ below (ab_Q D ca ad ab_nQ s.heap.size (fun u' v => (gP [26, 27, 29, 30, 110, 111, 112, 115, 116] u u' ∧ (∀ g, g ≠ 3 * p1 + j → u'.1 18 11 g = u.1 18 11 g) ∧ bl q (u'.1 18 11 (3 * p1 + j))) ∧ v = none)) args s 0 0 (ab_A ad ab_nQ s.heap.size)) D ca (ab_A ad ab_nQ s.heap.size) s.heap 8 0 0 ad ab_nQ u1 100 [(0, ab_O 17 0), (1, ab_I (nI p1)), (2, ab_I (nI (3 * p1 + j)))] [] := by
    intro u1 r P1 hr er b1
    refine ab_aload_n X 0 d_MO_satisfied_100 rfl rfl ?_
    refine ab_callV (as := []) X (fun h => by cases h) (s_MO_offer u1 q r P1.1 er (by omega) (by omega) b1) lk_MO_273 d_MO_satisfied_101 rfl rfl (by first | assumption | decide | (show _ < 124; omega) | (show _ < 61; omega) | (show _ < 20; omega)) ⟨by first | exact Nat.le_of_ble_eq_true rfl | (simp only [ab_rm]; omega), by first | exact Nat.le_of_ble_eq_true rfl | (simp only [ab_rm]; omega)⟩ ⟨by first | exact Nat.le_of_ble_eq_true rfl | (simp only [ab_rm]; omega), by first | exact Nat.le_of_ble_eq_true rfl | (simp only [ab_rm]; omega)⟩ (Nat.le_of_ble_eq_true rfl) (fun u101 r101 h101 => ?_)
    obtain ⟨⟨q101, b101⟩, rfl⟩ := h101
    have P101 := P1.trans q101 (by decide)
    refine ab_goto X 306 d_MO_satisfied_104 rfl ?_
    exact fin _ P101 b101
  rcases hw with (⟨hk, hw⟩ | ⟨hw, hj1⟩ | ⟨hw, hj2⟩) | ⟨hk, hw⟩ | ⟨hk, hw⟩
  · rcases hw with rfl | rfl | rfl
    ·
      refine ab_aload_n X 0 d_MO_satisfied_0 rfl rfl ?_
      refine ab_iconst (v := (-1)) X d_MO_satisfied_1 (by decide) ?_
      refine ab_putI X fp_MO_99 d_MO_satisfied_2 (by first | assumption | decide | (show _ < 124; omega) | (show _ < 61; omega) | (show _ < 20; omega)) rfl rfl ?_
      refine ab_gen (fun u2 e2 => ?_)
      have P2 : gP [26, 27, 29, 30, 115, 116] u u2 := by rw [e2]; exact R0.ui rfl (by decide)
      refine ab_aload_n X 0 d_MO_satisfied_5 rfl rfl ?_
      refine ab_ldcw X (v := 100000) (ab_in 1248 (by decide +kernel) (by decide +kernel)) d_MO_satisfied_6 ?_
      refine ab_putI X fp_MO_102 d_MO_satisfied_9 (by first | assumption | decide | (show _ < 124; omega) | (show _ < 61; omega) | (show _ < 20; omega)) rfl rfl ?_
      refine ab_gen (fun u9 e9 => ?_)
      have P9 : gP [26, 27, 29, 30, 115, 116] u u9 := by rw [e9]; exact P2.ui rfl (by decide)
      refine ab_aload_n X 0 d_MO_satisfied_12 rfl rfl ?_
      refine ab_gR X fl_MO_45 d_MO_satisfied_13 (by first | assumption | decide | (show _ < 124; omega) | (show _ < 61; omega) | (show _ < 20; omega)) (P9.1.mo11) ?_
      refine ab_iload_n X 2 d_MO_satisfied_16 rfl rfl ?_
      refine ab_iald X (3 * p1 + j) ⟨rfl, rfl⟩ d_MO_satisfied_17 (by first | assumption | decide | (show _ < 124; omega) | (show _ < 61; omega) | (show _ < 20; omega)) (rfl) (show 3 * p1 + j < 72 by omega) (ab_ln_lt _ _) ?_
      refine ab_top (P9.ai (by decide) ew) ?_
      refine ab_istore4 X 0 1 2 3 d_MO_satisfied_18 (by decide) rfl rfl rfl rfl rfl rfl rfl rfl ?_
      refine ab_aload_n X 1 d_MO_satisfied_20 rfl rfl ?_
      refine ab_gR X fl_MO_42 d_MO_satisfied_21 (by first | assumption | decide | (show _ < 124; omega) | (show _ < 61; omega) | (show _ < 20; omega)) (P9.1.mo10) ?_
      refine ab_iconst (v := 4) X d_MO_satisfied_24 (by decide) ?_
      refine ab_iload_n X 2 d_MO_satisfied_25 rfl rfl ?_
      refine ab_imul X d_MO_satisfied_26 ?_
      refine ab_iald X (4 * p1) ⟨rfl, rfl⟩ d_MO_satisfied_27 (by first | assumption | decide | (show _ < 124; omega) | (show _ < 61; omega) | (show _ < 20; omega)) (nI_4m p1) (show 4 * p1 < 160 by omega) (ab_ln_lt _ _) ?_
      refine ab_istore5 X 0 1 2 3 4 d_MO_satisfied_28 (by decide) rfl rfl rfl rfl rfl rfl rfl rfl rfl rfl ?_
      refine ab_aload_n X 2 d_MO_satisfied_30 rfl rfl ?_
      refine ab_gR X fl_MO_42 d_MO_satisfied_31 (by first | assumption | decide | (show _ < 124; omega) | (show _ < 61; omega) | (show _ < 20; omega)) (P9.1.mo10) ?_
      refine ab_iconst (v := 4) X d_MO_satisfied_34 (by decide) ?_
      refine ab_iload_n X 3 d_MO_satisfied_35 rfl rfl ?_
      refine ab_imul X d_MO_satisfied_36 ?_
      refine ab_iconst (v := 1) X d_MO_satisfied_37 (by decide) ?_
      refine ab_iadd X d_MO_satisfied_38 ?_
      refine ab_iald X (4 * p1 + 1) ⟨rfl, rfl⟩ d_MO_satisfied_39 (by first | assumption | decide | (show _ < 124; omega) | (show _ < 61; omega) | (show _ < 20; omega)) (nI_4b p1) (show 4 * p1 + 1 < 160 by omega) (ab_ln_lt _ _) ?_
      refine ab_istore6 X 0 1 2 3 4 5 d_MO_satisfied_40 (by decide) rfl rfl rfl rfl rfl rfl rfl rfl rfl rfl rfl rfl ?_
      refine ab_aload_n X 3 d_MO_satisfied_42 rfl rfl ?_
      refine ab_callV (as := []) X (fun h => by cases h) (s_MO_newRow u9 P9.1) lk_MO_267 d_MO_satisfied_43 rfl rfl (by first | assumption | decide | (show _ < 124; omega) | (show _ < 61; omega) | (show _ < 20; omega)) ⟨by first | exact Nat.le_of_ble_eq_true rfl | (simp only [ab_rm]; omega), by first | exact Nat.le_of_ble_eq_true rfl | (simp only [ab_rm]; omega)⟩ ⟨by first | exact Nat.le_of_ble_eq_true rfl | (simp only [ab_rm]; omega), by first | exact Nat.le_of_ble_eq_true rfl | (simp only [ab_rm]; omega)⟩ (Nat.le_of_ble_eq_true rfl) (fun u43 r43 h43 => ?_)
      obtain ⟨⟨q43, r43⟩, rfl⟩ := h43
      have P43 := P9.trans q43 (by decide)
      have b0 : bl q (u43.1 17 0 29) := Or.inl (by rw [q43.fi (by decide) rfl, e9, e2]; simp [ab_up])
      refine ab_iload X 2 d_MO_satisfied_46 rfl ?_
      refine ab_iconst (v := 1) X d_MO_satisfied_48 (by decide) ?_
      refine ab_icmp_eq X 66 d_MO_satisfied_49 rfl (fun _ => ?_) (fun hb => absurd ((by decide)) hb)
      refine ab_iload_n X 6 d_MO_satisfied_66 rfl rfl ?_
      refine ab_if_eq X 306 d_MO_satisfied_67 rfl (fun h67 => ?_) (fun h67 => ?_)
      ·
        refine ab_lv (List.forall_mem_cons.mpr ⟨List.mem_of_getElem? (i := 3) rfl, List.forall_mem_cons.mpr ⟨List.mem_of_getElem? (i := 4) rfl, List.forall_mem_cons.mpr ⟨List.mem_of_getElem? (i := 5) rfl, fun _ h => absurd h List.not_mem_nil⟩⟩⟩) ?_
        exact fin _ P43 b0
      ·
        refine ab_aload_n X 3 d_MO_satisfied_70 rfl rfl ?_
        refine ab_gR X fl_MO_33 d_MO_satisfied_71 (by first | assumption | decide | (show _ < 124; omega) | (show _ < 61; omega) | (show _ < 20; omega)) (P43.1.mo7) ?_
        refine ab_iload_n X 4 d_MO_satisfied_74 rfl rfl ?_
        refine ab_iald X (p1) ⟨rfl, rfl⟩ d_MO_satisfied_75 (by first | assumption | decide | (show _ < 124; omega) | (show _ < 61; omega) | (show _ < 20; omega)) (rfl) (show p1 < 40 by omega) (ab_ln_lt _ _) ?_
        refine ab_iconst (v := 3) X d_MO_satisfied_76 (by decide) ?_
        refine ab_icmp_ge X 100 d_MO_satisfied_77 rfl (fun h77 => ?_) (fun h77 => ?_)
        ·
          refine ab_lv (List.forall_mem_cons.mpr ⟨List.mem_of_getElem? (i := 3) rfl, List.forall_mem_cons.mpr ⟨List.mem_of_getElem? (i := 4) rfl, List.forall_mem_cons.mpr ⟨List.mem_of_getElem? (i := 5) rfl, fun _ h => absurd h List.not_mem_nil⟩⟩⟩) ?_
          first | exact leaf _ 1 P43 (by omega) r97 (by rw [q97.fi (by decide) rfl]; exact b0) | exact leaf _ 0 P43 (by omega) r43 b0
        ·
          refine ab_aload_n X 3 d_MO_satisfied_80 rfl rfl ?_
          refine ab_aload_n X 3 d_MO_satisfied_81 rfl rfl ?_
          refine ab_gR X fl_MO_33 d_MO_satisfied_82 (by first | assumption | decide | (show _ < 124; omega) | (show _ < 61; omega) | (show _ < 20; omega)) (P43.1.mo7) ?_
          refine ab_iload_n X 4 d_MO_satisfied_85 rfl rfl ?_
          refine ab_iald X (p1) ⟨rfl, rfl⟩ d_MO_satisfied_86 (by first | assumption | decide | (show _ < 124; omega) | (show _ < 61; omega) | (show _ < 20; omega)) (rfl) (show p1 < 40 by omega) (ab_ln_lt _ _) ?_
          refine ab_bipush (v := 10) X d_MO_satisfied_87 (by decide) ?_
          refine ab_imul X d_MO_satisfied_89 ?_
          refine ab_aload_n X 3 d_MO_satisfied_90 rfl rfl ?_
          refine ab_gR X fl_MO_36 d_MO_satisfied_91 (by first | assumption | decide | (show _ < 124; omega) | (show _ < 61; omega) | (show _ < 20; omega)) (P43.1.mo8) ?_
          refine ab_iload_n X 4 d_MO_satisfied_94 rfl rfl ?_
          refine ab_iald X (p1) ⟨rfl, rfl⟩ d_MO_satisfied_95 (by first | assumption | decide | (show _ < 124; omega) | (show _ < 61; omega) | (show _ < 20; omega)) (rfl) (show p1 < 40 by omega) (ab_ln_lt _ _) ?_
          refine ab_iadd X d_MO_satisfied_96 ?_
          refine ab_callV (as := [ab_I _]) X (fun h => by cases h) (s_MO_item1 u43 _ 0 P43.1 r43 (by omega)) lk_MO_264 d_MO_satisfied_97 rfl rfl (by first | assumption | decide | (show _ < 124; omega) | (show _ < 61; omega) | (show _ < 20; omega)) ⟨by first | exact Nat.le_of_ble_eq_true rfl | (simp only [ab_rm]; omega), by first | exact Nat.le_of_ble_eq_true rfl | (simp only [ab_rm]; omega)⟩ ⟨by first | exact Nat.le_of_ble_eq_true rfl | (simp only [ab_rm]; omega), by first | exact Nat.le_of_ble_eq_true rfl | (simp only [ab_rm]; omega)⟩ (Nat.le_of_ble_eq_true rfl) (fun u97 r97 h97 => ?_)
          obtain ⟨⟨q97, r97⟩, rfl⟩ := h97
          have P97 := P43.trans q97 (by decide)
          refine ab_lv (List.forall_mem_cons.mpr ⟨List.mem_of_getElem? (i := 3) rfl, List.forall_mem_cons.mpr ⟨List.mem_of_getElem? (i := 4) rfl, List.forall_mem_cons.mpr ⟨List.mem_of_getElem? (i := 5) rfl, fun _ h => absurd h List.not_mem_nil⟩⟩⟩) ?_
          first | exact leaf _ 1 P97 (by omega) r97 (by rw [q97.fi (by decide) rfl]; exact b0) | exact leaf _ 0 P97 (by omega) r43 b0
    ·
      refine ab_aload_n X 0 d_MO_satisfied_0 rfl rfl ?_
      refine ab_iconst (v := (-1)) X d_MO_satisfied_1 (by decide) ?_
      refine ab_putI X fp_MO_99 d_MO_satisfied_2 (by first | assumption | decide | (show _ < 124; omega) | (show _ < 61; omega) | (show _ < 20; omega)) rfl rfl ?_
      refine ab_gen (fun u2 e2 => ?_)
      have P2 : gP [26, 27, 29, 30, 115, 116] u u2 := by rw [e2]; exact R0.ui rfl (by decide)
      refine ab_aload_n X 0 d_MO_satisfied_5 rfl rfl ?_
      refine ab_ldcw X (v := 100000) (ab_in 1248 (by decide +kernel) (by decide +kernel)) d_MO_satisfied_6 ?_
      refine ab_putI X fp_MO_102 d_MO_satisfied_9 (by first | assumption | decide | (show _ < 124; omega) | (show _ < 61; omega) | (show _ < 20; omega)) rfl rfl ?_
      refine ab_gen (fun u9 e9 => ?_)
      have P9 : gP [26, 27, 29, 30, 115, 116] u u9 := by rw [e9]; exact P2.ui rfl (by decide)
      refine ab_aload_n X 0 d_MO_satisfied_12 rfl rfl ?_
      refine ab_gR X fl_MO_45 d_MO_satisfied_13 (by first | assumption | decide | (show _ < 124; omega) | (show _ < 61; omega) | (show _ < 20; omega)) (P9.1.mo11) ?_
      refine ab_iload_n X 2 d_MO_satisfied_16 rfl rfl ?_
      refine ab_iald X (3 * p1 + j) ⟨rfl, rfl⟩ d_MO_satisfied_17 (by first | assumption | decide | (show _ < 124; omega) | (show _ < 61; omega) | (show _ < 20; omega)) (rfl) (show 3 * p1 + j < 72 by omega) (ab_ln_lt _ _) ?_
      refine ab_top (P9.ai (by decide) ew) ?_
      refine ab_istore4 X 0 1 2 3 d_MO_satisfied_18 (by decide) rfl rfl rfl rfl rfl rfl rfl rfl ?_
      refine ab_aload_n X 1 d_MO_satisfied_20 rfl rfl ?_
      refine ab_gR X fl_MO_42 d_MO_satisfied_21 (by first | assumption | decide | (show _ < 124; omega) | (show _ < 61; omega) | (show _ < 20; omega)) (P9.1.mo10) ?_
      refine ab_iconst (v := 4) X d_MO_satisfied_24 (by decide) ?_
      refine ab_iload_n X 2 d_MO_satisfied_25 rfl rfl ?_
      refine ab_imul X d_MO_satisfied_26 ?_
      refine ab_iald X (4 * p1) ⟨rfl, rfl⟩ d_MO_satisfied_27 (by first | assumption | decide | (show _ < 124; omega) | (show _ < 61; omega) | (show _ < 20; omega)) (nI_4m p1) (show 4 * p1 < 160 by omega) (ab_ln_lt _ _) ?_
      refine ab_istore5 X 0 1 2 3 4 d_MO_satisfied_28 (by decide) rfl rfl rfl rfl rfl rfl rfl rfl rfl rfl ?_
      refine ab_aload_n X 2 d_MO_satisfied_30 rfl rfl ?_
      refine ab_gR X fl_MO_42 d_MO_satisfied_31 (by first | assumption | decide | (show _ < 124; omega) | (show _ < 61; omega) | (show _ < 20; omega)) (P9.1.mo10) ?_
      refine ab_iconst (v := 4) X d_MO_satisfied_34 (by decide) ?_
      refine ab_iload_n X 3 d_MO_satisfied_35 rfl rfl ?_
      refine ab_imul X d_MO_satisfied_36 ?_
      refine ab_iconst (v := 1) X d_MO_satisfied_37 (by decide) ?_
      refine ab_iadd X d_MO_satisfied_38 ?_
      refine ab_iald X (4 * p1 + 1) ⟨rfl, rfl⟩ d_MO_satisfied_39 (by first | assumption | decide | (show _ < 124; omega) | (show _ < 61; omega) | (show _ < 20; omega)) (nI_4b p1) (show 4 * p1 + 1 < 160 by omega) (ab_ln_lt _ _) ?_
      refine ab_istore6 X 0 1 2 3 4 5 d_MO_satisfied_40 (by decide) rfl rfl rfl rfl rfl rfl rfl rfl rfl rfl rfl rfl ?_
      refine ab_aload_n X 3 d_MO_satisfied_42 rfl rfl ?_
      refine ab_callV (as := []) X (fun h => by cases h) (s_MO_newRow u9 P9.1) lk_MO_267 d_MO_satisfied_43 rfl rfl (by first | assumption | decide | (show _ < 124; omega) | (show _ < 61; omega) | (show _ < 20; omega)) ⟨by first | exact Nat.le_of_ble_eq_true rfl | (simp only [ab_rm]; omega), by first | exact Nat.le_of_ble_eq_true rfl | (simp only [ab_rm]; omega)⟩ ⟨by first | exact Nat.le_of_ble_eq_true rfl | (simp only [ab_rm]; omega), by first | exact Nat.le_of_ble_eq_true rfl | (simp only [ab_rm]; omega)⟩ (Nat.le_of_ble_eq_true rfl) (fun u43 r43 h43 => ?_)
      obtain ⟨⟨q43, r43⟩, rfl⟩ := h43
      have P43 := P9.trans q43 (by decide)
      have b0 : bl q (u43.1 17 0 29) := Or.inl (by rw [q43.fi (by decide) rfl, e9, e2]; simp [ab_up])
      refine ab_iload X 2 d_MO_satisfied_46 rfl ?_
      refine ab_iconst (v := 1) X d_MO_satisfied_48 (by decide) ?_
      refine ab_icmp_eq X 66 d_MO_satisfied_49 rfl (fun hb => absurd hb ((by decide))) (fun _ => ?_)
      refine ab_iload X 2 d_MO_satisfied_52 rfl ?_
      refine ab_bipush (v := 11) X d_MO_satisfied_54 (by decide) ?_
      refine ab_icmp_eq X 66 d_MO_satisfied_56 rfl (fun _ => ?_) (fun hb => absurd ((by decide)) hb)
      refine ab_iload_n X 6 d_MO_satisfied_66 rfl rfl ?_
      refine ab_if_eq X 306 d_MO_satisfied_67 rfl (fun h67 => ?_) (fun h67 => ?_)
      ·
        refine ab_lv (List.forall_mem_cons.mpr ⟨List.mem_of_getElem? (i := 3) rfl, List.forall_mem_cons.mpr ⟨List.mem_of_getElem? (i := 4) rfl, List.forall_mem_cons.mpr ⟨List.mem_of_getElem? (i := 5) rfl, fun _ h => absurd h List.not_mem_nil⟩⟩⟩) ?_
        exact fin _ P43 b0
      ·
        refine ab_aload_n X 3 d_MO_satisfied_70 rfl rfl ?_
        refine ab_gR X fl_MO_33 d_MO_satisfied_71 (by first | assumption | decide | (show _ < 124; omega) | (show _ < 61; omega) | (show _ < 20; omega)) (P43.1.mo7) ?_
        refine ab_iload_n X 4 d_MO_satisfied_74 rfl rfl ?_
        refine ab_iald X (p1) ⟨rfl, rfl⟩ d_MO_satisfied_75 (by first | assumption | decide | (show _ < 124; omega) | (show _ < 61; omega) | (show _ < 20; omega)) (rfl) (show p1 < 40 by omega) (ab_ln_lt _ _) ?_
        refine ab_iconst (v := 3) X d_MO_satisfied_76 (by decide) ?_
        refine ab_icmp_ge X 100 d_MO_satisfied_77 rfl (fun h77 => ?_) (fun h77 => ?_)
        ·
          refine ab_lv (List.forall_mem_cons.mpr ⟨List.mem_of_getElem? (i := 3) rfl, List.forall_mem_cons.mpr ⟨List.mem_of_getElem? (i := 4) rfl, List.forall_mem_cons.mpr ⟨List.mem_of_getElem? (i := 5) rfl, fun _ h => absurd h List.not_mem_nil⟩⟩⟩) ?_
          first | exact leaf _ 1 P43 (by omega) r97 (by rw [q97.fi (by decide) rfl]; exact b0) | exact leaf _ 0 P43 (by omega) r43 b0
        ·
          refine ab_aload_n X 3 d_MO_satisfied_80 rfl rfl ?_
          refine ab_aload_n X 3 d_MO_satisfied_81 rfl rfl ?_
          refine ab_gR X fl_MO_33 d_MO_satisfied_82 (by first | assumption | decide | (show _ < 124; omega) | (show _ < 61; omega) | (show _ < 20; omega)) (P43.1.mo7) ?_
          refine ab_iload_n X 4 d_MO_satisfied_85 rfl rfl ?_
          refine ab_iald X (p1) ⟨rfl, rfl⟩ d_MO_satisfied_86 (by first | assumption | decide | (show _ < 124; omega) | (show _ < 61; omega) | (show _ < 20; omega)) (rfl) (show p1 < 40 by omega) (ab_ln_lt _ _) ?_
          refine ab_bipush (v := 10) X d_MO_satisfied_87 (by decide) ?_
          refine ab_imul X d_MO_satisfied_89 ?_
          refine ab_aload_n X 3 d_MO_satisfied_90 rfl rfl ?_
          refine ab_gR X fl_MO_36 d_MO_satisfied_91 (by first | assumption | decide | (show _ < 124; omega) | (show _ < 61; omega) | (show _ < 20; omega)) (P43.1.mo8) ?_
          refine ab_iload_n X 4 d_MO_satisfied_94 rfl rfl ?_
          refine ab_iald X (p1) ⟨rfl, rfl⟩ d_MO_satisfied_95 (by first | assumption | decide | (show _ < 124; omega) | (show _ < 61; omega) | (show _ < 20; omega)) (rfl) (show p1 < 40 by omega) (ab_ln_lt _ _) ?_
          refine ab_iadd X d_MO_satisfied_96 ?_
          refine ab_callV (as := [ab_I _]) X (fun h => by cases h) (s_MO_item1 u43 _ 0 P43.1 r43 (by omega)) lk_MO_264 d_MO_satisfied_97 rfl rfl (by first | assumption | decide | (show _ < 124; omega) | (show _ < 61; omega) | (show _ < 20; omega)) ⟨by first | exact Nat.le_of_ble_eq_true rfl | (simp only [ab_rm]; omega), by first | exact Nat.le_of_ble_eq_true rfl | (simp only [ab_rm]; omega)⟩ ⟨by first | exact Nat.le_of_ble_eq_true rfl | (simp only [ab_rm]; omega), by first | exact Nat.le_of_ble_eq_true rfl | (simp only [ab_rm]; omega)⟩ (Nat.le_of_ble_eq_true rfl) (fun u97 r97 h97 => ?_)
          obtain ⟨⟨q97, r97⟩, rfl⟩ := h97
          have P97 := P43.trans q97 (by decide)
          refine ab_lv (List.forall_mem_cons.mpr ⟨List.mem_of_getElem? (i := 3) rfl, List.forall_mem_cons.mpr ⟨List.mem_of_getElem? (i := 4) rfl, List.forall_mem_cons.mpr ⟨List.mem_of_getElem? (i := 5) rfl, fun _ h => absurd h List.not_mem_nil⟩⟩⟩) ?_
          first | exact leaf _ 1 P97 (by omega) r97 (by rw [q97.fi (by decide) rfl]; exact b0) | exact leaf _ 0 P97 (by omega) r43 b0
    ·
      refine ab_aload_n X 0 d_MO_satisfied_0 rfl rfl ?_
      refine ab_iconst (v := (-1)) X d_MO_satisfied_1 (by decide) ?_
      refine ab_putI X fp_MO_99 d_MO_satisfied_2 (by first | assumption | decide | (show _ < 124; omega) | (show _ < 61; omega) | (show _ < 20; omega)) rfl rfl ?_
      refine ab_gen (fun u2 e2 => ?_)
      have P2 : gP [26, 27, 29, 30, 115, 116] u u2 := by rw [e2]; exact R0.ui rfl (by decide)
      refine ab_aload_n X 0 d_MO_satisfied_5 rfl rfl ?_
      refine ab_ldcw X (v := 100000) (ab_in 1248 (by decide +kernel) (by decide +kernel)) d_MO_satisfied_6 ?_
      refine ab_putI X fp_MO_102 d_MO_satisfied_9 (by first | assumption | decide | (show _ < 124; omega) | (show _ < 61; omega) | (show _ < 20; omega)) rfl rfl ?_
      refine ab_gen (fun u9 e9 => ?_)
      have P9 : gP [26, 27, 29, 30, 115, 116] u u9 := by rw [e9]; exact P2.ui rfl (by decide)
      refine ab_aload_n X 0 d_MO_satisfied_12 rfl rfl ?_
      refine ab_gR X fl_MO_45 d_MO_satisfied_13 (by first | assumption | decide | (show _ < 124; omega) | (show _ < 61; omega) | (show _ < 20; omega)) (P9.1.mo11) ?_
      refine ab_iload_n X 2 d_MO_satisfied_16 rfl rfl ?_
      refine ab_iald X (3 * p1 + j) ⟨rfl, rfl⟩ d_MO_satisfied_17 (by first | assumption | decide | (show _ < 124; omega) | (show _ < 61; omega) | (show _ < 20; omega)) (rfl) (show 3 * p1 + j < 72 by omega) (ab_ln_lt _ _) ?_
      refine ab_top (P9.ai (by decide) ew) ?_
      refine ab_istore4 X 0 1 2 3 d_MO_satisfied_18 (by decide) rfl rfl rfl rfl rfl rfl rfl rfl ?_
      refine ab_aload_n X 1 d_MO_satisfied_20 rfl rfl ?_
      refine ab_gR X fl_MO_42 d_MO_satisfied_21 (by first | assumption | decide | (show _ < 124; omega) | (show _ < 61; omega) | (show _ < 20; omega)) (P9.1.mo10) ?_
      refine ab_iconst (v := 4) X d_MO_satisfied_24 (by decide) ?_
      refine ab_iload_n X 2 d_MO_satisfied_25 rfl rfl ?_
      refine ab_imul X d_MO_satisfied_26 ?_
      refine ab_iald X (4 * p1) ⟨rfl, rfl⟩ d_MO_satisfied_27 (by first | assumption | decide | (show _ < 124; omega) | (show _ < 61; omega) | (show _ < 20; omega)) (nI_4m p1) (show 4 * p1 < 160 by omega) (ab_ln_lt _ _) ?_
      refine ab_istore5 X 0 1 2 3 4 d_MO_satisfied_28 (by decide) rfl rfl rfl rfl rfl rfl rfl rfl rfl rfl ?_
      refine ab_aload_n X 2 d_MO_satisfied_30 rfl rfl ?_
      refine ab_gR X fl_MO_42 d_MO_satisfied_31 (by first | assumption | decide | (show _ < 124; omega) | (show _ < 61; omega) | (show _ < 20; omega)) (P9.1.mo10) ?_
      refine ab_iconst (v := 4) X d_MO_satisfied_34 (by decide) ?_
      refine ab_iload_n X 3 d_MO_satisfied_35 rfl rfl ?_
      refine ab_imul X d_MO_satisfied_36 ?_
      refine ab_iconst (v := 1) X d_MO_satisfied_37 (by decide) ?_
      refine ab_iadd X d_MO_satisfied_38 ?_
      refine ab_iald X (4 * p1 + 1) ⟨rfl, rfl⟩ d_MO_satisfied_39 (by first | assumption | decide | (show _ < 124; omega) | (show _ < 61; omega) | (show _ < 20; omega)) (nI_4b p1) (show 4 * p1 + 1 < 160 by omega) (ab_ln_lt _ _) ?_
      refine ab_istore6 X 0 1 2 3 4 5 d_MO_satisfied_40 (by decide) rfl rfl rfl rfl rfl rfl rfl rfl rfl rfl rfl rfl ?_
      refine ab_aload_n X 3 d_MO_satisfied_42 rfl rfl ?_
      refine ab_callV (as := []) X (fun h => by cases h) (s_MO_newRow u9 P9.1) lk_MO_267 d_MO_satisfied_43 rfl rfl (by first | assumption | decide | (show _ < 124; omega) | (show _ < 61; omega) | (show _ < 20; omega)) ⟨by first | exact Nat.le_of_ble_eq_true rfl | (simp only [ab_rm]; omega), by first | exact Nat.le_of_ble_eq_true rfl | (simp only [ab_rm]; omega)⟩ ⟨by first | exact Nat.le_of_ble_eq_true rfl | (simp only [ab_rm]; omega), by first | exact Nat.le_of_ble_eq_true rfl | (simp only [ab_rm]; omega)⟩ (Nat.le_of_ble_eq_true rfl) (fun u43 r43 h43 => ?_)
      obtain ⟨⟨q43, r43⟩, rfl⟩ := h43
      have P43 := P9.trans q43 (by decide)
      have b0 : bl q (u43.1 17 0 29) := Or.inl (by rw [q43.fi (by decide) rfl, e9, e2]; simp [ab_up])
      refine ab_iload X 2 d_MO_satisfied_46 rfl ?_
      refine ab_iconst (v := 1) X d_MO_satisfied_48 (by decide) ?_
      refine ab_icmp_eq X 66 d_MO_satisfied_49 rfl (fun hb => absurd hb ((by decide))) (fun _ => ?_)
      refine ab_iload X 2 d_MO_satisfied_52 rfl ?_
      refine ab_bipush (v := 11) X d_MO_satisfied_54 (by decide) ?_
      refine ab_icmp_eq X 66 d_MO_satisfied_56 rfl (fun hb => absurd hb ((by decide))) (fun _ => ?_)
      refine ab_iload X 2 d_MO_satisfied_59 rfl ?_
      refine ab_bipush (v := 12) X d_MO_satisfied_61 (by decide) ?_
      refine ab_icmp_ne X 107 d_MO_satisfied_63 rfl (fun hb => absurd ((by decide)) hb) (fun _ => ?_)
      refine ab_iload_n X 6 d_MO_satisfied_66 rfl rfl ?_
      refine ab_if_eq X 306 d_MO_satisfied_67 rfl (fun h67 => ?_) (fun h67 => ?_)
      ·
        refine ab_lv (List.forall_mem_cons.mpr ⟨List.mem_of_getElem? (i := 3) rfl, List.forall_mem_cons.mpr ⟨List.mem_of_getElem? (i := 4) rfl, List.forall_mem_cons.mpr ⟨List.mem_of_getElem? (i := 5) rfl, fun _ h => absurd h List.not_mem_nil⟩⟩⟩) ?_
        exact fin _ P43 b0
      ·
        refine ab_aload_n X 3 d_MO_satisfied_70 rfl rfl ?_
        refine ab_gR X fl_MO_33 d_MO_satisfied_71 (by first | assumption | decide | (show _ < 124; omega) | (show _ < 61; omega) | (show _ < 20; omega)) (P43.1.mo7) ?_
        refine ab_iload_n X 4 d_MO_satisfied_74 rfl rfl ?_
        refine ab_iald X (p1) ⟨rfl, rfl⟩ d_MO_satisfied_75 (by first | assumption | decide | (show _ < 124; omega) | (show _ < 61; omega) | (show _ < 20; omega)) (rfl) (show p1 < 40 by omega) (ab_ln_lt _ _) ?_
        refine ab_iconst (v := 3) X d_MO_satisfied_76 (by decide) ?_
        refine ab_icmp_ge X 100 d_MO_satisfied_77 rfl (fun h77 => ?_) (fun h77 => ?_)
        ·
          refine ab_lv (List.forall_mem_cons.mpr ⟨List.mem_of_getElem? (i := 3) rfl, List.forall_mem_cons.mpr ⟨List.mem_of_getElem? (i := 4) rfl, List.forall_mem_cons.mpr ⟨List.mem_of_getElem? (i := 5) rfl, fun _ h => absurd h List.not_mem_nil⟩⟩⟩) ?_
          first | exact leaf _ 1 P43 (by omega) r97 (by rw [q97.fi (by decide) rfl]; exact b0) | exact leaf _ 0 P43 (by omega) r43 b0
        ·
          refine ab_aload_n X 3 d_MO_satisfied_80 rfl rfl ?_
          refine ab_aload_n X 3 d_MO_satisfied_81 rfl rfl ?_
          refine ab_gR X fl_MO_33 d_MO_satisfied_82 (by first | assumption | decide | (show _ < 124; omega) | (show _ < 61; omega) | (show _ < 20; omega)) (P43.1.mo7) ?_
          refine ab_iload_n X 4 d_MO_satisfied_85 rfl rfl ?_
          refine ab_iald X (p1) ⟨rfl, rfl⟩ d_MO_satisfied_86 (by first | assumption | decide | (show _ < 124; omega) | (show _ < 61; omega) | (show _ < 20; omega)) (rfl) (show p1 < 40 by omega) (ab_ln_lt _ _) ?_
          refine ab_bipush (v := 10) X d_MO_satisfied_87 (by decide) ?_
          refine ab_imul X d_MO_satisfied_89 ?_
          refine ab_aload_n X 3 d_MO_satisfied_90 rfl rfl ?_
          refine ab_gR X fl_MO_36 d_MO_satisfied_91 (by first | assumption | decide | (show _ < 124; omega) | (show _ < 61; omega) | (show _ < 20; omega)) (P43.1.mo8) ?_
          refine ab_iload_n X 4 d_MO_satisfied_94 rfl rfl ?_
          refine ab_iald X (p1) ⟨rfl, rfl⟩ d_MO_satisfied_95 (by first | assumption | decide | (show _ < 124; omega) | (show _ < 61; omega) | (show _ < 20; omega)) (rfl) (show p1 < 40 by omega) (ab_ln_lt _ _) ?_
          refine ab_iadd X d_MO_satisfied_96 ?_
          refine ab_callV (as := [ab_I _]) X (fun h => by cases h) (s_MO_item1 u43 _ 0 P43.1 r43 (by omega)) lk_MO_264 d_MO_satisfied_97 rfl rfl (by first | assumption | decide | (show _ < 124; omega) | (show _ < 61; omega) | (show _ < 20; omega)) ⟨by first | exact Nat.le_of_ble_eq_true rfl | (simp only [ab_rm]; omega), by first | exact Nat.le_of_ble_eq_true rfl | (simp only [ab_rm]; omega)⟩ ⟨by first | exact Nat.le_of_ble_eq_true rfl | (simp only [ab_rm]; omega), by first | exact Nat.le_of_ble_eq_true rfl | (simp only [ab_rm]; omega)⟩ (Nat.le_of_ble_eq_true rfl) (fun u97 r97 h97 => ?_)
          obtain ⟨⟨q97, r97⟩, rfl⟩ := h97
          have P97 := P43.trans q97 (by decide)
          refine ab_lv (List.forall_mem_cons.mpr ⟨List.mem_of_getElem? (i := 3) rfl, List.forall_mem_cons.mpr ⟨List.mem_of_getElem? (i := 4) rfl, List.forall_mem_cons.mpr ⟨List.mem_of_getElem? (i := 5) rfl, fun _ h => absurd h List.not_mem_nil⟩⟩⟩) ?_
          first | exact leaf _ 1 P97 (by omega) r97 (by rw [q97.fi (by decide) rfl]; exact b0) | exact leaf _ 0 P97 (by omega) r43 b0
  · subst hw
    have sB := sB (by omega)
    refine ab_aload_n X 0 d_MO_satisfied_0 rfl rfl ?_
    refine ab_iconst (v := (-1)) X d_MO_satisfied_1 (by decide) ?_
    refine ab_putI X fp_MO_99 d_MO_satisfied_2 (by first | assumption | decide | (show _ < 124; omega) | (show _ < 61; omega) | (show _ < 20; omega)) rfl rfl ?_
    refine ab_gen (fun u2 e2 => ?_)
    have P2 : gP [26, 27, 29, 30, 115, 116] u u2 := by rw [e2]; exact R0.ui rfl (by decide)
    refine ab_aload_n X 0 d_MO_satisfied_5 rfl rfl ?_
    refine ab_ldcw X (v := 100000) (ab_in 1248 (by decide +kernel) (by decide +kernel)) d_MO_satisfied_6 ?_
    refine ab_putI X fp_MO_102 d_MO_satisfied_9 (by first | assumption | decide | (show _ < 124; omega) | (show _ < 61; omega) | (show _ < 20; omega)) rfl rfl ?_
    refine ab_gen (fun u9 e9 => ?_)
    have P9 : gP [26, 27, 29, 30, 115, 116] u u9 := by rw [e9]; exact P2.ui rfl (by decide)
    refine ab_aload_n X 0 d_MO_satisfied_12 rfl rfl ?_
    refine ab_gR X fl_MO_45 d_MO_satisfied_13 (by first | assumption | decide | (show _ < 124; omega) | (show _ < 61; omega) | (show _ < 20; omega)) (P9.1.mo11) ?_
    refine ab_iload_n X 2 d_MO_satisfied_16 rfl rfl ?_
    refine ab_iald X (3 * p1 + j) ⟨rfl, rfl⟩ d_MO_satisfied_17 (by first | assumption | decide | (show _ < 124; omega) | (show _ < 61; omega) | (show _ < 20; omega)) (rfl) (show 3 * p1 + j < 72 by omega) (ab_ln_lt _ _) ?_
    refine ab_top (P9.ai (by decide) ew) ?_
    refine ab_istore4 X 0 1 2 3 d_MO_satisfied_18 (by decide) rfl rfl rfl rfl rfl rfl rfl rfl ?_
    refine ab_aload_n X 1 d_MO_satisfied_20 rfl rfl ?_
    refine ab_gR X fl_MO_42 d_MO_satisfied_21 (by first | assumption | decide | (show _ < 124; omega) | (show _ < 61; omega) | (show _ < 20; omega)) (P9.1.mo10) ?_
    refine ab_iconst (v := 4) X d_MO_satisfied_24 (by decide) ?_
    refine ab_iload_n X 2 d_MO_satisfied_25 rfl rfl ?_
    refine ab_imul X d_MO_satisfied_26 ?_
    refine ab_iald X (4 * p1) ⟨rfl, rfl⟩ d_MO_satisfied_27 (by first | assumption | decide | (show _ < 124; omega) | (show _ < 61; omega) | (show _ < 20; omega)) (nI_4m p1) (show 4 * p1 < 160 by omega) (ab_ln_lt _ _) ?_
    refine ab_istore5 X 0 1 2 3 4 d_MO_satisfied_28 (by decide) rfl rfl rfl rfl rfl rfl rfl rfl rfl rfl ?_
    refine ab_aload_n X 2 d_MO_satisfied_30 rfl rfl ?_
    refine ab_gR X fl_MO_42 d_MO_satisfied_31 (by first | assumption | decide | (show _ < 124; omega) | (show _ < 61; omega) | (show _ < 20; omega)) (P9.1.mo10) ?_
    refine ab_iconst (v := 4) X d_MO_satisfied_34 (by decide) ?_
    refine ab_iload_n X 3 d_MO_satisfied_35 rfl rfl ?_
    refine ab_imul X d_MO_satisfied_36 ?_
    refine ab_iconst (v := 1) X d_MO_satisfied_37 (by decide) ?_
    refine ab_iadd X d_MO_satisfied_38 ?_
    refine ab_iald X (4 * p1 + 1) ⟨rfl, rfl⟩ d_MO_satisfied_39 (by first | assumption | decide | (show _ < 124; omega) | (show _ < 61; omega) | (show _ < 20; omega)) (nI_4b p1) (show 4 * p1 + 1 < 160 by omega) (ab_ln_lt _ _) ?_
    refine ab_istore6 X 0 1 2 3 4 5 d_MO_satisfied_40 (by decide) rfl rfl rfl rfl rfl rfl rfl rfl rfl rfl rfl rfl ?_
    refine ab_aload_n X 3 d_MO_satisfied_42 rfl rfl ?_
    refine ab_callV (as := []) X (fun h => by cases h) (s_MO_newRow u9 P9.1) lk_MO_267 d_MO_satisfied_43 rfl rfl (by first | assumption | decide | (show _ < 124; omega) | (show _ < 61; omega) | (show _ < 20; omega)) ⟨by first | exact Nat.le_of_ble_eq_true rfl | (simp only [ab_rm]; omega), by first | exact Nat.le_of_ble_eq_true rfl | (simp only [ab_rm]; omega)⟩ ⟨by first | exact Nat.le_of_ble_eq_true rfl | (simp only [ab_rm]; omega), by first | exact Nat.le_of_ble_eq_true rfl | (simp only [ab_rm]; omega)⟩ (Nat.le_of_ble_eq_true rfl) (fun u43 r43 h43 => ?_)
    obtain ⟨⟨q43, r43⟩, rfl⟩ := h43
    have P43 := P9.trans q43 (by decide)
    have b0 : bl q (u43.1 17 0 29) := Or.inl (by rw [q43.fi (by decide) rfl, e9, e2]; simp [ab_up])
    refine ab_iload X 2 d_MO_satisfied_46 rfl ?_
    refine ab_iconst (v := 1) X d_MO_satisfied_48 (by decide) ?_
    refine ab_icmp_eq X 66 d_MO_satisfied_49 rfl (fun hb => absurd hb ((by decide))) (fun _ => ?_)
    refine ab_iload X 2 d_MO_satisfied_52 rfl ?_
    refine ab_bipush (v := 11) X d_MO_satisfied_54 (by decide) ?_
    refine ab_icmp_eq X 66 d_MO_satisfied_56 rfl (fun hb => absurd hb ((by decide))) (fun _ => ?_)
    refine ab_iload X 2 d_MO_satisfied_59 rfl ?_
    refine ab_bipush (v := 12) X d_MO_satisfied_61 (by decide) ?_
    refine ab_icmp_ne X 107 d_MO_satisfied_63 rfl (fun _ => ?_) (fun hb => absurd hb ((by decide)))
    refine ab_iload X 2 d_MO_satisfied_107 rfl ?_
    refine ab_iconst (v := 2) X d_MO_satisfied_109 (by decide) ?_
    refine ab_icmp_ne X 130 d_MO_satisfied_110 rfl (fun _ => ?_) (fun hb => absurd hb ((by decide)))
    refine ab_iload X 2 d_MO_satisfied_130 rfl ?_
    refine ab_iconst (v := 3) X d_MO_satisfied_132 (by decide) ?_
    refine ab_icmp_ne X 181 d_MO_satisfied_133 rfl (fun _ => ?_) (fun hb => absurd hb ((by decide)))
    refine ab_iload X 2 d_MO_satisfied_181 rfl ?_
    refine ab_iconst (v := 4) X d_MO_satisfied_183 (by decide) ?_
    refine ab_icmp_ne X 206 d_MO_satisfied_184 rfl (fun _ => ?_) (fun hb => absurd hb ((by decide)))
    refine ab_iload X 2 d_MO_satisfied_206 rfl ?_
    refine ab_iconst (v := 5) X d_MO_satisfied_208 (by decide) ?_
    refine ab_icmp_ne X 229 d_MO_satisfied_209 rfl (fun _ => ?_) (fun hb => absurd hb ((by decide)))
    refine ab_iload X 2 d_MO_satisfied_229 rfl ?_
    refine ab_bipush (v := 6) X d_MO_satisfied_231 (by decide) ?_
    refine ab_icmp_ne X 253 d_MO_satisfied_233 rfl (fun _ => ?_) (fun hb => absurd hb ((by decide)))
    refine ab_iload X 2 d_MO_satisfied_253 rfl ?_
    refine ab_bipush (v := 7) X d_MO_satisfied_255 (by decide) ?_
    refine ab_icmp_ne X 268 d_MO_satisfied_257 rfl (fun _ => ?_) (fun hb => absurd hb ((by decide)))
    refine ab_iload X 2 d_MO_satisfied_268 rfl ?_
    refine ab_bipush (v := 8) X d_MO_satisfied_270 (by decide) ?_
    refine ab_icmp_ne X 295 d_MO_satisfied_272 rfl (fun hb => absurd ((by decide)) hb) (fun _ => ?_)
    refine ab_aload_n X 3 d_MO_satisfied_275 rfl rfl ?_
    refine ab_iconst (v := 1) X d_MO_satisfied_276 (by decide) ?_
    refine ab_callV (as := [ab_I 1]) X (fun h => by cases h) (s_MO_item1 u43 1 0 P43.1 r43 (by omega)) lk_MO_264 d_MO_satisfied_277 rfl rfl (by first | assumption | decide | (show _ < 124; omega) | (show _ < 61; omega) | (show _ < 20; omega)) ⟨by first | exact Nat.le_of_ble_eq_true rfl | (simp only [ab_rm]; omega), by first | exact Nat.le_of_ble_eq_true rfl | (simp only [ab_rm]; omega)⟩ ⟨by first | exact Nat.le_of_ble_eq_true rfl | (simp only [ab_rm]; omega), by first | exact Nat.le_of_ble_eq_true rfl | (simp only [ab_rm]; omega)⟩ (Nat.le_of_ble_eq_true rfl) (fun u277 r277 h277 => ?_)
    obtain ⟨⟨q277, r277⟩, rfl⟩ := h277
    have P277 := P43.trans q277 (by decide)
    refine ab_aload_n X 3 d_MO_satisfied_280 rfl rfl ?_
    refine ab_iload_n X 4 d_MO_satisfied_281 rfl rfl ?_
    refine ab_callS (as := [ab_I (nI p1)]) X (fun h => by cases h) (t_MO_b u277 p1) ls_MO_204 d_MO_satisfied_282 rfl rfl ⟨by first | exact Nat.le_of_ble_eq_true rfl | (simp only [ab_rm]; omega), by first | exact Nat.le_of_ble_eq_true rfl | (simp only [ab_rm]; omega)⟩ ⟨by first | exact Nat.le_of_ble_eq_true rfl | (simp only [ab_rm]; omega), by first | exact Nat.le_of_ble_eq_true rfl | (simp only [ab_rm]; omega)⟩ (Nat.le_of_ble_eq_true rfl) (fun u282 r282 h282 => ?_)
    obtain ⟨e282, rfl⟩ := h282
    subst u282
    refine ab_callV (as := [ab_I (nI (3 * p1))]) X (fun h => by cases h) (s_MO_yes u277 (3 * p1) (4 * lf p1 - 3) (0 + 1) P277.1 (by omega) (by rw [P277.ai (by decide) rfl]; exact sB) (by omega) r277 (by omega)) lk_MO_270 d_MO_satisfied_285 rfl rfl (by first | assumption | decide | (show _ < 124; omega) | (show _ < 61; omega) | (show _ < 20; omega)) ⟨by first | exact Nat.le_of_ble_eq_true rfl | (simp only [ab_rm]; omega), by first | exact Nat.le_of_ble_eq_true rfl | (simp only [ab_rm]; omega)⟩ ⟨by first | exact Nat.le_of_ble_eq_true rfl | (simp only [ab_rm]; omega), by first | exact Nat.le_of_ble_eq_true rfl | (simp only [ab_rm]; omega)⟩ (Nat.le_of_ble_eq_true rfl) (fun u285 r285 h285 => ?_)
    obtain ⟨⟨q285, r285, hr285, er285⟩, rfl⟩ := h285
    have P285 := P277.trans q285 (by decide)
    refine ab_aload_n X 3 d_MO_satisfied_288 rfl rfl ?_
    refine ab_callV (as := []) X (fun h => by cases h) (s_MO_offer u285 q r285 P285.1 er285 (by omega) (by omega) (by rw [q285.fi (by decide) rfl, q277.fi (by decide) rfl]; exact b0)) lk_MO_273 d_MO_satisfied_289 rfl rfl (by first | assumption | decide | (show _ < 124; omega) | (show _ < 61; omega) | (show _ < 20; omega)) ⟨by first | exact Nat.le_of_ble_eq_true rfl | (simp only [ab_rm]; omega), by first | exact Nat.le_of_ble_eq_true rfl | (simp only [ab_rm]; omega)⟩ ⟨by first | exact Nat.le_of_ble_eq_true rfl | (simp only [ab_rm]; omega), by first | exact Nat.le_of_ble_eq_true rfl | (simp only [ab_rm]; omega)⟩ (Nat.le_of_ble_eq_true rfl) (fun u289 r289 h289 => ?_)
    obtain ⟨⟨q289, b289⟩, rfl⟩ := h289
    have P289 := P285.trans q289 (by decide)
    refine ab_goto X 306 d_MO_satisfied_292 rfl ?_
    refine ab_lv (List.forall_mem_cons.mpr ⟨List.mem_of_getElem? (i := 3) rfl, List.forall_mem_cons.mpr ⟨List.mem_of_getElem? (i := 4) rfl, List.forall_mem_cons.mpr ⟨List.mem_of_getElem? (i := 5) rfl, fun _ h => absurd h List.not_mem_nil⟩⟩⟩) ?_
    exact fin _ P289 b289
  · subst hw
    have sB := sB (by omega)
    refine ab_aload_n X 0 d_MO_satisfied_0 rfl rfl ?_
    refine ab_iconst (v := (-1)) X d_MO_satisfied_1 (by decide) ?_
    refine ab_putI X fp_MO_99 d_MO_satisfied_2 (by first | assumption | decide | (show _ < 124; omega) | (show _ < 61; omega) | (show _ < 20; omega)) rfl rfl ?_
    refine ab_gen (fun u2 e2 => ?_)
    have P2 : gP [26, 27, 29, 30, 115, 116] u u2 := by rw [e2]; exact R0.ui rfl (by decide)
    refine ab_aload_n X 0 d_MO_satisfied_5 rfl rfl ?_
    refine ab_ldcw X (v := 100000) (ab_in 1248 (by decide +kernel) (by decide +kernel)) d_MO_satisfied_6 ?_
    refine ab_putI X fp_MO_102 d_MO_satisfied_9 (by first | assumption | decide | (show _ < 124; omega) | (show _ < 61; omega) | (show _ < 20; omega)) rfl rfl ?_
    refine ab_gen (fun u9 e9 => ?_)
    have P9 : gP [26, 27, 29, 30, 115, 116] u u9 := by rw [e9]; exact P2.ui rfl (by decide)
    refine ab_aload_n X 0 d_MO_satisfied_12 rfl rfl ?_
    refine ab_gR X fl_MO_45 d_MO_satisfied_13 (by first | assumption | decide | (show _ < 124; omega) | (show _ < 61; omega) | (show _ < 20; omega)) (P9.1.mo11) ?_
    refine ab_iload_n X 2 d_MO_satisfied_16 rfl rfl ?_
    refine ab_iald X (3 * p1 + j) ⟨rfl, rfl⟩ d_MO_satisfied_17 (by first | assumption | decide | (show _ < 124; omega) | (show _ < 61; omega) | (show _ < 20; omega)) (rfl) (show 3 * p1 + j < 72 by omega) (ab_ln_lt _ _) ?_
    refine ab_top (P9.ai (by decide) ew) ?_
    refine ab_istore4 X 0 1 2 3 d_MO_satisfied_18 (by decide) rfl rfl rfl rfl rfl rfl rfl rfl ?_
    refine ab_aload_n X 1 d_MO_satisfied_20 rfl rfl ?_
    refine ab_gR X fl_MO_42 d_MO_satisfied_21 (by first | assumption | decide | (show _ < 124; omega) | (show _ < 61; omega) | (show _ < 20; omega)) (P9.1.mo10) ?_
    refine ab_iconst (v := 4) X d_MO_satisfied_24 (by decide) ?_
    refine ab_iload_n X 2 d_MO_satisfied_25 rfl rfl ?_
    refine ab_imul X d_MO_satisfied_26 ?_
    refine ab_iald X (4 * p1) ⟨rfl, rfl⟩ d_MO_satisfied_27 (by first | assumption | decide | (show _ < 124; omega) | (show _ < 61; omega) | (show _ < 20; omega)) (nI_4m p1) (show 4 * p1 < 160 by omega) (ab_ln_lt _ _) ?_
    refine ab_istore5 X 0 1 2 3 4 d_MO_satisfied_28 (by decide) rfl rfl rfl rfl rfl rfl rfl rfl rfl rfl ?_
    refine ab_aload_n X 2 d_MO_satisfied_30 rfl rfl ?_
    refine ab_gR X fl_MO_42 d_MO_satisfied_31 (by first | assumption | decide | (show _ < 124; omega) | (show _ < 61; omega) | (show _ < 20; omega)) (P9.1.mo10) ?_
    refine ab_iconst (v := 4) X d_MO_satisfied_34 (by decide) ?_
    refine ab_iload_n X 3 d_MO_satisfied_35 rfl rfl ?_
    refine ab_imul X d_MO_satisfied_36 ?_
    refine ab_iconst (v := 1) X d_MO_satisfied_37 (by decide) ?_
    refine ab_iadd X d_MO_satisfied_38 ?_
    refine ab_iald X (4 * p1 + 1) ⟨rfl, rfl⟩ d_MO_satisfied_39 (by first | assumption | decide | (show _ < 124; omega) | (show _ < 61; omega) | (show _ < 20; omega)) (nI_4b p1) (show 4 * p1 + 1 < 160 by omega) (ab_ln_lt _ _) ?_
    refine ab_istore6 X 0 1 2 3 4 5 d_MO_satisfied_40 (by decide) rfl rfl rfl rfl rfl rfl rfl rfl rfl rfl rfl rfl ?_
    refine ab_aload_n X 3 d_MO_satisfied_42 rfl rfl ?_
    refine ab_callV (as := []) X (fun h => by cases h) (s_MO_newRow u9 P9.1) lk_MO_267 d_MO_satisfied_43 rfl rfl (by first | assumption | decide | (show _ < 124; omega) | (show _ < 61; omega) | (show _ < 20; omega)) ⟨by first | exact Nat.le_of_ble_eq_true rfl | (simp only [ab_rm]; omega), by first | exact Nat.le_of_ble_eq_true rfl | (simp only [ab_rm]; omega)⟩ ⟨by first | exact Nat.le_of_ble_eq_true rfl | (simp only [ab_rm]; omega), by first | exact Nat.le_of_ble_eq_true rfl | (simp only [ab_rm]; omega)⟩ (Nat.le_of_ble_eq_true rfl) (fun u43 r43 h43 => ?_)
    obtain ⟨⟨q43, r43⟩, rfl⟩ := h43
    have P43 := P9.trans q43 (by decide)
    have b0 : bl q (u43.1 17 0 29) := Or.inl (by rw [q43.fi (by decide) rfl, e9, e2]; simp [ab_up])
    refine ab_iload X 2 d_MO_satisfied_46 rfl ?_
    refine ab_iconst (v := 1) X d_MO_satisfied_48 (by decide) ?_
    refine ab_icmp_eq X 66 d_MO_satisfied_49 rfl (fun hb => absurd hb ((by decide))) (fun _ => ?_)
    refine ab_iload X 2 d_MO_satisfied_52 rfl ?_
    refine ab_bipush (v := 11) X d_MO_satisfied_54 (by decide) ?_
    refine ab_icmp_eq X 66 d_MO_satisfied_56 rfl (fun hb => absurd hb ((by decide))) (fun _ => ?_)
    refine ab_iload X 2 d_MO_satisfied_59 rfl ?_
    refine ab_bipush (v := 12) X d_MO_satisfied_61 (by decide) ?_
    refine ab_icmp_ne X 107 d_MO_satisfied_63 rfl (fun _ => ?_) (fun hb => absurd hb ((by decide)))
    refine ab_iload X 2 d_MO_satisfied_107 rfl ?_
    refine ab_iconst (v := 2) X d_MO_satisfied_109 (by decide) ?_
    refine ab_icmp_ne X 130 d_MO_satisfied_110 rfl (fun _ => ?_) (fun hb => absurd hb ((by decide)))
    refine ab_iload X 2 d_MO_satisfied_130 rfl ?_
    refine ab_iconst (v := 3) X d_MO_satisfied_132 (by decide) ?_
    refine ab_icmp_ne X 181 d_MO_satisfied_133 rfl (fun _ => ?_) (fun hb => absurd hb ((by decide)))
    refine ab_iload X 2 d_MO_satisfied_181 rfl ?_
    refine ab_iconst (v := 4) X d_MO_satisfied_183 (by decide) ?_
    refine ab_icmp_ne X 206 d_MO_satisfied_184 rfl (fun _ => ?_) (fun hb => absurd hb ((by decide)))
    refine ab_iload X 2 d_MO_satisfied_206 rfl ?_
    refine ab_iconst (v := 5) X d_MO_satisfied_208 (by decide) ?_
    refine ab_icmp_ne X 229 d_MO_satisfied_209 rfl (fun _ => ?_) (fun hb => absurd hb ((by decide)))
    refine ab_iload X 2 d_MO_satisfied_229 rfl ?_
    refine ab_bipush (v := 6) X d_MO_satisfied_231 (by decide) ?_
    refine ab_icmp_ne X 253 d_MO_satisfied_233 rfl (fun _ => ?_) (fun hb => absurd hb ((by decide)))
    refine ab_iload X 2 d_MO_satisfied_253 rfl ?_
    refine ab_bipush (v := 7) X d_MO_satisfied_255 (by decide) ?_
    refine ab_icmp_ne X 268 d_MO_satisfied_257 rfl (fun _ => ?_) (fun hb => absurd hb ((by decide)))
    refine ab_iload X 2 d_MO_satisfied_268 rfl ?_
    refine ab_bipush (v := 8) X d_MO_satisfied_270 (by decide) ?_
    refine ab_icmp_ne X 295 d_MO_satisfied_272 rfl (fun _ => ?_) (fun hb => absurd hb ((by decide)))
    refine ab_aload_n X 3 d_MO_satisfied_295 rfl rfl ?_
    refine ab_iload_n X 4 d_MO_satisfied_296 rfl rfl ?_
    refine ab_iload X 2 d_MO_satisfied_297 rfl ?_
    refine ab_iload X 1 d_MO_satisfied_299 rfl ?_
    refine ab_iload X 0 d_MO_satisfied_301 rfl ?_
    refine ab_callV (as := [ab_I (nI p1), ab_I (nI 24), ab_I _, ab_I _]) X (fun h => by cases h) (s_MO_satisfiedMore24 u43 P kd ar cn lf ch W (T.fr P43 (by decide) (by decide) (by decide) (by decide) (by decide)) p1 hp _ _ (by rw [P43.ai (by decide) rfl]; exact sB) r43 q (by omega) b0 P43.1 (by omega)) lk_MO_291 d_MO_satisfied_303 rfl rfl (by first | assumption | decide | (show _ < 124; omega) | (show _ < 61; omega) | (show _ < 20; omega)) ⟨by first | exact Nat.le_of_ble_eq_true rfl | (simp only [ab_rm]; omega), by first | exact Nat.le_of_ble_eq_true rfl | (simp only [ab_rm]; omega)⟩ ⟨by first | exact Nat.le_of_ble_eq_true rfl | (simp only [ab_rm]; omega), by first | exact Nat.le_of_ble_eq_true rfl | (simp only [ab_rm]; omega)⟩ (Nat.le_of_ble_eq_true rfl) (fun u303 r303 h303 => ?_)
    obtain ⟨⟨q303, b303⟩, rfl⟩ := h303
    have P303 := P43.trans q303 (by decide)
    refine ab_lv (List.forall_mem_cons.mpr ⟨List.mem_of_getElem? (i := 3) rfl, List.forall_mem_cons.mpr ⟨List.mem_of_getElem? (i := 4) rfl, List.forall_mem_cons.mpr ⟨List.mem_of_getElem? (i := 5) rfl, fun _ h => absurd h List.not_mem_nil⟩⟩⟩) ?_
    exact fin _ P303 b303
  · obtain ⟨x, y, ex, ey, x1, x2, y1, y2, l0, l1, l2, -, -⟩ := W.two T hp hk
    have sx := S x (by omega) x2
    have sy := S y (by omega) y2
    obtain ⟨mx, hmx, emx⟩ := sx.1
    obtain ⟨my, hmy, emy⟩ := sy.1
    have hw : w = 2 ∨ w = 3 ∨ w = 4 ∨ w = 5 ∨ w = 6 ∨ w = 13 ∨ w = 14 ∨ w = 15 ∨ w = 16 ∨ w = 17 ∨ w = 21 ∨ w = 22 ∨ w = 23 := by omega
    rcases hw with rfl | rfl | rfl | rfl | rfl | rfl | rfl | rfl | rfl | rfl | rfl | rfl | rfl
    ·
      refine ab_aload_n X 0 d_MO_satisfied_0 rfl rfl ?_
      refine ab_iconst (v := (-1)) X d_MO_satisfied_1 (by decide) ?_
      refine ab_putI X fp_MO_99 d_MO_satisfied_2 (by first | assumption | decide | (show _ < 124; omega) | (show _ < 61; omega) | (show _ < 20; omega)) rfl rfl ?_
      refine ab_gen (fun u2 e2 => ?_)
      have P2 : gP [26, 27, 29, 30, 115, 116] u u2 := by rw [e2]; exact R0.ui rfl (by decide)
      refine ab_aload_n X 0 d_MO_satisfied_5 rfl rfl ?_
      refine ab_ldcw X (v := 100000) (ab_in 1248 (by decide +kernel) (by decide +kernel)) d_MO_satisfied_6 ?_
      refine ab_putI X fp_MO_102 d_MO_satisfied_9 (by first | assumption | decide | (show _ < 124; omega) | (show _ < 61; omega) | (show _ < 20; omega)) rfl rfl ?_
      refine ab_gen (fun u9 e9 => ?_)
      have P9 : gP [26, 27, 29, 30, 115, 116] u u9 := by rw [e9]; exact P2.ui rfl (by decide)
      refine ab_aload_n X 0 d_MO_satisfied_12 rfl rfl ?_
      refine ab_gR X fl_MO_45 d_MO_satisfied_13 (by first | assumption | decide | (show _ < 124; omega) | (show _ < 61; omega) | (show _ < 20; omega)) (P9.1.mo11) ?_
      refine ab_iload_n X 2 d_MO_satisfied_16 rfl rfl ?_
      refine ab_iald X (3 * p1 + j) ⟨rfl, rfl⟩ d_MO_satisfied_17 (by first | assumption | decide | (show _ < 124; omega) | (show _ < 61; omega) | (show _ < 20; omega)) (rfl) (show 3 * p1 + j < 72 by omega) (ab_ln_lt _ _) ?_
      refine ab_top (P9.ai (by decide) ew) ?_
      refine ab_istore4 X 0 1 2 3 d_MO_satisfied_18 (by decide) rfl rfl rfl rfl rfl rfl rfl rfl ?_
      refine ab_aload_n X 1 d_MO_satisfied_20 rfl rfl ?_
      refine ab_gR X fl_MO_42 d_MO_satisfied_21 (by first | assumption | decide | (show _ < 124; omega) | (show _ < 61; omega) | (show _ < 20; omega)) (P9.1.mo10) ?_
      refine ab_iconst (v := 4) X d_MO_satisfied_24 (by decide) ?_
      refine ab_iload_n X 2 d_MO_satisfied_25 rfl rfl ?_
      refine ab_imul X d_MO_satisfied_26 ?_
      refine ab_iald X (4 * p1) ⟨rfl, rfl⟩ d_MO_satisfied_27 (by first | assumption | decide | (show _ < 124; omega) | (show _ < 61; omega) | (show _ < 20; omega)) (nI_4m p1) (show 4 * p1 < 160 by omega) (ab_ln_lt _ _) ?_
      refine ab_top (P9.ai (by decide) ex) ?_
      refine ab_istore5 X 0 1 2 3 4 d_MO_satisfied_28 (by decide) rfl rfl rfl rfl rfl rfl rfl rfl rfl rfl ?_
      refine ab_aload_n X 2 d_MO_satisfied_30 rfl rfl ?_
      refine ab_gR X fl_MO_42 d_MO_satisfied_31 (by first | assumption | decide | (show _ < 124; omega) | (show _ < 61; omega) | (show _ < 20; omega)) (P9.1.mo10) ?_
      refine ab_iconst (v := 4) X d_MO_satisfied_34 (by decide) ?_
      refine ab_iload_n X 3 d_MO_satisfied_35 rfl rfl ?_
      refine ab_imul X d_MO_satisfied_36 ?_
      refine ab_iconst (v := 1) X d_MO_satisfied_37 (by decide) ?_
      refine ab_iadd X d_MO_satisfied_38 ?_
      refine ab_iald X (4 * p1 + 1) ⟨rfl, rfl⟩ d_MO_satisfied_39 (by first | assumption | decide | (show _ < 124; omega) | (show _ < 61; omega) | (show _ < 20; omega)) (nI_4b p1) (show 4 * p1 + 1 < 160 by omega) (ab_ln_lt _ _) ?_
      refine ab_top (P9.ai (by decide) ey) ?_
      refine ab_istore6 X 0 1 2 3 4 5 d_MO_satisfied_40 (by decide) rfl rfl rfl rfl rfl rfl rfl rfl rfl rfl rfl rfl ?_
      refine ab_aload_n X 3 d_MO_satisfied_42 rfl rfl ?_
      refine ab_callV (as := []) X (fun h => by cases h) (s_MO_newRow u9 P9.1) lk_MO_267 d_MO_satisfied_43 rfl rfl (by first | assumption | decide | (show _ < 124; omega) | (show _ < 61; omega) | (show _ < 20; omega)) ⟨by first | exact Nat.le_of_ble_eq_true rfl | (simp only [ab_rm]; omega), by first | exact Nat.le_of_ble_eq_true rfl | (simp only [ab_rm]; omega)⟩ ⟨by first | exact Nat.le_of_ble_eq_true rfl | (simp only [ab_rm]; omega), by first | exact Nat.le_of_ble_eq_true rfl | (simp only [ab_rm]; omega)⟩ (Nat.le_of_ble_eq_true rfl) (fun u43 r43 h43 => ?_)
      obtain ⟨⟨q43, r43⟩, rfl⟩ := h43
      have P43 := P9.trans q43 (by decide)
      have b0 : bl q (u43.1 17 0 29) := Or.inl (by rw [q43.fi (by decide) rfl, e9, e2]; simp [ab_up])
      refine ab_iload X 2 d_MO_satisfied_46 rfl ?_
      refine ab_iconst (v := 1) X d_MO_satisfied_48 (by decide) ?_
      refine ab_icmp_eq X 66 d_MO_satisfied_49 rfl (fun hb => absurd hb ((by decide))) (fun _ => ?_)
      refine ab_iload X 2 d_MO_satisfied_52 rfl ?_
      refine ab_bipush (v := 11) X d_MO_satisfied_54 (by decide) ?_
      refine ab_icmp_eq X 66 d_MO_satisfied_56 rfl (fun hb => absurd hb ((by decide))) (fun _ => ?_)
      refine ab_iload X 2 d_MO_satisfied_59 rfl ?_
      refine ab_bipush (v := 12) X d_MO_satisfied_61 (by decide) ?_
      refine ab_icmp_ne X 107 d_MO_satisfied_63 rfl (fun _ => ?_) (fun hb => absurd hb ((by decide)))
      refine ab_iload X 2 d_MO_satisfied_107 rfl ?_
      refine ab_iconst (v := 2) X d_MO_satisfied_109 (by decide) ?_
      refine ab_icmp_ne X 130 d_MO_satisfied_110 rfl (fun hb => absurd ((by decide)) hb) (fun _ => ?_)
      refine ab_aload_n X 3 d_MO_satisfied_113 rfl rfl ?_
      refine ab_iload X 1 d_MO_satisfied_114 rfl ?_
      refine ab_callS (as := [ab_I (nI x)]) X (fun h => by cases h) (t_MO_d u43 x) ls_MO_195 d_MO_satisfied_116 rfl rfl ⟨by first | exact Nat.le_of_ble_eq_true rfl | (simp only [ab_rm]; omega), by first | exact Nat.le_of_ble_eq_true rfl | (simp only [ab_rm]; omega)⟩ ⟨by first | exact Nat.le_of_ble_eq_true rfl | (simp only [ab_rm]; omega), by first | exact Nat.le_of_ble_eq_true rfl | (simp only [ab_rm]; omega)⟩ (Nat.le_of_ble_eq_true rfl) (fun u116 r116 h116 => ?_)
      obtain ⟨e116, rfl⟩ := h116
      subst u116
      refine ab_iload X 0 d_MO_satisfied_119 rfl ?_
      refine ab_callS (as := [ab_I (nI y)]) X (fun h => by cases h) (t_MO_d u43 y) ls_MO_195 d_MO_satisfied_121 rfl rfl ⟨by first | exact Nat.le_of_ble_eq_true rfl | (simp only [ab_rm]; omega), by first | exact Nat.le_of_ble_eq_true rfl | (simp only [ab_rm]; omega)⟩ ⟨by first | exact Nat.le_of_ble_eq_true rfl | (simp only [ab_rm]; omega), by first | exact Nat.le_of_ble_eq_true rfl | (simp only [ab_rm]; omega)⟩ (Nat.le_of_ble_eq_true rfl) (fun u121 r121 h121 => ?_)
      obtain ⟨e121, rfl⟩ := h121
      subst u121
      refine ab_callV (as := [ab_I (nI (3 * x + 1)), ab_I (nI (3 * y + 1))]) X (fun h => by cases h) (s_MO_offerBoth u43 (3 * x + 1) (3 * y + 1) (4 * lf x - 2) (4 * lf y - 2) q (by omega) b0 P43.1 (by omega) (by omega) (by rw [P43.ai (by decide) rfl]; exact sx.2.2.1) (by rw [P43.ai (by decide) rfl]; exact sy.2.2.1) (by omega) (by omega) (by omega)) lk_MO_279 d_MO_satisfied_124 rfl rfl (by first | assumption | decide | (show _ < 124; omega) | (show _ < 61; omega) | (show _ < 20; omega)) ⟨by first | exact Nat.le_of_ble_eq_true rfl | (simp only [ab_rm]; omega), by first | exact Nat.le_of_ble_eq_true rfl | (simp only [ab_rm]; omega)⟩ ⟨by first | exact Nat.le_of_ble_eq_true rfl | (simp only [ab_rm]; omega), by first | exact Nat.le_of_ble_eq_true rfl | (simp only [ab_rm]; omega)⟩ (Nat.le_of_ble_eq_true rfl) (fun u124 r124 h124 => ?_)
      obtain ⟨⟨q124, b124⟩, rfl⟩ := h124
      have P124 := P43.trans q124 (by decide)
      refine ab_goto X 306 d_MO_satisfied_127 rfl ?_
      refine ab_lv (List.forall_mem_cons.mpr ⟨List.mem_of_getElem? (i := 3) rfl, List.forall_mem_cons.mpr ⟨List.mem_of_getElem? (i := 4) rfl, List.forall_mem_cons.mpr ⟨List.mem_of_getElem? (i := 5) rfl, fun _ h => absurd h List.not_mem_nil⟩⟩⟩) ?_
      exact fin _ P124 b124
    ·
      refine ab_aload_n X 0 d_MO_satisfied_0 rfl rfl ?_
      refine ab_iconst (v := (-1)) X d_MO_satisfied_1 (by decide) ?_
      refine ab_putI X fp_MO_99 d_MO_satisfied_2 (by first | assumption | decide | (show _ < 124; omega) | (show _ < 61; omega) | (show _ < 20; omega)) rfl rfl ?_
      refine ab_gen (fun u2 e2 => ?_)
      have P2 : gP [26, 27, 29, 30, 115, 116] u u2 := by rw [e2]; exact R0.ui rfl (by decide)
      refine ab_aload_n X 0 d_MO_satisfied_5 rfl rfl ?_
      refine ab_ldcw X (v := 100000) (ab_in 1248 (by decide +kernel) (by decide +kernel)) d_MO_satisfied_6 ?_
      refine ab_putI X fp_MO_102 d_MO_satisfied_9 (by first | assumption | decide | (show _ < 124; omega) | (show _ < 61; omega) | (show _ < 20; omega)) rfl rfl ?_
      refine ab_gen (fun u9 e9 => ?_)
      have P9 : gP [26, 27, 29, 30, 115, 116] u u9 := by rw [e9]; exact P2.ui rfl (by decide)
      refine ab_aload_n X 0 d_MO_satisfied_12 rfl rfl ?_
      refine ab_gR X fl_MO_45 d_MO_satisfied_13 (by first | assumption | decide | (show _ < 124; omega) | (show _ < 61; omega) | (show _ < 20; omega)) (P9.1.mo11) ?_
      refine ab_iload_n X 2 d_MO_satisfied_16 rfl rfl ?_
      refine ab_iald X (3 * p1 + j) ⟨rfl, rfl⟩ d_MO_satisfied_17 (by first | assumption | decide | (show _ < 124; omega) | (show _ < 61; omega) | (show _ < 20; omega)) (rfl) (show 3 * p1 + j < 72 by omega) (ab_ln_lt _ _) ?_
      refine ab_top (P9.ai (by decide) ew) ?_
      refine ab_istore4 X 0 1 2 3 d_MO_satisfied_18 (by decide) rfl rfl rfl rfl rfl rfl rfl rfl ?_
      refine ab_aload_n X 1 d_MO_satisfied_20 rfl rfl ?_
      refine ab_gR X fl_MO_42 d_MO_satisfied_21 (by first | assumption | decide | (show _ < 124; omega) | (show _ < 61; omega) | (show _ < 20; omega)) (P9.1.mo10) ?_
      refine ab_iconst (v := 4) X d_MO_satisfied_24 (by decide) ?_
      refine ab_iload_n X 2 d_MO_satisfied_25 rfl rfl ?_
      refine ab_imul X d_MO_satisfied_26 ?_
      refine ab_iald X (4 * p1) ⟨rfl, rfl⟩ d_MO_satisfied_27 (by first | assumption | decide | (show _ < 124; omega) | (show _ < 61; omega) | (show _ < 20; omega)) (nI_4m p1) (show 4 * p1 < 160 by omega) (ab_ln_lt _ _) ?_
      refine ab_top (P9.ai (by decide) ex) ?_
      refine ab_istore5 X 0 1 2 3 4 d_MO_satisfied_28 (by decide) rfl rfl rfl rfl rfl rfl rfl rfl rfl rfl ?_
      refine ab_aload_n X 2 d_MO_satisfied_30 rfl rfl ?_
      refine ab_gR X fl_MO_42 d_MO_satisfied_31 (by first | assumption | decide | (show _ < 124; omega) | (show _ < 61; omega) | (show _ < 20; omega)) (P9.1.mo10) ?_
      refine ab_iconst (v := 4) X d_MO_satisfied_34 (by decide) ?_
      refine ab_iload_n X 3 d_MO_satisfied_35 rfl rfl ?_
      refine ab_imul X d_MO_satisfied_36 ?_
      refine ab_iconst (v := 1) X d_MO_satisfied_37 (by decide) ?_
      refine ab_iadd X d_MO_satisfied_38 ?_
      refine ab_iald X (4 * p1 + 1) ⟨rfl, rfl⟩ d_MO_satisfied_39 (by first | assumption | decide | (show _ < 124; omega) | (show _ < 61; omega) | (show _ < 20; omega)) (nI_4b p1) (show 4 * p1 + 1 < 160 by omega) (ab_ln_lt _ _) ?_
      refine ab_top (P9.ai (by decide) ey) ?_
      refine ab_istore6 X 0 1 2 3 4 5 d_MO_satisfied_40 (by decide) rfl rfl rfl rfl rfl rfl rfl rfl rfl rfl rfl rfl ?_
      refine ab_aload_n X 3 d_MO_satisfied_42 rfl rfl ?_
      refine ab_callV (as := []) X (fun h => by cases h) (s_MO_newRow u9 P9.1) lk_MO_267 d_MO_satisfied_43 rfl rfl (by first | assumption | decide | (show _ < 124; omega) | (show _ < 61; omega) | (show _ < 20; omega)) ⟨by first | exact Nat.le_of_ble_eq_true rfl | (simp only [ab_rm]; omega), by first | exact Nat.le_of_ble_eq_true rfl | (simp only [ab_rm]; omega)⟩ ⟨by first | exact Nat.le_of_ble_eq_true rfl | (simp only [ab_rm]; omega), by first | exact Nat.le_of_ble_eq_true rfl | (simp only [ab_rm]; omega)⟩ (Nat.le_of_ble_eq_true rfl) (fun u43 r43 h43 => ?_)
      obtain ⟨⟨q43, r43⟩, rfl⟩ := h43
      have P43 := P9.trans q43 (by decide)
      have b0 : bl q (u43.1 17 0 29) := Or.inl (by rw [q43.fi (by decide) rfl, e9, e2]; simp [ab_up])
      refine ab_iload X 2 d_MO_satisfied_46 rfl ?_
      refine ab_iconst (v := 1) X d_MO_satisfied_48 (by decide) ?_
      refine ab_icmp_eq X 66 d_MO_satisfied_49 rfl (fun hb => absurd hb ((by decide))) (fun _ => ?_)
      refine ab_iload X 2 d_MO_satisfied_52 rfl ?_
      refine ab_bipush (v := 11) X d_MO_satisfied_54 (by decide) ?_
      refine ab_icmp_eq X 66 d_MO_satisfied_56 rfl (fun hb => absurd hb ((by decide))) (fun _ => ?_)
      refine ab_iload X 2 d_MO_satisfied_59 rfl ?_
      refine ab_bipush (v := 12) X d_MO_satisfied_61 (by decide) ?_
      refine ab_icmp_ne X 107 d_MO_satisfied_63 rfl (fun _ => ?_) (fun hb => absurd hb ((by decide)))
      refine ab_iload X 2 d_MO_satisfied_107 rfl ?_
      refine ab_iconst (v := 2) X d_MO_satisfied_109 (by decide) ?_
      refine ab_icmp_ne X 130 d_MO_satisfied_110 rfl (fun _ => ?_) (fun hb => absurd hb ((by decide)))
      refine ab_iload X 2 d_MO_satisfied_130 rfl ?_
      refine ab_iconst (v := 3) X d_MO_satisfied_132 (by decide) ?_
      refine ab_icmp_ne X 181 d_MO_satisfied_133 rfl (fun hb => absurd ((by decide)) hb) (fun _ => ?_)
      refine ab_aload_n X 3 d_MO_satisfied_136 rfl rfl ?_
      refine ab_iload X 1 d_MO_satisfied_137 rfl ?_
      refine ab_callS (as := [ab_I (nI x)]) X (fun h => by cases h) (t_MO_d u43 x) ls_MO_195 d_MO_satisfied_139 rfl rfl ⟨by first | exact Nat.le_of_ble_eq_true rfl | (simp only [ab_rm]; omega), by first | exact Nat.le_of_ble_eq_true rfl | (simp only [ab_rm]; omega)⟩ ⟨by first | exact Nat.le_of_ble_eq_true rfl | (simp only [ab_rm]; omega), by first | exact Nat.le_of_ble_eq_true rfl | (simp only [ab_rm]; omega)⟩ (Nat.le_of_ble_eq_true rfl) (fun u139 r139 h139 => ?_)
      obtain ⟨e139, rfl⟩ := h139
      subst u139
      refine ab_callV (as := [ab_I (nI (3 * x + 1))]) X (fun h => by cases h) (s_MO_yes u43 (3 * x + 1) (4 * lf x - 2) 0 P43.1 (by omega) (by rw [P43.ai (by decide) rfl]; exact sx.2.2.1) (by omega) r43 (by omega)) lk_MO_270 d_MO_satisfied_142 rfl rfl (by first | assumption | decide | (show _ < 124; omega) | (show _ < 61; omega) | (show _ < 20; omega)) ⟨by first | exact Nat.le_of_ble_eq_true rfl | (simp only [ab_rm]; omega), by first | exact Nat.le_of_ble_eq_true rfl | (simp only [ab_rm]; omega)⟩ ⟨by first | exact Nat.le_of_ble_eq_true rfl | (simp only [ab_rm]; omega), by first | exact Nat.le_of_ble_eq_true rfl | (simp only [ab_rm]; omega)⟩ (Nat.le_of_ble_eq_true rfl) (fun u142 r142 h142 => ?_)
      obtain ⟨⟨q142, r142, hr142, er142⟩, rfl⟩ := h142
      have P142 := P43.trans q142 (by decide)
      refine ab_aload_n X 3 d_MO_satisfied_145 rfl rfl ?_
      refine ab_iload X 0 d_MO_satisfied_146 rfl ?_
      refine ab_callV (as := [ab_I (nI y)]) X (fun h => by cases h) (s_MO_no u142 y my r142 P142.1 (by omega) (P142.ai (by decide) emy) (by omega) er142 (by omega)) lk_MO_276 d_MO_satisfied_148 rfl rfl (by first | assumption | decide | (show _ < 124; omega) | (show _ < 61; omega) | (show _ < 20; omega)) ⟨by first | exact Nat.le_of_ble_eq_true rfl | (simp only [ab_rm]; omega), by first | exact Nat.le_of_ble_eq_true rfl | (simp only [ab_rm]; omega)⟩ ⟨by first | exact Nat.le_of_ble_eq_true rfl | (simp only [ab_rm]; omega), by first | exact Nat.le_of_ble_eq_true rfl | (simp only [ab_rm]; omega)⟩ (Nat.le_of_ble_eq_true rfl) (fun u148 r148 h148 => ?_)
      obtain ⟨⟨q148, r148⟩, rfl⟩ := h148
      have P148 := P142.trans q148 (by decide)
      refine ab_aload_n X 3 d_MO_satisfied_151 rfl rfl ?_
      refine ab_callV (as := []) X (fun h => by cases h) (s_MO_offer u148 q (r142 + my) P148.1 r148 (by omega) (by omega) (by rw [q148.fi (by decide) rfl, q142.fi (by decide) rfl]; exact b0)) lk_MO_273 d_MO_satisfied_152 rfl rfl (by first | assumption | decide | (show _ < 124; omega) | (show _ < 61; omega) | (show _ < 20; omega)) ⟨by first | exact Nat.le_of_ble_eq_true rfl | (simp only [ab_rm]; omega), by first | exact Nat.le_of_ble_eq_true rfl | (simp only [ab_rm]; omega)⟩ ⟨by first | exact Nat.le_of_ble_eq_true rfl | (simp only [ab_rm]; omega), by first | exact Nat.le_of_ble_eq_true rfl | (simp only [ab_rm]; omega)⟩ (Nat.le_of_ble_eq_true rfl) (fun u152 r152 h152 => ?_)
      obtain ⟨⟨q152, b152⟩, rfl⟩ := h152
      have P152 := P148.trans q152 (by decide)
      refine ab_aload_n X 3 d_MO_satisfied_155 rfl rfl ?_
      refine ab_callV (as := []) X (fun h => by cases h) (s_MO_newRow u152 P152.1) lk_MO_267 d_MO_satisfied_156 rfl rfl (by first | assumption | decide | (show _ < 124; omega) | (show _ < 61; omega) | (show _ < 20; omega)) ⟨by first | exact Nat.le_of_ble_eq_true rfl | (simp only [ab_rm]; omega), by first | exact Nat.le_of_ble_eq_true rfl | (simp only [ab_rm]; omega)⟩ ⟨by first | exact Nat.le_of_ble_eq_true rfl | (simp only [ab_rm]; omega), by first | exact Nat.le_of_ble_eq_true rfl | (simp only [ab_rm]; omega)⟩ (Nat.le_of_ble_eq_true rfl) (fun u156 r156 h156 => ?_)
      obtain ⟨⟨q156, r156⟩, rfl⟩ := h156
      have P156 := P152.trans q156 (by decide)
      refine ab_aload_n X 3 d_MO_satisfied_159 rfl rfl ?_
      refine ab_iload X 1 d_MO_satisfied_160 rfl ?_
      refine ab_callV (as := [ab_I (nI x)]) X (fun h => by cases h) (s_MO_no u156 x mx 0 P156.1 (by omega) (P156.ai (by decide) emx) (by omega) r156 (by omega)) lk_MO_276 d_MO_satisfied_162 rfl rfl (by first | assumption | decide | (show _ < 124; omega) | (show _ < 61; omega) | (show _ < 20; omega)) ⟨by first | exact Nat.le_of_ble_eq_true rfl | (simp only [ab_rm]; omega), by first | exact Nat.le_of_ble_eq_true rfl | (simp only [ab_rm]; omega)⟩ ⟨by first | exact Nat.le_of_ble_eq_true rfl | (simp only [ab_rm]; omega), by first | exact Nat.le_of_ble_eq_true rfl | (simp only [ab_rm]; omega)⟩ (Nat.le_of_ble_eq_true rfl) (fun u162 r162 h162 => ?_)
      obtain ⟨⟨q162, r162⟩, rfl⟩ := h162
      have P162 := P156.trans q162 (by decide)
      refine ab_aload_n X 3 d_MO_satisfied_165 rfl rfl ?_
      refine ab_iload X 0 d_MO_satisfied_166 rfl ?_
      refine ab_callS (as := [ab_I (nI y)]) X (fun h => by cases h) (t_MO_d u162 y) ls_MO_195 d_MO_satisfied_168 rfl rfl ⟨by first | exact Nat.le_of_ble_eq_true rfl | (simp only [ab_rm]; omega), by first | exact Nat.le_of_ble_eq_true rfl | (simp only [ab_rm]; omega)⟩ ⟨by first | exact Nat.le_of_ble_eq_true rfl | (simp only [ab_rm]; omega), by first | exact Nat.le_of_ble_eq_true rfl | (simp only [ab_rm]; omega)⟩ (Nat.le_of_ble_eq_true rfl) (fun u168 r168 h168 => ?_)
      obtain ⟨e168, rfl⟩ := h168
      subst u168
      refine ab_callV (as := [ab_I (nI (3 * y + 1))]) X (fun h => by cases h) (s_MO_yes u162 (3 * y + 1) (4 * lf y - 2) (0 + mx) P162.1 (by omega) (by rw [P162.ai (by decide) rfl]; exact sy.2.2.1) (by omega) r162 (by omega)) lk_MO_270 d_MO_satisfied_171 rfl rfl (by first | assumption | decide | (show _ < 124; omega) | (show _ < 61; omega) | (show _ < 20; omega)) ⟨by first | exact Nat.le_of_ble_eq_true rfl | (simp only [ab_rm]; omega), by first | exact Nat.le_of_ble_eq_true rfl | (simp only [ab_rm]; omega)⟩ ⟨by first | exact Nat.le_of_ble_eq_true rfl | (simp only [ab_rm]; omega), by first | exact Nat.le_of_ble_eq_true rfl | (simp only [ab_rm]; omega)⟩ (Nat.le_of_ble_eq_true rfl) (fun u171 r171 h171 => ?_)
      obtain ⟨⟨q171, r171, hr171, er171⟩, rfl⟩ := h171
      have P171 := P162.trans q171 (by decide)
      refine ab_aload_n X 3 d_MO_satisfied_174 rfl rfl ?_
      refine ab_callV (as := []) X (fun h => by cases h) (s_MO_offer u171 q r171 P171.1 er171 (by omega) (by omega) (by rw [q171.fi (by decide) rfl, q162.fi (by decide) rfl, q156.fi (by decide) rfl]; exact b152)) lk_MO_273 d_MO_satisfied_175 rfl rfl (by first | assumption | decide | (show _ < 124; omega) | (show _ < 61; omega) | (show _ < 20; omega)) ⟨by first | exact Nat.le_of_ble_eq_true rfl | (simp only [ab_rm]; omega), by first | exact Nat.le_of_ble_eq_true rfl | (simp only [ab_rm]; omega)⟩ ⟨by first | exact Nat.le_of_ble_eq_true rfl | (simp only [ab_rm]; omega), by first | exact Nat.le_of_ble_eq_true rfl | (simp only [ab_rm]; omega)⟩ (Nat.le_of_ble_eq_true rfl) (fun u175 r175 h175 => ?_)
      obtain ⟨⟨q175, b175⟩, rfl⟩ := h175
      have P175 := P171.trans q175 (by decide)
      refine ab_goto X 306 d_MO_satisfied_178 rfl ?_
      refine ab_lv (List.forall_mem_cons.mpr ⟨List.mem_of_getElem? (i := 3) rfl, List.forall_mem_cons.mpr ⟨List.mem_of_getElem? (i := 4) rfl, List.forall_mem_cons.mpr ⟨List.mem_of_getElem? (i := 5) rfl, fun _ h => absurd h List.not_mem_nil⟩⟩⟩) ?_
      exact fin _ P175 b175
    ·
      refine ab_aload_n X 0 d_MO_satisfied_0 rfl rfl ?_
      refine ab_iconst (v := (-1)) X d_MO_satisfied_1 (by decide) ?_
      refine ab_putI X fp_MO_99 d_MO_satisfied_2 (by first | assumption | decide | (show _ < 124; omega) | (show _ < 61; omega) | (show _ < 20; omega)) rfl rfl ?_
      refine ab_gen (fun u2 e2 => ?_)
      have P2 : gP [26, 27, 29, 30, 115, 116] u u2 := by rw [e2]; exact R0.ui rfl (by decide)
      refine ab_aload_n X 0 d_MO_satisfied_5 rfl rfl ?_
      refine ab_ldcw X (v := 100000) (ab_in 1248 (by decide +kernel) (by decide +kernel)) d_MO_satisfied_6 ?_
      refine ab_putI X fp_MO_102 d_MO_satisfied_9 (by first | assumption | decide | (show _ < 124; omega) | (show _ < 61; omega) | (show _ < 20; omega)) rfl rfl ?_
      refine ab_gen (fun u9 e9 => ?_)
      have P9 : gP [26, 27, 29, 30, 115, 116] u u9 := by rw [e9]; exact P2.ui rfl (by decide)
      refine ab_aload_n X 0 d_MO_satisfied_12 rfl rfl ?_
      refine ab_gR X fl_MO_45 d_MO_satisfied_13 (by first | assumption | decide | (show _ < 124; omega) | (show _ < 61; omega) | (show _ < 20; omega)) (P9.1.mo11) ?_
      refine ab_iload_n X 2 d_MO_satisfied_16 rfl rfl ?_
      refine ab_iald X (3 * p1 + j) ⟨rfl, rfl⟩ d_MO_satisfied_17 (by first | assumption | decide | (show _ < 124; omega) | (show _ < 61; omega) | (show _ < 20; omega)) (rfl) (show 3 * p1 + j < 72 by omega) (ab_ln_lt _ _) ?_
      refine ab_top (P9.ai (by decide) ew) ?_
      refine ab_istore4 X 0 1 2 3 d_MO_satisfied_18 (by decide) rfl rfl rfl rfl rfl rfl rfl rfl ?_
      refine ab_aload_n X 1 d_MO_satisfied_20 rfl rfl ?_
      refine ab_gR X fl_MO_42 d_MO_satisfied_21 (by first | assumption | decide | (show _ < 124; omega) | (show _ < 61; omega) | (show _ < 20; omega)) (P9.1.mo10) ?_
      refine ab_iconst (v := 4) X d_MO_satisfied_24 (by decide) ?_
      refine ab_iload_n X 2 d_MO_satisfied_25 rfl rfl ?_
      refine ab_imul X d_MO_satisfied_26 ?_
      refine ab_iald X (4 * p1) ⟨rfl, rfl⟩ d_MO_satisfied_27 (by first | assumption | decide | (show _ < 124; omega) | (show _ < 61; omega) | (show _ < 20; omega)) (nI_4m p1) (show 4 * p1 < 160 by omega) (ab_ln_lt _ _) ?_
      refine ab_top (P9.ai (by decide) ex) ?_
      refine ab_istore5 X 0 1 2 3 4 d_MO_satisfied_28 (by decide) rfl rfl rfl rfl rfl rfl rfl rfl rfl rfl ?_
      refine ab_aload_n X 2 d_MO_satisfied_30 rfl rfl ?_
      refine ab_gR X fl_MO_42 d_MO_satisfied_31 (by first | assumption | decide | (show _ < 124; omega) | (show _ < 61; omega) | (show _ < 20; omega)) (P9.1.mo10) ?_
      refine ab_iconst (v := 4) X d_MO_satisfied_34 (by decide) ?_
      refine ab_iload_n X 3 d_MO_satisfied_35 rfl rfl ?_
      refine ab_imul X d_MO_satisfied_36 ?_
      refine ab_iconst (v := 1) X d_MO_satisfied_37 (by decide) ?_
      refine ab_iadd X d_MO_satisfied_38 ?_
      refine ab_iald X (4 * p1 + 1) ⟨rfl, rfl⟩ d_MO_satisfied_39 (by first | assumption | decide | (show _ < 124; omega) | (show _ < 61; omega) | (show _ < 20; omega)) (nI_4b p1) (show 4 * p1 + 1 < 160 by omega) (ab_ln_lt _ _) ?_
      refine ab_top (P9.ai (by decide) ey) ?_
      refine ab_istore6 X 0 1 2 3 4 5 d_MO_satisfied_40 (by decide) rfl rfl rfl rfl rfl rfl rfl rfl rfl rfl rfl rfl ?_
      refine ab_aload_n X 3 d_MO_satisfied_42 rfl rfl ?_
      refine ab_callV (as := []) X (fun h => by cases h) (s_MO_newRow u9 P9.1) lk_MO_267 d_MO_satisfied_43 rfl rfl (by first | assumption | decide | (show _ < 124; omega) | (show _ < 61; omega) | (show _ < 20; omega)) ⟨by first | exact Nat.le_of_ble_eq_true rfl | (simp only [ab_rm]; omega), by first | exact Nat.le_of_ble_eq_true rfl | (simp only [ab_rm]; omega)⟩ ⟨by first | exact Nat.le_of_ble_eq_true rfl | (simp only [ab_rm]; omega), by first | exact Nat.le_of_ble_eq_true rfl | (simp only [ab_rm]; omega)⟩ (Nat.le_of_ble_eq_true rfl) (fun u43 r43 h43 => ?_)
      obtain ⟨⟨q43, r43⟩, rfl⟩ := h43
      have P43 := P9.trans q43 (by decide)
      have b0 : bl q (u43.1 17 0 29) := Or.inl (by rw [q43.fi (by decide) rfl, e9, e2]; simp [ab_up])
      refine ab_iload X 2 d_MO_satisfied_46 rfl ?_
      refine ab_iconst (v := 1) X d_MO_satisfied_48 (by decide) ?_
      refine ab_icmp_eq X 66 d_MO_satisfied_49 rfl (fun hb => absurd hb ((by decide))) (fun _ => ?_)
      refine ab_iload X 2 d_MO_satisfied_52 rfl ?_
      refine ab_bipush (v := 11) X d_MO_satisfied_54 (by decide) ?_
      refine ab_icmp_eq X 66 d_MO_satisfied_56 rfl (fun hb => absurd hb ((by decide))) (fun _ => ?_)
      refine ab_iload X 2 d_MO_satisfied_59 rfl ?_
      refine ab_bipush (v := 12) X d_MO_satisfied_61 (by decide) ?_
      refine ab_icmp_ne X 107 d_MO_satisfied_63 rfl (fun _ => ?_) (fun hb => absurd hb ((by decide)))
      refine ab_iload X 2 d_MO_satisfied_107 rfl ?_
      refine ab_iconst (v := 2) X d_MO_satisfied_109 (by decide) ?_
      refine ab_icmp_ne X 130 d_MO_satisfied_110 rfl (fun _ => ?_) (fun hb => absurd hb ((by decide)))
      refine ab_iload X 2 d_MO_satisfied_130 rfl ?_
      refine ab_iconst (v := 3) X d_MO_satisfied_132 (by decide) ?_
      refine ab_icmp_ne X 181 d_MO_satisfied_133 rfl (fun _ => ?_) (fun hb => absurd hb ((by decide)))
      refine ab_iload X 2 d_MO_satisfied_181 rfl ?_
      refine ab_iconst (v := 4) X d_MO_satisfied_183 (by decide) ?_
      refine ab_icmp_ne X 206 d_MO_satisfied_184 rfl (fun hb => absurd ((by decide)) hb) (fun _ => ?_)
      refine ab_aload_n X 3 d_MO_satisfied_187 rfl rfl ?_
      refine ab_iload X 1 d_MO_satisfied_188 rfl ?_
      refine ab_callS (as := [ab_I (nI x)]) X (fun h => by cases h) (t_MO_d u43 x) ls_MO_195 d_MO_satisfied_190 rfl rfl ⟨by first | exact Nat.le_of_ble_eq_true rfl | (simp only [ab_rm]; omega), by first | exact Nat.le_of_ble_eq_true rfl | (simp only [ab_rm]; omega)⟩ ⟨by first | exact Nat.le_of_ble_eq_true rfl | (simp only [ab_rm]; omega), by first | exact Nat.le_of_ble_eq_true rfl | (simp only [ab_rm]; omega)⟩ (Nat.le_of_ble_eq_true rfl) (fun u190 r190 h190 => ?_)
      obtain ⟨e190, rfl⟩ := h190
      subst u190
      refine ab_iload X 1 d_MO_satisfied_193 rfl ?_
      refine ab_iload X 0 d_MO_satisfied_195 rfl ?_
      refine ab_callS (as := [ab_I (nI y)]) X (fun h => by cases h) (t_MO_d u43 y) ls_MO_195 d_MO_satisfied_197 rfl rfl ⟨by first | exact Nat.le_of_ble_eq_true rfl | (simp only [ab_rm]; omega), by first | exact Nat.le_of_ble_eq_true rfl | (simp only [ab_rm]; omega)⟩ ⟨by first | exact Nat.le_of_ble_eq_true rfl | (simp only [ab_rm]; omega), by first | exact Nat.le_of_ble_eq_true rfl | (simp only [ab_rm]; omega)⟩ (Nat.le_of_ble_eq_true rfl) (fun u197 r197 h197 => ?_)
      obtain ⟨e197, rfl⟩ := h197
      subst u197
      refine ab_callV (as := [ab_I (nI (3 * x + 1)), ab_I (nI x), ab_I (nI (3 * y + 1))]) X (fun h => by cases h) (s_MO_offerEither u43 (3 * x + 1) x (3 * y + 1) (4 * lf x - 2) mx (4 * lf y - 2) q (by omega) b0 P43.1 (by omega) (by omega) (by omega) (by rw [P43.ai (by decide) rfl]; exact sx.2.2.1) (P43.ai (by decide) emx) (by rw [P43.ai (by decide) rfl]; exact sy.2.2.1) (by omega) (by omega) (by omega) (by omega) (by omega)) lk_MO_282 d_MO_satisfied_200 rfl rfl (by first | assumption | decide | (show _ < 124; omega) | (show _ < 61; omega) | (show _ < 20; omega)) ⟨by first | exact Nat.le_of_ble_eq_true rfl | (simp only [ab_rm]; omega), by first | exact Nat.le_of_ble_eq_true rfl | (simp only [ab_rm]; omega)⟩ ⟨by first | exact Nat.le_of_ble_eq_true rfl | (simp only [ab_rm]; omega), by first | exact Nat.le_of_ble_eq_true rfl | (simp only [ab_rm]; omega)⟩ (Nat.le_of_ble_eq_true rfl) (fun u200 r200 h200 => ?_)
      obtain ⟨⟨q200, b200⟩, rfl⟩ := h200
      have P200 := P43.trans q200 (by decide)
      refine ab_goto X 306 d_MO_satisfied_203 rfl ?_
      refine ab_lv (List.forall_mem_cons.mpr ⟨List.mem_of_getElem? (i := 3) rfl, List.forall_mem_cons.mpr ⟨List.mem_of_getElem? (i := 4) rfl, List.forall_mem_cons.mpr ⟨List.mem_of_getElem? (i := 5) rfl, fun _ h => absurd h List.not_mem_nil⟩⟩⟩) ?_
      exact fin _ P200 b200
    ·
      refine ab_aload_n X 0 d_MO_satisfied_0 rfl rfl ?_
      refine ab_iconst (v := (-1)) X d_MO_satisfied_1 (by decide) ?_
      refine ab_putI X fp_MO_99 d_MO_satisfied_2 (by first | assumption | decide | (show _ < 124; omega) | (show _ < 61; omega) | (show _ < 20; omega)) rfl rfl ?_
      refine ab_gen (fun u2 e2 => ?_)
      have P2 : gP [26, 27, 29, 30, 115, 116] u u2 := by rw [e2]; exact R0.ui rfl (by decide)
      refine ab_aload_n X 0 d_MO_satisfied_5 rfl rfl ?_
      refine ab_ldcw X (v := 100000) (ab_in 1248 (by decide +kernel) (by decide +kernel)) d_MO_satisfied_6 ?_
      refine ab_putI X fp_MO_102 d_MO_satisfied_9 (by first | assumption | decide | (show _ < 124; omega) | (show _ < 61; omega) | (show _ < 20; omega)) rfl rfl ?_
      refine ab_gen (fun u9 e9 => ?_)
      have P9 : gP [26, 27, 29, 30, 115, 116] u u9 := by rw [e9]; exact P2.ui rfl (by decide)
      refine ab_aload_n X 0 d_MO_satisfied_12 rfl rfl ?_
      refine ab_gR X fl_MO_45 d_MO_satisfied_13 (by first | assumption | decide | (show _ < 124; omega) | (show _ < 61; omega) | (show _ < 20; omega)) (P9.1.mo11) ?_
      refine ab_iload_n X 2 d_MO_satisfied_16 rfl rfl ?_
      refine ab_iald X (3 * p1 + j) ⟨rfl, rfl⟩ d_MO_satisfied_17 (by first | assumption | decide | (show _ < 124; omega) | (show _ < 61; omega) | (show _ < 20; omega)) (rfl) (show 3 * p1 + j < 72 by omega) (ab_ln_lt _ _) ?_
      refine ab_top (P9.ai (by decide) ew) ?_
      refine ab_istore4 X 0 1 2 3 d_MO_satisfied_18 (by decide) rfl rfl rfl rfl rfl rfl rfl rfl ?_
      refine ab_aload_n X 1 d_MO_satisfied_20 rfl rfl ?_
      refine ab_gR X fl_MO_42 d_MO_satisfied_21 (by first | assumption | decide | (show _ < 124; omega) | (show _ < 61; omega) | (show _ < 20; omega)) (P9.1.mo10) ?_
      refine ab_iconst (v := 4) X d_MO_satisfied_24 (by decide) ?_
      refine ab_iload_n X 2 d_MO_satisfied_25 rfl rfl ?_
      refine ab_imul X d_MO_satisfied_26 ?_
      refine ab_iald X (4 * p1) ⟨rfl, rfl⟩ d_MO_satisfied_27 (by first | assumption | decide | (show _ < 124; omega) | (show _ < 61; omega) | (show _ < 20; omega)) (nI_4m p1) (show 4 * p1 < 160 by omega) (ab_ln_lt _ _) ?_
      refine ab_top (P9.ai (by decide) ex) ?_
      refine ab_istore5 X 0 1 2 3 4 d_MO_satisfied_28 (by decide) rfl rfl rfl rfl rfl rfl rfl rfl rfl rfl ?_
      refine ab_aload_n X 2 d_MO_satisfied_30 rfl rfl ?_
      refine ab_gR X fl_MO_42 d_MO_satisfied_31 (by first | assumption | decide | (show _ < 124; omega) | (show _ < 61; omega) | (show _ < 20; omega)) (P9.1.mo10) ?_
      refine ab_iconst (v := 4) X d_MO_satisfied_34 (by decide) ?_
      refine ab_iload_n X 3 d_MO_satisfied_35 rfl rfl ?_
      refine ab_imul X d_MO_satisfied_36 ?_
      refine ab_iconst (v := 1) X d_MO_satisfied_37 (by decide) ?_
      refine ab_iadd X d_MO_satisfied_38 ?_
      refine ab_iald X (4 * p1 + 1) ⟨rfl, rfl⟩ d_MO_satisfied_39 (by first | assumption | decide | (show _ < 124; omega) | (show _ < 61; omega) | (show _ < 20; omega)) (nI_4b p1) (show 4 * p1 + 1 < 160 by omega) (ab_ln_lt _ _) ?_
      refine ab_top (P9.ai (by decide) ey) ?_
      refine ab_istore6 X 0 1 2 3 4 5 d_MO_satisfied_40 (by decide) rfl rfl rfl rfl rfl rfl rfl rfl rfl rfl rfl rfl ?_
      refine ab_aload_n X 3 d_MO_satisfied_42 rfl rfl ?_
      refine ab_callV (as := []) X (fun h => by cases h) (s_MO_newRow u9 P9.1) lk_MO_267 d_MO_satisfied_43 rfl rfl (by first | assumption | decide | (show _ < 124; omega) | (show _ < 61; omega) | (show _ < 20; omega)) ⟨by first | exact Nat.le_of_ble_eq_true rfl | (simp only [ab_rm]; omega), by first | exact Nat.le_of_ble_eq_true rfl | (simp only [ab_rm]; omega)⟩ ⟨by first | exact Nat.le_of_ble_eq_true rfl | (simp only [ab_rm]; omega), by first | exact Nat.le_of_ble_eq_true rfl | (simp only [ab_rm]; omega)⟩ (Nat.le_of_ble_eq_true rfl) (fun u43 r43 h43 => ?_)
      obtain ⟨⟨q43, r43⟩, rfl⟩ := h43
      have P43 := P9.trans q43 (by decide)
      have b0 : bl q (u43.1 17 0 29) := Or.inl (by rw [q43.fi (by decide) rfl, e9, e2]; simp [ab_up])
      refine ab_iload X 2 d_MO_satisfied_46 rfl ?_
      refine ab_iconst (v := 1) X d_MO_satisfied_48 (by decide) ?_
      refine ab_icmp_eq X 66 d_MO_satisfied_49 rfl (fun hb => absurd hb ((by decide))) (fun _ => ?_)
      refine ab_iload X 2 d_MO_satisfied_52 rfl ?_
      refine ab_bipush (v := 11) X d_MO_satisfied_54 (by decide) ?_
      refine ab_icmp_eq X 66 d_MO_satisfied_56 rfl (fun hb => absurd hb ((by decide))) (fun _ => ?_)
      refine ab_iload X 2 d_MO_satisfied_59 rfl ?_
      refine ab_bipush (v := 12) X d_MO_satisfied_61 (by decide) ?_
      refine ab_icmp_ne X 107 d_MO_satisfied_63 rfl (fun _ => ?_) (fun hb => absurd hb ((by decide)))
      refine ab_iload X 2 d_MO_satisfied_107 rfl ?_
      refine ab_iconst (v := 2) X d_MO_satisfied_109 (by decide) ?_
      refine ab_icmp_ne X 130 d_MO_satisfied_110 rfl (fun _ => ?_) (fun hb => absurd hb ((by decide)))
      refine ab_iload X 2 d_MO_satisfied_130 rfl ?_
      refine ab_iconst (v := 3) X d_MO_satisfied_132 (by decide) ?_
      refine ab_icmp_ne X 181 d_MO_satisfied_133 rfl (fun _ => ?_) (fun hb => absurd hb ((by decide)))
      refine ab_iload X 2 d_MO_satisfied_181 rfl ?_
      refine ab_iconst (v := 4) X d_MO_satisfied_183 (by decide) ?_
      refine ab_icmp_ne X 206 d_MO_satisfied_184 rfl (fun _ => ?_) (fun hb => absurd hb ((by decide)))
      refine ab_iload X 2 d_MO_satisfied_206 rfl ?_
      refine ab_iconst (v := 5) X d_MO_satisfied_208 (by decide) ?_
      refine ab_icmp_ne X 229 d_MO_satisfied_209 rfl (fun hb => absurd ((by decide)) hb) (fun _ => ?_)
      refine ab_aload_n X 3 d_MO_satisfied_212 rfl rfl ?_
      refine ab_iload X 1 d_MO_satisfied_213 rfl ?_
      refine ab_callS (as := [ab_I (nI x)]) X (fun h => by cases h) (t_MO_d u43 x) ls_MO_195 d_MO_satisfied_215 rfl rfl ⟨by first | exact Nat.le_of_ble_eq_true rfl | (simp only [ab_rm]; omega), by first | exact Nat.le_of_ble_eq_true rfl | (simp only [ab_rm]; omega)⟩ ⟨by first | exact Nat.le_of_ble_eq_true rfl | (simp only [ab_rm]; omega), by first | exact Nat.le_of_ble_eq_true rfl | (simp only [ab_rm]; omega)⟩ (Nat.le_of_ble_eq_true rfl) (fun u215 r215 h215 => ?_)
      obtain ⟨e215, rfl⟩ := h215
      subst u215
      refine ab_iload X 0 d_MO_satisfied_218 rfl ?_
      refine ab_callS (as := [ab_I (nI y)]) X (fun h => by cases h) (t_MO_b u43 y) ls_MO_204 d_MO_satisfied_220 rfl rfl ⟨by first | exact Nat.le_of_ble_eq_true rfl | (simp only [ab_rm]; omega), by first | exact Nat.le_of_ble_eq_true rfl | (simp only [ab_rm]; omega)⟩ ⟨by first | exact Nat.le_of_ble_eq_true rfl | (simp only [ab_rm]; omega), by first | exact Nat.le_of_ble_eq_true rfl | (simp only [ab_rm]; omega)⟩ (Nat.le_of_ble_eq_true rfl) (fun u220 r220 h220 => ?_)
      obtain ⟨e220, rfl⟩ := h220
      subst u220
      refine ab_callV (as := [ab_I (nI (3 * x + 1)), ab_I (nI (3 * y))]) X (fun h => by cases h) (s_MO_offerChoice u43 (3 * x + 1) (3 * y) (4 * lf x - 2) (4 * lf y - 3) q (by omega) b0 P43.1 (by omega) (by omega) (by rw [P43.ai (by decide) rfl]; exact sx.2.2.1) (by rw [P43.ai (by decide) rfl]; exact sy.2.1) (by omega) (by omega) (by omega) (by omega)) lk_MO_285 d_MO_satisfied_223 rfl rfl (by first | assumption | decide | (show _ < 124; omega) | (show _ < 61; omega) | (show _ < 20; omega)) ⟨by first | exact Nat.le_of_ble_eq_true rfl | (simp only [ab_rm]; omega), by first | exact Nat.le_of_ble_eq_true rfl | (simp only [ab_rm]; omega)⟩ ⟨by first | exact Nat.le_of_ble_eq_true rfl | (simp only [ab_rm]; omega), by first | exact Nat.le_of_ble_eq_true rfl | (simp only [ab_rm]; omega)⟩ (Nat.le_of_ble_eq_true rfl) (fun u223 r223 h223 => ?_)
      obtain ⟨⟨q223, b223⟩, rfl⟩ := h223
      have P223 := P43.trans q223 (by decide)
      refine ab_goto X 306 d_MO_satisfied_226 rfl ?_
      refine ab_lv (List.forall_mem_cons.mpr ⟨List.mem_of_getElem? (i := 3) rfl, List.forall_mem_cons.mpr ⟨List.mem_of_getElem? (i := 4) rfl, List.forall_mem_cons.mpr ⟨List.mem_of_getElem? (i := 5) rfl, fun _ h => absurd h List.not_mem_nil⟩⟩⟩) ?_
      exact fin _ P223 b223
    ·
      refine ab_aload_n X 0 d_MO_satisfied_0 rfl rfl ?_
      refine ab_iconst (v := (-1)) X d_MO_satisfied_1 (by decide) ?_
      refine ab_putI X fp_MO_99 d_MO_satisfied_2 (by first | assumption | decide | (show _ < 124; omega) | (show _ < 61; omega) | (show _ < 20; omega)) rfl rfl ?_
      refine ab_gen (fun u2 e2 => ?_)
      have P2 : gP [26, 27, 29, 30, 115, 116] u u2 := by rw [e2]; exact R0.ui rfl (by decide)
      refine ab_aload_n X 0 d_MO_satisfied_5 rfl rfl ?_
      refine ab_ldcw X (v := 100000) (ab_in 1248 (by decide +kernel) (by decide +kernel)) d_MO_satisfied_6 ?_
      refine ab_putI X fp_MO_102 d_MO_satisfied_9 (by first | assumption | decide | (show _ < 124; omega) | (show _ < 61; omega) | (show _ < 20; omega)) rfl rfl ?_
      refine ab_gen (fun u9 e9 => ?_)
      have P9 : gP [26, 27, 29, 30, 115, 116] u u9 := by rw [e9]; exact P2.ui rfl (by decide)
      refine ab_aload_n X 0 d_MO_satisfied_12 rfl rfl ?_
      refine ab_gR X fl_MO_45 d_MO_satisfied_13 (by first | assumption | decide | (show _ < 124; omega) | (show _ < 61; omega) | (show _ < 20; omega)) (P9.1.mo11) ?_
      refine ab_iload_n X 2 d_MO_satisfied_16 rfl rfl ?_
      refine ab_iald X (3 * p1 + j) ⟨rfl, rfl⟩ d_MO_satisfied_17 (by first | assumption | decide | (show _ < 124; omega) | (show _ < 61; omega) | (show _ < 20; omega)) (rfl) (show 3 * p1 + j < 72 by omega) (ab_ln_lt _ _) ?_
      refine ab_top (P9.ai (by decide) ew) ?_
      refine ab_istore4 X 0 1 2 3 d_MO_satisfied_18 (by decide) rfl rfl rfl rfl rfl rfl rfl rfl ?_
      refine ab_aload_n X 1 d_MO_satisfied_20 rfl rfl ?_
      refine ab_gR X fl_MO_42 d_MO_satisfied_21 (by first | assumption | decide | (show _ < 124; omega) | (show _ < 61; omega) | (show _ < 20; omega)) (P9.1.mo10) ?_
      refine ab_iconst (v := 4) X d_MO_satisfied_24 (by decide) ?_
      refine ab_iload_n X 2 d_MO_satisfied_25 rfl rfl ?_
      refine ab_imul X d_MO_satisfied_26 ?_
      refine ab_iald X (4 * p1) ⟨rfl, rfl⟩ d_MO_satisfied_27 (by first | assumption | decide | (show _ < 124; omega) | (show _ < 61; omega) | (show _ < 20; omega)) (nI_4m p1) (show 4 * p1 < 160 by omega) (ab_ln_lt _ _) ?_
      refine ab_top (P9.ai (by decide) ex) ?_
      refine ab_istore5 X 0 1 2 3 4 d_MO_satisfied_28 (by decide) rfl rfl rfl rfl rfl rfl rfl rfl rfl rfl ?_
      refine ab_aload_n X 2 d_MO_satisfied_30 rfl rfl ?_
      refine ab_gR X fl_MO_42 d_MO_satisfied_31 (by first | assumption | decide | (show _ < 124; omega) | (show _ < 61; omega) | (show _ < 20; omega)) (P9.1.mo10) ?_
      refine ab_iconst (v := 4) X d_MO_satisfied_34 (by decide) ?_
      refine ab_iload_n X 3 d_MO_satisfied_35 rfl rfl ?_
      refine ab_imul X d_MO_satisfied_36 ?_
      refine ab_iconst (v := 1) X d_MO_satisfied_37 (by decide) ?_
      refine ab_iadd X d_MO_satisfied_38 ?_
      refine ab_iald X (4 * p1 + 1) ⟨rfl, rfl⟩ d_MO_satisfied_39 (by first | assumption | decide | (show _ < 124; omega) | (show _ < 61; omega) | (show _ < 20; omega)) (nI_4b p1) (show 4 * p1 + 1 < 160 by omega) (ab_ln_lt _ _) ?_
      refine ab_top (P9.ai (by decide) ey) ?_
      refine ab_istore6 X 0 1 2 3 4 5 d_MO_satisfied_40 (by decide) rfl rfl rfl rfl rfl rfl rfl rfl rfl rfl rfl rfl ?_
      refine ab_aload_n X 3 d_MO_satisfied_42 rfl rfl ?_
      refine ab_callV (as := []) X (fun h => by cases h) (s_MO_newRow u9 P9.1) lk_MO_267 d_MO_satisfied_43 rfl rfl (by first | assumption | decide | (show _ < 124; omega) | (show _ < 61; omega) | (show _ < 20; omega)) ⟨by first | exact Nat.le_of_ble_eq_true rfl | (simp only [ab_rm]; omega), by first | exact Nat.le_of_ble_eq_true rfl | (simp only [ab_rm]; omega)⟩ ⟨by first | exact Nat.le_of_ble_eq_true rfl | (simp only [ab_rm]; omega), by first | exact Nat.le_of_ble_eq_true rfl | (simp only [ab_rm]; omega)⟩ (Nat.le_of_ble_eq_true rfl) (fun u43 r43 h43 => ?_)
      obtain ⟨⟨q43, r43⟩, rfl⟩ := h43
      have P43 := P9.trans q43 (by decide)
      have b0 : bl q (u43.1 17 0 29) := Or.inl (by rw [q43.fi (by decide) rfl, e9, e2]; simp [ab_up])
      refine ab_iload X 2 d_MO_satisfied_46 rfl ?_
      refine ab_iconst (v := 1) X d_MO_satisfied_48 (by decide) ?_
      refine ab_icmp_eq X 66 d_MO_satisfied_49 rfl (fun hb => absurd hb ((by decide))) (fun _ => ?_)
      refine ab_iload X 2 d_MO_satisfied_52 rfl ?_
      refine ab_bipush (v := 11) X d_MO_satisfied_54 (by decide) ?_
      refine ab_icmp_eq X 66 d_MO_satisfied_56 rfl (fun hb => absurd hb ((by decide))) (fun _ => ?_)
      refine ab_iload X 2 d_MO_satisfied_59 rfl ?_
      refine ab_bipush (v := 12) X d_MO_satisfied_61 (by decide) ?_
      refine ab_icmp_ne X 107 d_MO_satisfied_63 rfl (fun _ => ?_) (fun hb => absurd hb ((by decide)))
      refine ab_iload X 2 d_MO_satisfied_107 rfl ?_
      refine ab_iconst (v := 2) X d_MO_satisfied_109 (by decide) ?_
      refine ab_icmp_ne X 130 d_MO_satisfied_110 rfl (fun _ => ?_) (fun hb => absurd hb ((by decide)))
      refine ab_iload X 2 d_MO_satisfied_130 rfl ?_
      refine ab_iconst (v := 3) X d_MO_satisfied_132 (by decide) ?_
      refine ab_icmp_ne X 181 d_MO_satisfied_133 rfl (fun _ => ?_) (fun hb => absurd hb ((by decide)))
      refine ab_iload X 2 d_MO_satisfied_181 rfl ?_
      refine ab_iconst (v := 4) X d_MO_satisfied_183 (by decide) ?_
      refine ab_icmp_ne X 206 d_MO_satisfied_184 rfl (fun _ => ?_) (fun hb => absurd hb ((by decide)))
      refine ab_iload X 2 d_MO_satisfied_206 rfl ?_
      refine ab_iconst (v := 5) X d_MO_satisfied_208 (by decide) ?_
      refine ab_icmp_ne X 229 d_MO_satisfied_209 rfl (fun _ => ?_) (fun hb => absurd hb ((by decide)))
      refine ab_iload X 2 d_MO_satisfied_229 rfl ?_
      refine ab_bipush (v := 6) X d_MO_satisfied_231 (by decide) ?_
      refine ab_icmp_ne X 253 d_MO_satisfied_233 rfl (fun hb => absurd ((by decide)) hb) (fun _ => ?_)
      refine ab_aload_n X 3 d_MO_satisfied_236 rfl rfl ?_
      refine ab_iload X 1 d_MO_satisfied_237 rfl ?_
      refine ab_callS (as := [ab_I (nI x)]) X (fun h => by cases h) (t_MO_b u43 x) ls_MO_204 d_MO_satisfied_239 rfl rfl ⟨by first | exact Nat.le_of_ble_eq_true rfl | (simp only [ab_rm]; omega), by first | exact Nat.le_of_ble_eq_true rfl | (simp only [ab_rm]; omega)⟩ ⟨by first | exact Nat.le_of_ble_eq_true rfl | (simp only [ab_rm]; omega), by first | exact Nat.le_of_ble_eq_true rfl | (simp only [ab_rm]; omega)⟩ (Nat.le_of_ble_eq_true rfl) (fun u239 r239 h239 => ?_)
      obtain ⟨e239, rfl⟩ := h239
      subst u239
      refine ab_iload X 0 d_MO_satisfied_242 rfl ?_
      refine ab_callS (as := [ab_I (nI y)]) X (fun h => by cases h) (t_MO_d u43 y) ls_MO_195 d_MO_satisfied_244 rfl rfl ⟨by first | exact Nat.le_of_ble_eq_true rfl | (simp only [ab_rm]; omega), by first | exact Nat.le_of_ble_eq_true rfl | (simp only [ab_rm]; omega)⟩ ⟨by first | exact Nat.le_of_ble_eq_true rfl | (simp only [ab_rm]; omega), by first | exact Nat.le_of_ble_eq_true rfl | (simp only [ab_rm]; omega)⟩ (Nat.le_of_ble_eq_true rfl) (fun u244 r244 h244 => ?_)
      obtain ⟨e244, rfl⟩ := h244
      subst u244
      refine ab_callV (as := [ab_I (nI (3 * x)), ab_I (nI (3 * y + 1))]) X (fun h => by cases h) (s_MO_offerChoice u43 (3 * x) (3 * y + 1) (4 * lf x - 3) (4 * lf y - 2) q (by omega) b0 P43.1 (by omega) (by omega) (by rw [P43.ai (by decide) rfl]; exact sx.2.1) (by rw [P43.ai (by decide) rfl]; exact sy.2.2.1) (by omega) (by omega) (by omega) (by omega)) lk_MO_285 d_MO_satisfied_247 rfl rfl (by first | assumption | decide | (show _ < 124; omega) | (show _ < 61; omega) | (show _ < 20; omega)) ⟨by first | exact Nat.le_of_ble_eq_true rfl | (simp only [ab_rm]; omega), by first | exact Nat.le_of_ble_eq_true rfl | (simp only [ab_rm]; omega)⟩ ⟨by first | exact Nat.le_of_ble_eq_true rfl | (simp only [ab_rm]; omega), by first | exact Nat.le_of_ble_eq_true rfl | (simp only [ab_rm]; omega)⟩ (Nat.le_of_ble_eq_true rfl) (fun u247 r247 h247 => ?_)
      obtain ⟨⟨q247, b247⟩, rfl⟩ := h247
      have P247 := P43.trans q247 (by decide)
      refine ab_goto X 306 d_MO_satisfied_250 rfl ?_
      refine ab_lv (List.forall_mem_cons.mpr ⟨List.mem_of_getElem? (i := 3) rfl, List.forall_mem_cons.mpr ⟨List.mem_of_getElem? (i := 4) rfl, List.forall_mem_cons.mpr ⟨List.mem_of_getElem? (i := 5) rfl, fun _ h => absurd h List.not_mem_nil⟩⟩⟩) ?_
      exact fin _ P247 b247
    ·
      refine ab_aload_n X 0 d_MO_satisfied_0 rfl rfl ?_
      refine ab_iconst (v := (-1)) X d_MO_satisfied_1 (by decide) ?_
      refine ab_putI X fp_MO_99 d_MO_satisfied_2 (by first | assumption | decide | (show _ < 124; omega) | (show _ < 61; omega) | (show _ < 20; omega)) rfl rfl ?_
      refine ab_gen (fun u2 e2 => ?_)
      have P2 : gP [26, 27, 29, 30, 115, 116] u u2 := by rw [e2]; exact R0.ui rfl (by decide)
      refine ab_aload_n X 0 d_MO_satisfied_5 rfl rfl ?_
      refine ab_ldcw X (v := 100000) (ab_in 1248 (by decide +kernel) (by decide +kernel)) d_MO_satisfied_6 ?_
      refine ab_putI X fp_MO_102 d_MO_satisfied_9 (by first | assumption | decide | (show _ < 124; omega) | (show _ < 61; omega) | (show _ < 20; omega)) rfl rfl ?_
      refine ab_gen (fun u9 e9 => ?_)
      have P9 : gP [26, 27, 29, 30, 115, 116] u u9 := by rw [e9]; exact P2.ui rfl (by decide)
      refine ab_aload_n X 0 d_MO_satisfied_12 rfl rfl ?_
      refine ab_gR X fl_MO_45 d_MO_satisfied_13 (by first | assumption | decide | (show _ < 124; omega) | (show _ < 61; omega) | (show _ < 20; omega)) (P9.1.mo11) ?_
      refine ab_iload_n X 2 d_MO_satisfied_16 rfl rfl ?_
      refine ab_iald X (3 * p1 + j) ⟨rfl, rfl⟩ d_MO_satisfied_17 (by first | assumption | decide | (show _ < 124; omega) | (show _ < 61; omega) | (show _ < 20; omega)) (rfl) (show 3 * p1 + j < 72 by omega) (ab_ln_lt _ _) ?_
      refine ab_top (P9.ai (by decide) ew) ?_
      refine ab_istore4 X 0 1 2 3 d_MO_satisfied_18 (by decide) rfl rfl rfl rfl rfl rfl rfl rfl ?_
      refine ab_aload_n X 1 d_MO_satisfied_20 rfl rfl ?_
      refine ab_gR X fl_MO_42 d_MO_satisfied_21 (by first | assumption | decide | (show _ < 124; omega) | (show _ < 61; omega) | (show _ < 20; omega)) (P9.1.mo10) ?_
      refine ab_iconst (v := 4) X d_MO_satisfied_24 (by decide) ?_
      refine ab_iload_n X 2 d_MO_satisfied_25 rfl rfl ?_
      refine ab_imul X d_MO_satisfied_26 ?_
      refine ab_iald X (4 * p1) ⟨rfl, rfl⟩ d_MO_satisfied_27 (by first | assumption | decide | (show _ < 124; omega) | (show _ < 61; omega) | (show _ < 20; omega)) (nI_4m p1) (show 4 * p1 < 160 by omega) (ab_ln_lt _ _) ?_
      refine ab_top (P9.ai (by decide) ex) ?_
      refine ab_istore5 X 0 1 2 3 4 d_MO_satisfied_28 (by decide) rfl rfl rfl rfl rfl rfl rfl rfl rfl rfl ?_
      refine ab_aload_n X 2 d_MO_satisfied_30 rfl rfl ?_
      refine ab_gR X fl_MO_42 d_MO_satisfied_31 (by first | assumption | decide | (show _ < 124; omega) | (show _ < 61; omega) | (show _ < 20; omega)) (P9.1.mo10) ?_
      refine ab_iconst (v := 4) X d_MO_satisfied_34 (by decide) ?_
      refine ab_iload_n X 3 d_MO_satisfied_35 rfl rfl ?_
      refine ab_imul X d_MO_satisfied_36 ?_
      refine ab_iconst (v := 1) X d_MO_satisfied_37 (by decide) ?_
      refine ab_iadd X d_MO_satisfied_38 ?_
      refine ab_iald X (4 * p1 + 1) ⟨rfl, rfl⟩ d_MO_satisfied_39 (by first | assumption | decide | (show _ < 124; omega) | (show _ < 61; omega) | (show _ < 20; omega)) (nI_4b p1) (show 4 * p1 + 1 < 160 by omega) (ab_ln_lt _ _) ?_
      refine ab_top (P9.ai (by decide) ey) ?_
      refine ab_istore6 X 0 1 2 3 4 5 d_MO_satisfied_40 (by decide) rfl rfl rfl rfl rfl rfl rfl rfl rfl rfl rfl rfl ?_
      refine ab_aload_n X 3 d_MO_satisfied_42 rfl rfl ?_
      refine ab_callV (as := []) X (fun h => by cases h) (s_MO_newRow u9 P9.1) lk_MO_267 d_MO_satisfied_43 rfl rfl (by first | assumption | decide | (show _ < 124; omega) | (show _ < 61; omega) | (show _ < 20; omega)) ⟨by first | exact Nat.le_of_ble_eq_true rfl | (simp only [ab_rm]; omega), by first | exact Nat.le_of_ble_eq_true rfl | (simp only [ab_rm]; omega)⟩ ⟨by first | exact Nat.le_of_ble_eq_true rfl | (simp only [ab_rm]; omega), by first | exact Nat.le_of_ble_eq_true rfl | (simp only [ab_rm]; omega)⟩ (Nat.le_of_ble_eq_true rfl) (fun u43 r43 h43 => ?_)
      obtain ⟨⟨q43, r43⟩, rfl⟩ := h43
      have P43 := P9.trans q43 (by decide)
      have b0 : bl q (u43.1 17 0 29) := Or.inl (by rw [q43.fi (by decide) rfl, e9, e2]; simp [ab_up])
      refine ab_iload X 2 d_MO_satisfied_46 rfl ?_
      refine ab_iconst (v := 1) X d_MO_satisfied_48 (by decide) ?_
      refine ab_icmp_eq X 66 d_MO_satisfied_49 rfl (fun hb => absurd hb ((by decide))) (fun _ => ?_)
      refine ab_iload X 2 d_MO_satisfied_52 rfl ?_
      refine ab_bipush (v := 11) X d_MO_satisfied_54 (by decide) ?_
      refine ab_icmp_eq X 66 d_MO_satisfied_56 rfl (fun hb => absurd hb ((by decide))) (fun _ => ?_)
      refine ab_iload X 2 d_MO_satisfied_59 rfl ?_
      refine ab_bipush (v := 12) X d_MO_satisfied_61 (by decide) ?_
      refine ab_icmp_ne X 107 d_MO_satisfied_63 rfl (fun _ => ?_) (fun hb => absurd hb ((by decide)))
      refine ab_iload X 2 d_MO_satisfied_107 rfl ?_
      refine ab_iconst (v := 2) X d_MO_satisfied_109 (by decide) ?_
      refine ab_icmp_ne X 130 d_MO_satisfied_110 rfl (fun _ => ?_) (fun hb => absurd hb ((by decide)))
      refine ab_iload X 2 d_MO_satisfied_130 rfl ?_
      refine ab_iconst (v := 3) X d_MO_satisfied_132 (by decide) ?_
      refine ab_icmp_ne X 181 d_MO_satisfied_133 rfl (fun _ => ?_) (fun hb => absurd hb ((by decide)))
      refine ab_iload X 2 d_MO_satisfied_181 rfl ?_
      refine ab_iconst (v := 4) X d_MO_satisfied_183 (by decide) ?_
      refine ab_icmp_ne X 206 d_MO_satisfied_184 rfl (fun _ => ?_) (fun hb => absurd hb ((by decide)))
      refine ab_iload X 2 d_MO_satisfied_206 rfl ?_
      refine ab_iconst (v := 5) X d_MO_satisfied_208 (by decide) ?_
      refine ab_icmp_ne X 229 d_MO_satisfied_209 rfl (fun _ => ?_) (fun hb => absurd hb ((by decide)))
      refine ab_iload X 2 d_MO_satisfied_229 rfl ?_
      refine ab_bipush (v := 6) X d_MO_satisfied_231 (by decide) ?_
      refine ab_icmp_ne X 253 d_MO_satisfied_233 rfl (fun _ => ?_) (fun hb => absurd hb ((by decide)))
      refine ab_iload X 2 d_MO_satisfied_253 rfl ?_
      refine ab_bipush (v := 7) X d_MO_satisfied_255 (by decide) ?_
      refine ab_icmp_ne X 268 d_MO_satisfied_257 rfl (fun _ => ?_) (fun hb => absurd hb ((by decide)))
      refine ab_iload X 2 d_MO_satisfied_268 rfl ?_
      refine ab_bipush (v := 8) X d_MO_satisfied_270 (by decide) ?_
      refine ab_icmp_ne X 295 d_MO_satisfied_272 rfl (fun _ => ?_) (fun hb => absurd hb ((by decide)))
      refine ab_aload_n X 3 d_MO_satisfied_295 rfl rfl ?_
      refine ab_iload_n X 4 d_MO_satisfied_296 rfl rfl ?_
      refine ab_iload X 2 d_MO_satisfied_297 rfl ?_
      refine ab_iload X 1 d_MO_satisfied_299 rfl ?_
      refine ab_iload X 0 d_MO_satisfied_301 rfl ?_
      refine ab_callV (as := [ab_I (nI p1), ab_I (nI 13), ab_I (nI x), ab_I (nI y)]) X (fun h => by cases h) (s_MO_satisfiedMore13 u43 P kd ar cn lf ch W (T.fr P43 (by decide) (by decide) (by decide) (by decide) (by decide)) p1 hp hk (fun p a b => by have z := S p a b; simp only [P43.ai (a := 11) (by decide) rfl, P43.ai (a := 14) (by decide) rfl]; exact z) x y x1 x2 y1 y2 l0 l1 l2 q (by omega) b0 P43.1 (by omega)) lk_MO_291 d_MO_satisfied_303 rfl rfl (by first | assumption | decide | (show _ < 124; omega) | (show _ < 61; omega) | (show _ < 20; omega)) ⟨by first | exact Nat.le_of_ble_eq_true rfl | (simp only [ab_rm]; omega), by first | exact Nat.le_of_ble_eq_true rfl | (simp only [ab_rm]; omega)⟩ ⟨by first | exact Nat.le_of_ble_eq_true rfl | (simp only [ab_rm]; omega), by first | exact Nat.le_of_ble_eq_true rfl | (simp only [ab_rm]; omega)⟩ (Nat.le_of_ble_eq_true rfl) (fun u303 r303 h303 => ?_)
      obtain ⟨⟨q303, b303⟩, rfl⟩ := h303
      have P303 := P43.trans q303 (by decide)
      refine ab_lv (List.forall_mem_cons.mpr ⟨List.mem_of_getElem? (i := 3) rfl, List.forall_mem_cons.mpr ⟨List.mem_of_getElem? (i := 4) rfl, List.forall_mem_cons.mpr ⟨List.mem_of_getElem? (i := 5) rfl, fun _ h => absurd h List.not_mem_nil⟩⟩⟩) ?_
      exact fin _ P303 b303
    ·
      refine ab_aload_n X 0 d_MO_satisfied_0 rfl rfl ?_
      refine ab_iconst (v := (-1)) X d_MO_satisfied_1 (by decide) ?_
      refine ab_putI X fp_MO_99 d_MO_satisfied_2 (by first | assumption | decide | (show _ < 124; omega) | (show _ < 61; omega) | (show _ < 20; omega)) rfl rfl ?_
      refine ab_gen (fun u2 e2 => ?_)
      have P2 : gP [26, 27, 29, 30, 115, 116] u u2 := by rw [e2]; exact R0.ui rfl (by decide)
      refine ab_aload_n X 0 d_MO_satisfied_5 rfl rfl ?_
      refine ab_ldcw X (v := 100000) (ab_in 1248 (by decide +kernel) (by decide +kernel)) d_MO_satisfied_6 ?_
      refine ab_putI X fp_MO_102 d_MO_satisfied_9 (by first | assumption | decide | (show _ < 124; omega) | (show _ < 61; omega) | (show _ < 20; omega)) rfl rfl ?_
      refine ab_gen (fun u9 e9 => ?_)
      have P9 : gP [26, 27, 29, 30, 115, 116] u u9 := by rw [e9]; exact P2.ui rfl (by decide)
      refine ab_aload_n X 0 d_MO_satisfied_12 rfl rfl ?_
      refine ab_gR X fl_MO_45 d_MO_satisfied_13 (by first | assumption | decide | (show _ < 124; omega) | (show _ < 61; omega) | (show _ < 20; omega)) (P9.1.mo11) ?_
      refine ab_iload_n X 2 d_MO_satisfied_16 rfl rfl ?_
      refine ab_iald X (3 * p1 + j) ⟨rfl, rfl⟩ d_MO_satisfied_17 (by first | assumption | decide | (show _ < 124; omega) | (show _ < 61; omega) | (show _ < 20; omega)) (rfl) (show 3 * p1 + j < 72 by omega) (ab_ln_lt _ _) ?_
      refine ab_top (P9.ai (by decide) ew) ?_
      refine ab_istore4 X 0 1 2 3 d_MO_satisfied_18 (by decide) rfl rfl rfl rfl rfl rfl rfl rfl ?_
      refine ab_aload_n X 1 d_MO_satisfied_20 rfl rfl ?_
      refine ab_gR X fl_MO_42 d_MO_satisfied_21 (by first | assumption | decide | (show _ < 124; omega) | (show _ < 61; omega) | (show _ < 20; omega)) (P9.1.mo10) ?_
      refine ab_iconst (v := 4) X d_MO_satisfied_24 (by decide) ?_
      refine ab_iload_n X 2 d_MO_satisfied_25 rfl rfl ?_
      refine ab_imul X d_MO_satisfied_26 ?_
      refine ab_iald X (4 * p1) ⟨rfl, rfl⟩ d_MO_satisfied_27 (by first | assumption | decide | (show _ < 124; omega) | (show _ < 61; omega) | (show _ < 20; omega)) (nI_4m p1) (show 4 * p1 < 160 by omega) (ab_ln_lt _ _) ?_
      refine ab_top (P9.ai (by decide) ex) ?_
      refine ab_istore5 X 0 1 2 3 4 d_MO_satisfied_28 (by decide) rfl rfl rfl rfl rfl rfl rfl rfl rfl rfl ?_
      refine ab_aload_n X 2 d_MO_satisfied_30 rfl rfl ?_
      refine ab_gR X fl_MO_42 d_MO_satisfied_31 (by first | assumption | decide | (show _ < 124; omega) | (show _ < 61; omega) | (show _ < 20; omega)) (P9.1.mo10) ?_
      refine ab_iconst (v := 4) X d_MO_satisfied_34 (by decide) ?_
      refine ab_iload_n X 3 d_MO_satisfied_35 rfl rfl ?_
      refine ab_imul X d_MO_satisfied_36 ?_
      refine ab_iconst (v := 1) X d_MO_satisfied_37 (by decide) ?_
      refine ab_iadd X d_MO_satisfied_38 ?_
      refine ab_iald X (4 * p1 + 1) ⟨rfl, rfl⟩ d_MO_satisfied_39 (by first | assumption | decide | (show _ < 124; omega) | (show _ < 61; omega) | (show _ < 20; omega)) (nI_4b p1) (show 4 * p1 + 1 < 160 by omega) (ab_ln_lt _ _) ?_
      refine ab_top (P9.ai (by decide) ey) ?_
      refine ab_istore6 X 0 1 2 3 4 5 d_MO_satisfied_40 (by decide) rfl rfl rfl rfl rfl rfl rfl rfl rfl rfl rfl rfl ?_
      refine ab_aload_n X 3 d_MO_satisfied_42 rfl rfl ?_
      refine ab_callV (as := []) X (fun h => by cases h) (s_MO_newRow u9 P9.1) lk_MO_267 d_MO_satisfied_43 rfl rfl (by first | assumption | decide | (show _ < 124; omega) | (show _ < 61; omega) | (show _ < 20; omega)) ⟨by first | exact Nat.le_of_ble_eq_true rfl | (simp only [ab_rm]; omega), by first | exact Nat.le_of_ble_eq_true rfl | (simp only [ab_rm]; omega)⟩ ⟨by first | exact Nat.le_of_ble_eq_true rfl | (simp only [ab_rm]; omega), by first | exact Nat.le_of_ble_eq_true rfl | (simp only [ab_rm]; omega)⟩ (Nat.le_of_ble_eq_true rfl) (fun u43 r43 h43 => ?_)
      obtain ⟨⟨q43, r43⟩, rfl⟩ := h43
      have P43 := P9.trans q43 (by decide)
      have b0 : bl q (u43.1 17 0 29) := Or.inl (by rw [q43.fi (by decide) rfl, e9, e2]; simp [ab_up])
      refine ab_iload X 2 d_MO_satisfied_46 rfl ?_
      refine ab_iconst (v := 1) X d_MO_satisfied_48 (by decide) ?_
      refine ab_icmp_eq X 66 d_MO_satisfied_49 rfl (fun hb => absurd hb ((by decide))) (fun _ => ?_)
      refine ab_iload X 2 d_MO_satisfied_52 rfl ?_
      refine ab_bipush (v := 11) X d_MO_satisfied_54 (by decide) ?_
      refine ab_icmp_eq X 66 d_MO_satisfied_56 rfl (fun hb => absurd hb ((by decide))) (fun _ => ?_)
      refine ab_iload X 2 d_MO_satisfied_59 rfl ?_
      refine ab_bipush (v := 12) X d_MO_satisfied_61 (by decide) ?_
      refine ab_icmp_ne X 107 d_MO_satisfied_63 rfl (fun _ => ?_) (fun hb => absurd hb ((by decide)))
      refine ab_iload X 2 d_MO_satisfied_107 rfl ?_
      refine ab_iconst (v := 2) X d_MO_satisfied_109 (by decide) ?_
      refine ab_icmp_ne X 130 d_MO_satisfied_110 rfl (fun _ => ?_) (fun hb => absurd hb ((by decide)))
      refine ab_iload X 2 d_MO_satisfied_130 rfl ?_
      refine ab_iconst (v := 3) X d_MO_satisfied_132 (by decide) ?_
      refine ab_icmp_ne X 181 d_MO_satisfied_133 rfl (fun _ => ?_) (fun hb => absurd hb ((by decide)))
      refine ab_iload X 2 d_MO_satisfied_181 rfl ?_
      refine ab_iconst (v := 4) X d_MO_satisfied_183 (by decide) ?_
      refine ab_icmp_ne X 206 d_MO_satisfied_184 rfl (fun _ => ?_) (fun hb => absurd hb ((by decide)))
      refine ab_iload X 2 d_MO_satisfied_206 rfl ?_
      refine ab_iconst (v := 5) X d_MO_satisfied_208 (by decide) ?_
      refine ab_icmp_ne X 229 d_MO_satisfied_209 rfl (fun _ => ?_) (fun hb => absurd hb ((by decide)))
      refine ab_iload X 2 d_MO_satisfied_229 rfl ?_
      refine ab_bipush (v := 6) X d_MO_satisfied_231 (by decide) ?_
      refine ab_icmp_ne X 253 d_MO_satisfied_233 rfl (fun _ => ?_) (fun hb => absurd hb ((by decide)))
      refine ab_iload X 2 d_MO_satisfied_253 rfl ?_
      refine ab_bipush (v := 7) X d_MO_satisfied_255 (by decide) ?_
      refine ab_icmp_ne X 268 d_MO_satisfied_257 rfl (fun _ => ?_) (fun hb => absurd hb ((by decide)))
      refine ab_iload X 2 d_MO_satisfied_268 rfl ?_
      refine ab_bipush (v := 8) X d_MO_satisfied_270 (by decide) ?_
      refine ab_icmp_ne X 295 d_MO_satisfied_272 rfl (fun _ => ?_) (fun hb => absurd hb ((by decide)))
      refine ab_aload_n X 3 d_MO_satisfied_295 rfl rfl ?_
      refine ab_iload_n X 4 d_MO_satisfied_296 rfl rfl ?_
      refine ab_iload X 2 d_MO_satisfied_297 rfl ?_
      refine ab_iload X 1 d_MO_satisfied_299 rfl ?_
      refine ab_iload X 0 d_MO_satisfied_301 rfl ?_
      refine ab_callV (as := [ab_I (nI p1), ab_I (nI 14), ab_I (nI x), ab_I (nI y)]) X (fun h => by cases h) (s_MO_satisfiedMore14 u43 P kd ar cn lf ch W (T.fr P43 (by decide) (by decide) (by decide) (by decide) (by decide)) p1 hp hk (fun p a b => by have z := S p a b; simp only [P43.ai (a := 11) (by decide) rfl, P43.ai (a := 14) (by decide) rfl]; exact z) x y x1 x2 y1 y2 l0 l1 l2 q (by omega) b0 P43.1 (by omega)) lk_MO_291 d_MO_satisfied_303 rfl rfl (by first | assumption | decide | (show _ < 124; omega) | (show _ < 61; omega) | (show _ < 20; omega)) ⟨by first | exact Nat.le_of_ble_eq_true rfl | (simp only [ab_rm]; omega), by first | exact Nat.le_of_ble_eq_true rfl | (simp only [ab_rm]; omega)⟩ ⟨by first | exact Nat.le_of_ble_eq_true rfl | (simp only [ab_rm]; omega), by first | exact Nat.le_of_ble_eq_true rfl | (simp only [ab_rm]; omega)⟩ (Nat.le_of_ble_eq_true rfl) (fun u303 r303 h303 => ?_)
      obtain ⟨⟨q303, b303⟩, rfl⟩ := h303
      have P303 := P43.trans q303 (by decide)
      refine ab_lv (List.forall_mem_cons.mpr ⟨List.mem_of_getElem? (i := 3) rfl, List.forall_mem_cons.mpr ⟨List.mem_of_getElem? (i := 4) rfl, List.forall_mem_cons.mpr ⟨List.mem_of_getElem? (i := 5) rfl, fun _ h => absurd h List.not_mem_nil⟩⟩⟩) ?_
      exact fin _ P303 b303
    ·
      refine ab_aload_n X 0 d_MO_satisfied_0 rfl rfl ?_
      refine ab_iconst (v := (-1)) X d_MO_satisfied_1 (by decide) ?_
      refine ab_putI X fp_MO_99 d_MO_satisfied_2 (by first | assumption | decide | (show _ < 124; omega) | (show _ < 61; omega) | (show _ < 20; omega)) rfl rfl ?_
      refine ab_gen (fun u2 e2 => ?_)
      have P2 : gP [26, 27, 29, 30, 115, 116] u u2 := by rw [e2]; exact R0.ui rfl (by decide)
      refine ab_aload_n X 0 d_MO_satisfied_5 rfl rfl ?_
      refine ab_ldcw X (v := 100000) (ab_in 1248 (by decide +kernel) (by decide +kernel)) d_MO_satisfied_6 ?_
      refine ab_putI X fp_MO_102 d_MO_satisfied_9 (by first | assumption | decide | (show _ < 124; omega) | (show _ < 61; omega) | (show _ < 20; omega)) rfl rfl ?_
      refine ab_gen (fun u9 e9 => ?_)
      have P9 : gP [26, 27, 29, 30, 115, 116] u u9 := by rw [e9]; exact P2.ui rfl (by decide)
      refine ab_aload_n X 0 d_MO_satisfied_12 rfl rfl ?_
      refine ab_gR X fl_MO_45 d_MO_satisfied_13 (by first | assumption | decide | (show _ < 124; omega) | (show _ < 61; omega) | (show _ < 20; omega)) (P9.1.mo11) ?_
      refine ab_iload_n X 2 d_MO_satisfied_16 rfl rfl ?_
      refine ab_iald X (3 * p1 + j) ⟨rfl, rfl⟩ d_MO_satisfied_17 (by first | assumption | decide | (show _ < 124; omega) | (show _ < 61; omega) | (show _ < 20; omega)) (rfl) (show 3 * p1 + j < 72 by omega) (ab_ln_lt _ _) ?_
      refine ab_top (P9.ai (by decide) ew) ?_
      refine ab_istore4 X 0 1 2 3 d_MO_satisfied_18 (by decide) rfl rfl rfl rfl rfl rfl rfl rfl ?_
      refine ab_aload_n X 1 d_MO_satisfied_20 rfl rfl ?_
      refine ab_gR X fl_MO_42 d_MO_satisfied_21 (by first | assumption | decide | (show _ < 124; omega) | (show _ < 61; omega) | (show _ < 20; omega)) (P9.1.mo10) ?_
      refine ab_iconst (v := 4) X d_MO_satisfied_24 (by decide) ?_
      refine ab_iload_n X 2 d_MO_satisfied_25 rfl rfl ?_
      refine ab_imul X d_MO_satisfied_26 ?_
      refine ab_iald X (4 * p1) ⟨rfl, rfl⟩ d_MO_satisfied_27 (by first | assumption | decide | (show _ < 124; omega) | (show _ < 61; omega) | (show _ < 20; omega)) (nI_4m p1) (show 4 * p1 < 160 by omega) (ab_ln_lt _ _) ?_
      refine ab_top (P9.ai (by decide) ex) ?_
      refine ab_istore5 X 0 1 2 3 4 d_MO_satisfied_28 (by decide) rfl rfl rfl rfl rfl rfl rfl rfl rfl rfl ?_
      refine ab_aload_n X 2 d_MO_satisfied_30 rfl rfl ?_
      refine ab_gR X fl_MO_42 d_MO_satisfied_31 (by first | assumption | decide | (show _ < 124; omega) | (show _ < 61; omega) | (show _ < 20; omega)) (P9.1.mo10) ?_
      refine ab_iconst (v := 4) X d_MO_satisfied_34 (by decide) ?_
      refine ab_iload_n X 3 d_MO_satisfied_35 rfl rfl ?_
      refine ab_imul X d_MO_satisfied_36 ?_
      refine ab_iconst (v := 1) X d_MO_satisfied_37 (by decide) ?_
      refine ab_iadd X d_MO_satisfied_38 ?_
      refine ab_iald X (4 * p1 + 1) ⟨rfl, rfl⟩ d_MO_satisfied_39 (by first | assumption | decide | (show _ < 124; omega) | (show _ < 61; omega) | (show _ < 20; omega)) (nI_4b p1) (show 4 * p1 + 1 < 160 by omega) (ab_ln_lt _ _) ?_
      refine ab_top (P9.ai (by decide) ey) ?_
      refine ab_istore6 X 0 1 2 3 4 5 d_MO_satisfied_40 (by decide) rfl rfl rfl rfl rfl rfl rfl rfl rfl rfl rfl rfl ?_
      refine ab_aload_n X 3 d_MO_satisfied_42 rfl rfl ?_
      refine ab_callV (as := []) X (fun h => by cases h) (s_MO_newRow u9 P9.1) lk_MO_267 d_MO_satisfied_43 rfl rfl (by first | assumption | decide | (show _ < 124; omega) | (show _ < 61; omega) | (show _ < 20; omega)) ⟨by first | exact Nat.le_of_ble_eq_true rfl | (simp only [ab_rm]; omega), by first | exact Nat.le_of_ble_eq_true rfl | (simp only [ab_rm]; omega)⟩ ⟨by first | exact Nat.le_of_ble_eq_true rfl | (simp only [ab_rm]; omega), by first | exact Nat.le_of_ble_eq_true rfl | (simp only [ab_rm]; omega)⟩ (Nat.le_of_ble_eq_true rfl) (fun u43 r43 h43 => ?_)
      obtain ⟨⟨q43, r43⟩, rfl⟩ := h43
      have P43 := P9.trans q43 (by decide)
      have b0 : bl q (u43.1 17 0 29) := Or.inl (by rw [q43.fi (by decide) rfl, e9, e2]; simp [ab_up])
      refine ab_iload X 2 d_MO_satisfied_46 rfl ?_
      refine ab_iconst (v := 1) X d_MO_satisfied_48 (by decide) ?_
      refine ab_icmp_eq X 66 d_MO_satisfied_49 rfl (fun hb => absurd hb ((by decide))) (fun _ => ?_)
      refine ab_iload X 2 d_MO_satisfied_52 rfl ?_
      refine ab_bipush (v := 11) X d_MO_satisfied_54 (by decide) ?_
      refine ab_icmp_eq X 66 d_MO_satisfied_56 rfl (fun hb => absurd hb ((by decide))) (fun _ => ?_)
      refine ab_iload X 2 d_MO_satisfied_59 rfl ?_
      refine ab_bipush (v := 12) X d_MO_satisfied_61 (by decide) ?_
      refine ab_icmp_ne X 107 d_MO_satisfied_63 rfl (fun _ => ?_) (fun hb => absurd hb ((by decide)))
      refine ab_iload X 2 d_MO_satisfied_107 rfl ?_
      refine ab_iconst (v := 2) X d_MO_satisfied_109 (by decide) ?_
      refine ab_icmp_ne X 130 d_MO_satisfied_110 rfl (fun _ => ?_) (fun hb => absurd hb ((by decide)))
      refine ab_iload X 2 d_MO_satisfied_130 rfl ?_
      refine ab_iconst (v := 3) X d_MO_satisfied_132 (by decide) ?_
      refine ab_icmp_ne X 181 d_MO_satisfied_133 rfl (fun _ => ?_) (fun hb => absurd hb ((by decide)))
      refine ab_iload X 2 d_MO_satisfied_181 rfl ?_
      refine ab_iconst (v := 4) X d_MO_satisfied_183 (by decide) ?_
      refine ab_icmp_ne X 206 d_MO_satisfied_184 rfl (fun _ => ?_) (fun hb => absurd hb ((by decide)))
      refine ab_iload X 2 d_MO_satisfied_206 rfl ?_
      refine ab_iconst (v := 5) X d_MO_satisfied_208 (by decide) ?_
      refine ab_icmp_ne X 229 d_MO_satisfied_209 rfl (fun _ => ?_) (fun hb => absurd hb ((by decide)))
      refine ab_iload X 2 d_MO_satisfied_229 rfl ?_
      refine ab_bipush (v := 6) X d_MO_satisfied_231 (by decide) ?_
      refine ab_icmp_ne X 253 d_MO_satisfied_233 rfl (fun _ => ?_) (fun hb => absurd hb ((by decide)))
      refine ab_iload X 2 d_MO_satisfied_253 rfl ?_
      refine ab_bipush (v := 7) X d_MO_satisfied_255 (by decide) ?_
      refine ab_icmp_ne X 268 d_MO_satisfied_257 rfl (fun _ => ?_) (fun hb => absurd hb ((by decide)))
      refine ab_iload X 2 d_MO_satisfied_268 rfl ?_
      refine ab_bipush (v := 8) X d_MO_satisfied_270 (by decide) ?_
      refine ab_icmp_ne X 295 d_MO_satisfied_272 rfl (fun _ => ?_) (fun hb => absurd hb ((by decide)))
      refine ab_aload_n X 3 d_MO_satisfied_295 rfl rfl ?_
      refine ab_iload_n X 4 d_MO_satisfied_296 rfl rfl ?_
      refine ab_iload X 2 d_MO_satisfied_297 rfl ?_
      refine ab_iload X 1 d_MO_satisfied_299 rfl ?_
      refine ab_iload X 0 d_MO_satisfied_301 rfl ?_
      refine ab_callV (as := [ab_I (nI p1), ab_I (nI 15), ab_I (nI x), ab_I (nI y)]) X (fun h => by cases h) (s_MO_satisfiedMore15 u43 P kd ar cn lf ch W (T.fr P43 (by decide) (by decide) (by decide) (by decide) (by decide)) p1 hp hk (fun p a b => by have z := S p a b; simp only [P43.ai (a := 11) (by decide) rfl, P43.ai (a := 14) (by decide) rfl]; exact z) x y x1 x2 y1 y2 l0 l1 l2 q (by omega) b0 P43.1 (by omega)) lk_MO_291 d_MO_satisfied_303 rfl rfl (by first | assumption | decide | (show _ < 124; omega) | (show _ < 61; omega) | (show _ < 20; omega)) ⟨by first | exact Nat.le_of_ble_eq_true rfl | (simp only [ab_rm]; omega), by first | exact Nat.le_of_ble_eq_true rfl | (simp only [ab_rm]; omega)⟩ ⟨by first | exact Nat.le_of_ble_eq_true rfl | (simp only [ab_rm]; omega), by first | exact Nat.le_of_ble_eq_true rfl | (simp only [ab_rm]; omega)⟩ (Nat.le_of_ble_eq_true rfl) (fun u303 r303 h303 => ?_)
      obtain ⟨⟨q303, b303⟩, rfl⟩ := h303
      have P303 := P43.trans q303 (by decide)
      refine ab_lv (List.forall_mem_cons.mpr ⟨List.mem_of_getElem? (i := 3) rfl, List.forall_mem_cons.mpr ⟨List.mem_of_getElem? (i := 4) rfl, List.forall_mem_cons.mpr ⟨List.mem_of_getElem? (i := 5) rfl, fun _ h => absurd h List.not_mem_nil⟩⟩⟩) ?_
      exact fin _ P303 b303
    ·
      refine ab_aload_n X 0 d_MO_satisfied_0 rfl rfl ?_
      refine ab_iconst (v := (-1)) X d_MO_satisfied_1 (by decide) ?_
      refine ab_putI X fp_MO_99 d_MO_satisfied_2 (by first | assumption | decide | (show _ < 124; omega) | (show _ < 61; omega) | (show _ < 20; omega)) rfl rfl ?_
      refine ab_gen (fun u2 e2 => ?_)
      have P2 : gP [26, 27, 29, 30, 115, 116] u u2 := by rw [e2]; exact R0.ui rfl (by decide)
      refine ab_aload_n X 0 d_MO_satisfied_5 rfl rfl ?_
      refine ab_ldcw X (v := 100000) (ab_in 1248 (by decide +kernel) (by decide +kernel)) d_MO_satisfied_6 ?_
      refine ab_putI X fp_MO_102 d_MO_satisfied_9 (by first | assumption | decide | (show _ < 124; omega) | (show _ < 61; omega) | (show _ < 20; omega)) rfl rfl ?_
      refine ab_gen (fun u9 e9 => ?_)
      have P9 : gP [26, 27, 29, 30, 115, 116] u u9 := by rw [e9]; exact P2.ui rfl (by decide)
      refine ab_aload_n X 0 d_MO_satisfied_12 rfl rfl ?_
      refine ab_gR X fl_MO_45 d_MO_satisfied_13 (by first | assumption | decide | (show _ < 124; omega) | (show _ < 61; omega) | (show _ < 20; omega)) (P9.1.mo11) ?_
      refine ab_iload_n X 2 d_MO_satisfied_16 rfl rfl ?_
      refine ab_iald X (3 * p1 + j) ⟨rfl, rfl⟩ d_MO_satisfied_17 (by first | assumption | decide | (show _ < 124; omega) | (show _ < 61; omega) | (show _ < 20; omega)) (rfl) (show 3 * p1 + j < 72 by omega) (ab_ln_lt _ _) ?_
      refine ab_top (P9.ai (by decide) ew) ?_
      refine ab_istore4 X 0 1 2 3 d_MO_satisfied_18 (by decide) rfl rfl rfl rfl rfl rfl rfl rfl ?_
      refine ab_aload_n X 1 d_MO_satisfied_20 rfl rfl ?_
      refine ab_gR X fl_MO_42 d_MO_satisfied_21 (by first | assumption | decide | (show _ < 124; omega) | (show _ < 61; omega) | (show _ < 20; omega)) (P9.1.mo10) ?_
      refine ab_iconst (v := 4) X d_MO_satisfied_24 (by decide) ?_
      refine ab_iload_n X 2 d_MO_satisfied_25 rfl rfl ?_
      refine ab_imul X d_MO_satisfied_26 ?_
      refine ab_iald X (4 * p1) ⟨rfl, rfl⟩ d_MO_satisfied_27 (by first | assumption | decide | (show _ < 124; omega) | (show _ < 61; omega) | (show _ < 20; omega)) (nI_4m p1) (show 4 * p1 < 160 by omega) (ab_ln_lt _ _) ?_
      refine ab_top (P9.ai (by decide) ex) ?_
      refine ab_istore5 X 0 1 2 3 4 d_MO_satisfied_28 (by decide) rfl rfl rfl rfl rfl rfl rfl rfl rfl rfl ?_
      refine ab_aload_n X 2 d_MO_satisfied_30 rfl rfl ?_
      refine ab_gR X fl_MO_42 d_MO_satisfied_31 (by first | assumption | decide | (show _ < 124; omega) | (show _ < 61; omega) | (show _ < 20; omega)) (P9.1.mo10) ?_
      refine ab_iconst (v := 4) X d_MO_satisfied_34 (by decide) ?_
      refine ab_iload_n X 3 d_MO_satisfied_35 rfl rfl ?_
      refine ab_imul X d_MO_satisfied_36 ?_
      refine ab_iconst (v := 1) X d_MO_satisfied_37 (by decide) ?_
      refine ab_iadd X d_MO_satisfied_38 ?_
      refine ab_iald X (4 * p1 + 1) ⟨rfl, rfl⟩ d_MO_satisfied_39 (by first | assumption | decide | (show _ < 124; omega) | (show _ < 61; omega) | (show _ < 20; omega)) (nI_4b p1) (show 4 * p1 + 1 < 160 by omega) (ab_ln_lt _ _) ?_
      refine ab_top (P9.ai (by decide) ey) ?_
      refine ab_istore6 X 0 1 2 3 4 5 d_MO_satisfied_40 (by decide) rfl rfl rfl rfl rfl rfl rfl rfl rfl rfl rfl rfl ?_
      refine ab_aload_n X 3 d_MO_satisfied_42 rfl rfl ?_
      refine ab_callV (as := []) X (fun h => by cases h) (s_MO_newRow u9 P9.1) lk_MO_267 d_MO_satisfied_43 rfl rfl (by first | assumption | decide | (show _ < 124; omega) | (show _ < 61; omega) | (show _ < 20; omega)) ⟨by first | exact Nat.le_of_ble_eq_true rfl | (simp only [ab_rm]; omega), by first | exact Nat.le_of_ble_eq_true rfl | (simp only [ab_rm]; omega)⟩ ⟨by first | exact Nat.le_of_ble_eq_true rfl | (simp only [ab_rm]; omega), by first | exact Nat.le_of_ble_eq_true rfl | (simp only [ab_rm]; omega)⟩ (Nat.le_of_ble_eq_true rfl) (fun u43 r43 h43 => ?_)
      obtain ⟨⟨q43, r43⟩, rfl⟩ := h43
      have P43 := P9.trans q43 (by decide)
      have b0 : bl q (u43.1 17 0 29) := Or.inl (by rw [q43.fi (by decide) rfl, e9, e2]; simp [ab_up])
      refine ab_iload X 2 d_MO_satisfied_46 rfl ?_
      refine ab_iconst (v := 1) X d_MO_satisfied_48 (by decide) ?_
      refine ab_icmp_eq X 66 d_MO_satisfied_49 rfl (fun hb => absurd hb ((by decide))) (fun _ => ?_)
      refine ab_iload X 2 d_MO_satisfied_52 rfl ?_
      refine ab_bipush (v := 11) X d_MO_satisfied_54 (by decide) ?_
      refine ab_icmp_eq X 66 d_MO_satisfied_56 rfl (fun hb => absurd hb ((by decide))) (fun _ => ?_)
      refine ab_iload X 2 d_MO_satisfied_59 rfl ?_
      refine ab_bipush (v := 12) X d_MO_satisfied_61 (by decide) ?_
      refine ab_icmp_ne X 107 d_MO_satisfied_63 rfl (fun _ => ?_) (fun hb => absurd hb ((by decide)))
      refine ab_iload X 2 d_MO_satisfied_107 rfl ?_
      refine ab_iconst (v := 2) X d_MO_satisfied_109 (by decide) ?_
      refine ab_icmp_ne X 130 d_MO_satisfied_110 rfl (fun _ => ?_) (fun hb => absurd hb ((by decide)))
      refine ab_iload X 2 d_MO_satisfied_130 rfl ?_
      refine ab_iconst (v := 3) X d_MO_satisfied_132 (by decide) ?_
      refine ab_icmp_ne X 181 d_MO_satisfied_133 rfl (fun _ => ?_) (fun hb => absurd hb ((by decide)))
      refine ab_iload X 2 d_MO_satisfied_181 rfl ?_
      refine ab_iconst (v := 4) X d_MO_satisfied_183 (by decide) ?_
      refine ab_icmp_ne X 206 d_MO_satisfied_184 rfl (fun _ => ?_) (fun hb => absurd hb ((by decide)))
      refine ab_iload X 2 d_MO_satisfied_206 rfl ?_
      refine ab_iconst (v := 5) X d_MO_satisfied_208 (by decide) ?_
      refine ab_icmp_ne X 229 d_MO_satisfied_209 rfl (fun _ => ?_) (fun hb => absurd hb ((by decide)))
      refine ab_iload X 2 d_MO_satisfied_229 rfl ?_
      refine ab_bipush (v := 6) X d_MO_satisfied_231 (by decide) ?_
      refine ab_icmp_ne X 253 d_MO_satisfied_233 rfl (fun _ => ?_) (fun hb => absurd hb ((by decide)))
      refine ab_iload X 2 d_MO_satisfied_253 rfl ?_
      refine ab_bipush (v := 7) X d_MO_satisfied_255 (by decide) ?_
      refine ab_icmp_ne X 268 d_MO_satisfied_257 rfl (fun _ => ?_) (fun hb => absurd hb ((by decide)))
      refine ab_iload X 2 d_MO_satisfied_268 rfl ?_
      refine ab_bipush (v := 8) X d_MO_satisfied_270 (by decide) ?_
      refine ab_icmp_ne X 295 d_MO_satisfied_272 rfl (fun _ => ?_) (fun hb => absurd hb ((by decide)))
      refine ab_aload_n X 3 d_MO_satisfied_295 rfl rfl ?_
      refine ab_iload_n X 4 d_MO_satisfied_296 rfl rfl ?_
      refine ab_iload X 2 d_MO_satisfied_297 rfl ?_
      refine ab_iload X 1 d_MO_satisfied_299 rfl ?_
      refine ab_iload X 0 d_MO_satisfied_301 rfl ?_
      refine ab_callV (as := [ab_I (nI p1), ab_I (nI 16), ab_I (nI x), ab_I (nI y)]) X (fun h => by cases h) (s_MO_satisfiedMore16 u43 P kd ar cn lf ch W (T.fr P43 (by decide) (by decide) (by decide) (by decide) (by decide)) p1 hp hk (fun p a b => by have z := S p a b; simp only [P43.ai (a := 11) (by decide) rfl, P43.ai (a := 14) (by decide) rfl]; exact z) x y x1 x2 y1 y2 l0 l1 l2 q (by omega) b0 P43.1 (by omega)) lk_MO_291 d_MO_satisfied_303 rfl rfl (by first | assumption | decide | (show _ < 124; omega) | (show _ < 61; omega) | (show _ < 20; omega)) ⟨by first | exact Nat.le_of_ble_eq_true rfl | (simp only [ab_rm]; omega), by first | exact Nat.le_of_ble_eq_true rfl | (simp only [ab_rm]; omega)⟩ ⟨by first | exact Nat.le_of_ble_eq_true rfl | (simp only [ab_rm]; omega), by first | exact Nat.le_of_ble_eq_true rfl | (simp only [ab_rm]; omega)⟩ (Nat.le_of_ble_eq_true rfl) (fun u303 r303 h303 => ?_)
      obtain ⟨⟨q303, b303⟩, rfl⟩ := h303
      have P303 := P43.trans q303 (by decide)
      refine ab_lv (List.forall_mem_cons.mpr ⟨List.mem_of_getElem? (i := 3) rfl, List.forall_mem_cons.mpr ⟨List.mem_of_getElem? (i := 4) rfl, List.forall_mem_cons.mpr ⟨List.mem_of_getElem? (i := 5) rfl, fun _ h => absurd h List.not_mem_nil⟩⟩⟩) ?_
      exact fin _ P303 b303
    ·
      refine ab_aload_n X 0 d_MO_satisfied_0 rfl rfl ?_
      refine ab_iconst (v := (-1)) X d_MO_satisfied_1 (by decide) ?_
      refine ab_putI X fp_MO_99 d_MO_satisfied_2 (by first | assumption | decide | (show _ < 124; omega) | (show _ < 61; omega) | (show _ < 20; omega)) rfl rfl ?_
      refine ab_gen (fun u2 e2 => ?_)
      have P2 : gP [26, 27, 29, 30, 115, 116] u u2 := by rw [e2]; exact R0.ui rfl (by decide)
      refine ab_aload_n X 0 d_MO_satisfied_5 rfl rfl ?_
      refine ab_ldcw X (v := 100000) (ab_in 1248 (by decide +kernel) (by decide +kernel)) d_MO_satisfied_6 ?_
      refine ab_putI X fp_MO_102 d_MO_satisfied_9 (by first | assumption | decide | (show _ < 124; omega) | (show _ < 61; omega) | (show _ < 20; omega)) rfl rfl ?_
      refine ab_gen (fun u9 e9 => ?_)
      have P9 : gP [26, 27, 29, 30, 115, 116] u u9 := by rw [e9]; exact P2.ui rfl (by decide)
      refine ab_aload_n X 0 d_MO_satisfied_12 rfl rfl ?_
      refine ab_gR X fl_MO_45 d_MO_satisfied_13 (by first | assumption | decide | (show _ < 124; omega) | (show _ < 61; omega) | (show _ < 20; omega)) (P9.1.mo11) ?_
      refine ab_iload_n X 2 d_MO_satisfied_16 rfl rfl ?_
      refine ab_iald X (3 * p1 + j) ⟨rfl, rfl⟩ d_MO_satisfied_17 (by first | assumption | decide | (show _ < 124; omega) | (show _ < 61; omega) | (show _ < 20; omega)) (rfl) (show 3 * p1 + j < 72 by omega) (ab_ln_lt _ _) ?_
      refine ab_top (P9.ai (by decide) ew) ?_
      refine ab_istore4 X 0 1 2 3 d_MO_satisfied_18 (by decide) rfl rfl rfl rfl rfl rfl rfl rfl ?_
      refine ab_aload_n X 1 d_MO_satisfied_20 rfl rfl ?_
      refine ab_gR X fl_MO_42 d_MO_satisfied_21 (by first | assumption | decide | (show _ < 124; omega) | (show _ < 61; omega) | (show _ < 20; omega)) (P9.1.mo10) ?_
      refine ab_iconst (v := 4) X d_MO_satisfied_24 (by decide) ?_
      refine ab_iload_n X 2 d_MO_satisfied_25 rfl rfl ?_
      refine ab_imul X d_MO_satisfied_26 ?_
      refine ab_iald X (4 * p1) ⟨rfl, rfl⟩ d_MO_satisfied_27 (by first | assumption | decide | (show _ < 124; omega) | (show _ < 61; omega) | (show _ < 20; omega)) (nI_4m p1) (show 4 * p1 < 160 by omega) (ab_ln_lt _ _) ?_
      refine ab_top (P9.ai (by decide) ex) ?_
      refine ab_istore5 X 0 1 2 3 4 d_MO_satisfied_28 (by decide) rfl rfl rfl rfl rfl rfl rfl rfl rfl rfl ?_
      refine ab_aload_n X 2 d_MO_satisfied_30 rfl rfl ?_
      refine ab_gR X fl_MO_42 d_MO_satisfied_31 (by first | assumption | decide | (show _ < 124; omega) | (show _ < 61; omega) | (show _ < 20; omega)) (P9.1.mo10) ?_
      refine ab_iconst (v := 4) X d_MO_satisfied_34 (by decide) ?_
      refine ab_iload_n X 3 d_MO_satisfied_35 rfl rfl ?_
      refine ab_imul X d_MO_satisfied_36 ?_
      refine ab_iconst (v := 1) X d_MO_satisfied_37 (by decide) ?_
      refine ab_iadd X d_MO_satisfied_38 ?_
      refine ab_iald X (4 * p1 + 1) ⟨rfl, rfl⟩ d_MO_satisfied_39 (by first | assumption | decide | (show _ < 124; omega) | (show _ < 61; omega) | (show _ < 20; omega)) (nI_4b p1) (show 4 * p1 + 1 < 160 by omega) (ab_ln_lt _ _) ?_
      refine ab_top (P9.ai (by decide) ey) ?_
      refine ab_istore6 X 0 1 2 3 4 5 d_MO_satisfied_40 (by decide) rfl rfl rfl rfl rfl rfl rfl rfl rfl rfl rfl rfl ?_
      refine ab_aload_n X 3 d_MO_satisfied_42 rfl rfl ?_
      refine ab_callV (as := []) X (fun h => by cases h) (s_MO_newRow u9 P9.1) lk_MO_267 d_MO_satisfied_43 rfl rfl (by first | assumption | decide | (show _ < 124; omega) | (show _ < 61; omega) | (show _ < 20; omega)) ⟨by first | exact Nat.le_of_ble_eq_true rfl | (simp only [ab_rm]; omega), by first | exact Nat.le_of_ble_eq_true rfl | (simp only [ab_rm]; omega)⟩ ⟨by first | exact Nat.le_of_ble_eq_true rfl | (simp only [ab_rm]; omega), by first | exact Nat.le_of_ble_eq_true rfl | (simp only [ab_rm]; omega)⟩ (Nat.le_of_ble_eq_true rfl) (fun u43 r43 h43 => ?_)
      obtain ⟨⟨q43, r43⟩, rfl⟩ := h43
      have P43 := P9.trans q43 (by decide)
      have b0 : bl q (u43.1 17 0 29) := Or.inl (by rw [q43.fi (by decide) rfl, e9, e2]; simp [ab_up])
      refine ab_iload X 2 d_MO_satisfied_46 rfl ?_
      refine ab_iconst (v := 1) X d_MO_satisfied_48 (by decide) ?_
      refine ab_icmp_eq X 66 d_MO_satisfied_49 rfl (fun hb => absurd hb ((by decide))) (fun _ => ?_)
      refine ab_iload X 2 d_MO_satisfied_52 rfl ?_
      refine ab_bipush (v := 11) X d_MO_satisfied_54 (by decide) ?_
      refine ab_icmp_eq X 66 d_MO_satisfied_56 rfl (fun hb => absurd hb ((by decide))) (fun _ => ?_)
      refine ab_iload X 2 d_MO_satisfied_59 rfl ?_
      refine ab_bipush (v := 12) X d_MO_satisfied_61 (by decide) ?_
      refine ab_icmp_ne X 107 d_MO_satisfied_63 rfl (fun _ => ?_) (fun hb => absurd hb ((by decide)))
      refine ab_iload X 2 d_MO_satisfied_107 rfl ?_
      refine ab_iconst (v := 2) X d_MO_satisfied_109 (by decide) ?_
      refine ab_icmp_ne X 130 d_MO_satisfied_110 rfl (fun _ => ?_) (fun hb => absurd hb ((by decide)))
      refine ab_iload X 2 d_MO_satisfied_130 rfl ?_
      refine ab_iconst (v := 3) X d_MO_satisfied_132 (by decide) ?_
      refine ab_icmp_ne X 181 d_MO_satisfied_133 rfl (fun _ => ?_) (fun hb => absurd hb ((by decide)))
      refine ab_iload X 2 d_MO_satisfied_181 rfl ?_
      refine ab_iconst (v := 4) X d_MO_satisfied_183 (by decide) ?_
      refine ab_icmp_ne X 206 d_MO_satisfied_184 rfl (fun _ => ?_) (fun hb => absurd hb ((by decide)))
      refine ab_iload X 2 d_MO_satisfied_206 rfl ?_
      refine ab_iconst (v := 5) X d_MO_satisfied_208 (by decide) ?_
      refine ab_icmp_ne X 229 d_MO_satisfied_209 rfl (fun _ => ?_) (fun hb => absurd hb ((by decide)))
      refine ab_iload X 2 d_MO_satisfied_229 rfl ?_
      refine ab_bipush (v := 6) X d_MO_satisfied_231 (by decide) ?_
      refine ab_icmp_ne X 253 d_MO_satisfied_233 rfl (fun _ => ?_) (fun hb => absurd hb ((by decide)))
      refine ab_iload X 2 d_MO_satisfied_253 rfl ?_
      refine ab_bipush (v := 7) X d_MO_satisfied_255 (by decide) ?_
      refine ab_icmp_ne X 268 d_MO_satisfied_257 rfl (fun _ => ?_) (fun hb => absurd hb ((by decide)))
      refine ab_iload X 2 d_MO_satisfied_268 rfl ?_
      refine ab_bipush (v := 8) X d_MO_satisfied_270 (by decide) ?_
      refine ab_icmp_ne X 295 d_MO_satisfied_272 rfl (fun _ => ?_) (fun hb => absurd hb ((by decide)))
      refine ab_aload_n X 3 d_MO_satisfied_295 rfl rfl ?_
      refine ab_iload_n X 4 d_MO_satisfied_296 rfl rfl ?_
      refine ab_iload X 2 d_MO_satisfied_297 rfl ?_
      refine ab_iload X 1 d_MO_satisfied_299 rfl ?_
      refine ab_iload X 0 d_MO_satisfied_301 rfl ?_
      refine ab_callV (as := [ab_I (nI p1), ab_I (nI 17), ab_I (nI x), ab_I (nI y)]) X (fun h => by cases h) (s_MO_satisfiedMore17 u43 P kd ar cn lf ch W (T.fr P43 (by decide) (by decide) (by decide) (by decide) (by decide)) p1 hp hk (fun p a b => by have z := S p a b; simp only [P43.ai (a := 11) (by decide) rfl, P43.ai (a := 14) (by decide) rfl]; exact z) x y x1 x2 y1 y2 l0 l1 l2 q (by omega) b0 P43.1 (by omega)) lk_MO_291 d_MO_satisfied_303 rfl rfl (by first | assumption | decide | (show _ < 124; omega) | (show _ < 61; omega) | (show _ < 20; omega)) ⟨by first | exact Nat.le_of_ble_eq_true rfl | (simp only [ab_rm]; omega), by first | exact Nat.le_of_ble_eq_true rfl | (simp only [ab_rm]; omega)⟩ ⟨by first | exact Nat.le_of_ble_eq_true rfl | (simp only [ab_rm]; omega), by first | exact Nat.le_of_ble_eq_true rfl | (simp only [ab_rm]; omega)⟩ (Nat.le_of_ble_eq_true rfl) (fun u303 r303 h303 => ?_)
      obtain ⟨⟨q303, b303⟩, rfl⟩ := h303
      have P303 := P43.trans q303 (by decide)
      refine ab_lv (List.forall_mem_cons.mpr ⟨List.mem_of_getElem? (i := 3) rfl, List.forall_mem_cons.mpr ⟨List.mem_of_getElem? (i := 4) rfl, List.forall_mem_cons.mpr ⟨List.mem_of_getElem? (i := 5) rfl, fun _ h => absurd h List.not_mem_nil⟩⟩⟩) ?_
      exact fin _ P303 b303
    ·
      refine ab_aload_n X 0 d_MO_satisfied_0 rfl rfl ?_
      refine ab_iconst (v := (-1)) X d_MO_satisfied_1 (by decide) ?_
      refine ab_putI X fp_MO_99 d_MO_satisfied_2 (by first | assumption | decide | (show _ < 124; omega) | (show _ < 61; omega) | (show _ < 20; omega)) rfl rfl ?_
      refine ab_gen (fun u2 e2 => ?_)
      have P2 : gP [26, 27, 29, 30, 115, 116] u u2 := by rw [e2]; exact R0.ui rfl (by decide)
      refine ab_aload_n X 0 d_MO_satisfied_5 rfl rfl ?_
      refine ab_ldcw X (v := 100000) (ab_in 1248 (by decide +kernel) (by decide +kernel)) d_MO_satisfied_6 ?_
      refine ab_putI X fp_MO_102 d_MO_satisfied_9 (by first | assumption | decide | (show _ < 124; omega) | (show _ < 61; omega) | (show _ < 20; omega)) rfl rfl ?_
      refine ab_gen (fun u9 e9 => ?_)
      have P9 : gP [26, 27, 29, 30, 115, 116] u u9 := by rw [e9]; exact P2.ui rfl (by decide)
      refine ab_aload_n X 0 d_MO_satisfied_12 rfl rfl ?_
      refine ab_gR X fl_MO_45 d_MO_satisfied_13 (by first | assumption | decide | (show _ < 124; omega) | (show _ < 61; omega) | (show _ < 20; omega)) (P9.1.mo11) ?_
      refine ab_iload_n X 2 d_MO_satisfied_16 rfl rfl ?_
      refine ab_iald X (3 * p1 + j) ⟨rfl, rfl⟩ d_MO_satisfied_17 (by first | assumption | decide | (show _ < 124; omega) | (show _ < 61; omega) | (show _ < 20; omega)) (rfl) (show 3 * p1 + j < 72 by omega) (ab_ln_lt _ _) ?_
      refine ab_top (P9.ai (by decide) ew) ?_
      refine ab_istore4 X 0 1 2 3 d_MO_satisfied_18 (by decide) rfl rfl rfl rfl rfl rfl rfl rfl ?_
      refine ab_aload_n X 1 d_MO_satisfied_20 rfl rfl ?_
      refine ab_gR X fl_MO_42 d_MO_satisfied_21 (by first | assumption | decide | (show _ < 124; omega) | (show _ < 61; omega) | (show _ < 20; omega)) (P9.1.mo10) ?_
      refine ab_iconst (v := 4) X d_MO_satisfied_24 (by decide) ?_
      refine ab_iload_n X 2 d_MO_satisfied_25 rfl rfl ?_
      refine ab_imul X d_MO_satisfied_26 ?_
      refine ab_iald X (4 * p1) ⟨rfl, rfl⟩ d_MO_satisfied_27 (by first | assumption | decide | (show _ < 124; omega) | (show _ < 61; omega) | (show _ < 20; omega)) (nI_4m p1) (show 4 * p1 < 160 by omega) (ab_ln_lt _ _) ?_
      refine ab_top (P9.ai (by decide) ex) ?_
      refine ab_istore5 X 0 1 2 3 4 d_MO_satisfied_28 (by decide) rfl rfl rfl rfl rfl rfl rfl rfl rfl rfl ?_
      refine ab_aload_n X 2 d_MO_satisfied_30 rfl rfl ?_
      refine ab_gR X fl_MO_42 d_MO_satisfied_31 (by first | assumption | decide | (show _ < 124; omega) | (show _ < 61; omega) | (show _ < 20; omega)) (P9.1.mo10) ?_
      refine ab_iconst (v := 4) X d_MO_satisfied_34 (by decide) ?_
      refine ab_iload_n X 3 d_MO_satisfied_35 rfl rfl ?_
      refine ab_imul X d_MO_satisfied_36 ?_
      refine ab_iconst (v := 1) X d_MO_satisfied_37 (by decide) ?_
      refine ab_iadd X d_MO_satisfied_38 ?_
      refine ab_iald X (4 * p1 + 1) ⟨rfl, rfl⟩ d_MO_satisfied_39 (by first | assumption | decide | (show _ < 124; omega) | (show _ < 61; omega) | (show _ < 20; omega)) (nI_4b p1) (show 4 * p1 + 1 < 160 by omega) (ab_ln_lt _ _) ?_
      refine ab_top (P9.ai (by decide) ey) ?_
      refine ab_istore6 X 0 1 2 3 4 5 d_MO_satisfied_40 (by decide) rfl rfl rfl rfl rfl rfl rfl rfl rfl rfl rfl rfl ?_
      refine ab_aload_n X 3 d_MO_satisfied_42 rfl rfl ?_
      refine ab_callV (as := []) X (fun h => by cases h) (s_MO_newRow u9 P9.1) lk_MO_267 d_MO_satisfied_43 rfl rfl (by first | assumption | decide | (show _ < 124; omega) | (show _ < 61; omega) | (show _ < 20; omega)) ⟨by first | exact Nat.le_of_ble_eq_true rfl | (simp only [ab_rm]; omega), by first | exact Nat.le_of_ble_eq_true rfl | (simp only [ab_rm]; omega)⟩ ⟨by first | exact Nat.le_of_ble_eq_true rfl | (simp only [ab_rm]; omega), by first | exact Nat.le_of_ble_eq_true rfl | (simp only [ab_rm]; omega)⟩ (Nat.le_of_ble_eq_true rfl) (fun u43 r43 h43 => ?_)
      obtain ⟨⟨q43, r43⟩, rfl⟩ := h43
      have P43 := P9.trans q43 (by decide)
      have b0 : bl q (u43.1 17 0 29) := Or.inl (by rw [q43.fi (by decide) rfl, e9, e2]; simp [ab_up])
      refine ab_iload X 2 d_MO_satisfied_46 rfl ?_
      refine ab_iconst (v := 1) X d_MO_satisfied_48 (by decide) ?_
      refine ab_icmp_eq X 66 d_MO_satisfied_49 rfl (fun hb => absurd hb ((by decide))) (fun _ => ?_)
      refine ab_iload X 2 d_MO_satisfied_52 rfl ?_
      refine ab_bipush (v := 11) X d_MO_satisfied_54 (by decide) ?_
      refine ab_icmp_eq X 66 d_MO_satisfied_56 rfl (fun hb => absurd hb ((by decide))) (fun _ => ?_)
      refine ab_iload X 2 d_MO_satisfied_59 rfl ?_
      refine ab_bipush (v := 12) X d_MO_satisfied_61 (by decide) ?_
      refine ab_icmp_ne X 107 d_MO_satisfied_63 rfl (fun _ => ?_) (fun hb => absurd hb ((by decide)))
      refine ab_iload X 2 d_MO_satisfied_107 rfl ?_
      refine ab_iconst (v := 2) X d_MO_satisfied_109 (by decide) ?_
      refine ab_icmp_ne X 130 d_MO_satisfied_110 rfl (fun _ => ?_) (fun hb => absurd hb ((by decide)))
      refine ab_iload X 2 d_MO_satisfied_130 rfl ?_
      refine ab_iconst (v := 3) X d_MO_satisfied_132 (by decide) ?_
      refine ab_icmp_ne X 181 d_MO_satisfied_133 rfl (fun _ => ?_) (fun hb => absurd hb ((by decide)))
      refine ab_iload X 2 d_MO_satisfied_181 rfl ?_
      refine ab_iconst (v := 4) X d_MO_satisfied_183 (by decide) ?_
      refine ab_icmp_ne X 206 d_MO_satisfied_184 rfl (fun _ => ?_) (fun hb => absurd hb ((by decide)))
      refine ab_iload X 2 d_MO_satisfied_206 rfl ?_
      refine ab_iconst (v := 5) X d_MO_satisfied_208 (by decide) ?_
      refine ab_icmp_ne X 229 d_MO_satisfied_209 rfl (fun _ => ?_) (fun hb => absurd hb ((by decide)))
      refine ab_iload X 2 d_MO_satisfied_229 rfl ?_
      refine ab_bipush (v := 6) X d_MO_satisfied_231 (by decide) ?_
      refine ab_icmp_ne X 253 d_MO_satisfied_233 rfl (fun _ => ?_) (fun hb => absurd hb ((by decide)))
      refine ab_iload X 2 d_MO_satisfied_253 rfl ?_
      refine ab_bipush (v := 7) X d_MO_satisfied_255 (by decide) ?_
      refine ab_icmp_ne X 268 d_MO_satisfied_257 rfl (fun _ => ?_) (fun hb => absurd hb ((by decide)))
      refine ab_iload X 2 d_MO_satisfied_268 rfl ?_
      refine ab_bipush (v := 8) X d_MO_satisfied_270 (by decide) ?_
      refine ab_icmp_ne X 295 d_MO_satisfied_272 rfl (fun _ => ?_) (fun hb => absurd hb ((by decide)))
      refine ab_aload_n X 3 d_MO_satisfied_295 rfl rfl ?_
      refine ab_iload_n X 4 d_MO_satisfied_296 rfl rfl ?_
      refine ab_iload X 2 d_MO_satisfied_297 rfl ?_
      refine ab_iload X 1 d_MO_satisfied_299 rfl ?_
      refine ab_iload X 0 d_MO_satisfied_301 rfl ?_
      refine ab_callV (as := [ab_I (nI p1), ab_I (nI 21), ab_I (nI x), ab_I (nI y)]) X (fun h => by cases h) (s_MO_satisfiedMore21 u43 P kd ar cn lf ch W (T.fr P43 (by decide) (by decide) (by decide) (by decide) (by decide)) p1 hp hk (fun p a b => by have z := S p a b; simp only [P43.ai (a := 11) (by decide) rfl, P43.ai (a := 14) (by decide) rfl]; exact z) x y x1 x2 y1 y2 l0 l1 l2 q (by omega) b0 P43.1 (by omega)) lk_MO_291 d_MO_satisfied_303 rfl rfl (by first | assumption | decide | (show _ < 124; omega) | (show _ < 61; omega) | (show _ < 20; omega)) ⟨by first | exact Nat.le_of_ble_eq_true rfl | (simp only [ab_rm]; omega), by first | exact Nat.le_of_ble_eq_true rfl | (simp only [ab_rm]; omega)⟩ ⟨by first | exact Nat.le_of_ble_eq_true rfl | (simp only [ab_rm]; omega), by first | exact Nat.le_of_ble_eq_true rfl | (simp only [ab_rm]; omega)⟩ (Nat.le_of_ble_eq_true rfl) (fun u303 r303 h303 => ?_)
      obtain ⟨⟨q303, b303⟩, rfl⟩ := h303
      have P303 := P43.trans q303 (by decide)
      refine ab_lv (List.forall_mem_cons.mpr ⟨List.mem_of_getElem? (i := 3) rfl, List.forall_mem_cons.mpr ⟨List.mem_of_getElem? (i := 4) rfl, List.forall_mem_cons.mpr ⟨List.mem_of_getElem? (i := 5) rfl, fun _ h => absurd h List.not_mem_nil⟩⟩⟩) ?_
      exact fin _ P303 b303
    ·
      refine ab_aload_n X 0 d_MO_satisfied_0 rfl rfl ?_
      refine ab_iconst (v := (-1)) X d_MO_satisfied_1 (by decide) ?_
      refine ab_putI X fp_MO_99 d_MO_satisfied_2 (by first | assumption | decide | (show _ < 124; omega) | (show _ < 61; omega) | (show _ < 20; omega)) rfl rfl ?_
      refine ab_gen (fun u2 e2 => ?_)
      have P2 : gP [26, 27, 29, 30, 115, 116] u u2 := by rw [e2]; exact R0.ui rfl (by decide)
      refine ab_aload_n X 0 d_MO_satisfied_5 rfl rfl ?_
      refine ab_ldcw X (v := 100000) (ab_in 1248 (by decide +kernel) (by decide +kernel)) d_MO_satisfied_6 ?_
      refine ab_putI X fp_MO_102 d_MO_satisfied_9 (by first | assumption | decide | (show _ < 124; omega) | (show _ < 61; omega) | (show _ < 20; omega)) rfl rfl ?_
      refine ab_gen (fun u9 e9 => ?_)
      have P9 : gP [26, 27, 29, 30, 115, 116] u u9 := by rw [e9]; exact P2.ui rfl (by decide)
      refine ab_aload_n X 0 d_MO_satisfied_12 rfl rfl ?_
      refine ab_gR X fl_MO_45 d_MO_satisfied_13 (by first | assumption | decide | (show _ < 124; omega) | (show _ < 61; omega) | (show _ < 20; omega)) (P9.1.mo11) ?_
      refine ab_iload_n X 2 d_MO_satisfied_16 rfl rfl ?_
      refine ab_iald X (3 * p1 + j) ⟨rfl, rfl⟩ d_MO_satisfied_17 (by first | assumption | decide | (show _ < 124; omega) | (show _ < 61; omega) | (show _ < 20; omega)) (rfl) (show 3 * p1 + j < 72 by omega) (ab_ln_lt _ _) ?_
      refine ab_top (P9.ai (by decide) ew) ?_
      refine ab_istore4 X 0 1 2 3 d_MO_satisfied_18 (by decide) rfl rfl rfl rfl rfl rfl rfl rfl ?_
      refine ab_aload_n X 1 d_MO_satisfied_20 rfl rfl ?_
      refine ab_gR X fl_MO_42 d_MO_satisfied_21 (by first | assumption | decide | (show _ < 124; omega) | (show _ < 61; omega) | (show _ < 20; omega)) (P9.1.mo10) ?_
      refine ab_iconst (v := 4) X d_MO_satisfied_24 (by decide) ?_
      refine ab_iload_n X 2 d_MO_satisfied_25 rfl rfl ?_
      refine ab_imul X d_MO_satisfied_26 ?_
      refine ab_iald X (4 * p1) ⟨rfl, rfl⟩ d_MO_satisfied_27 (by first | assumption | decide | (show _ < 124; omega) | (show _ < 61; omega) | (show _ < 20; omega)) (nI_4m p1) (show 4 * p1 < 160 by omega) (ab_ln_lt _ _) ?_
      refine ab_top (P9.ai (by decide) ex) ?_
      refine ab_istore5 X 0 1 2 3 4 d_MO_satisfied_28 (by decide) rfl rfl rfl rfl rfl rfl rfl rfl rfl rfl ?_
      refine ab_aload_n X 2 d_MO_satisfied_30 rfl rfl ?_
      refine ab_gR X fl_MO_42 d_MO_satisfied_31 (by first | assumption | decide | (show _ < 124; omega) | (show _ < 61; omega) | (show _ < 20; omega)) (P9.1.mo10) ?_
      refine ab_iconst (v := 4) X d_MO_satisfied_34 (by decide) ?_
      refine ab_iload_n X 3 d_MO_satisfied_35 rfl rfl ?_
      refine ab_imul X d_MO_satisfied_36 ?_
      refine ab_iconst (v := 1) X d_MO_satisfied_37 (by decide) ?_
      refine ab_iadd X d_MO_satisfied_38 ?_
      refine ab_iald X (4 * p1 + 1) ⟨rfl, rfl⟩ d_MO_satisfied_39 (by first | assumption | decide | (show _ < 124; omega) | (show _ < 61; omega) | (show _ < 20; omega)) (nI_4b p1) (show 4 * p1 + 1 < 160 by omega) (ab_ln_lt _ _) ?_
      refine ab_top (P9.ai (by decide) ey) ?_
      refine ab_istore6 X 0 1 2 3 4 5 d_MO_satisfied_40 (by decide) rfl rfl rfl rfl rfl rfl rfl rfl rfl rfl rfl rfl ?_
      refine ab_aload_n X 3 d_MO_satisfied_42 rfl rfl ?_
      refine ab_callV (as := []) X (fun h => by cases h) (s_MO_newRow u9 P9.1) lk_MO_267 d_MO_satisfied_43 rfl rfl (by first | assumption | decide | (show _ < 124; omega) | (show _ < 61; omega) | (show _ < 20; omega)) ⟨by first | exact Nat.le_of_ble_eq_true rfl | (simp only [ab_rm]; omega), by first | exact Nat.le_of_ble_eq_true rfl | (simp only [ab_rm]; omega)⟩ ⟨by first | exact Nat.le_of_ble_eq_true rfl | (simp only [ab_rm]; omega), by first | exact Nat.le_of_ble_eq_true rfl | (simp only [ab_rm]; omega)⟩ (Nat.le_of_ble_eq_true rfl) (fun u43 r43 h43 => ?_)
      obtain ⟨⟨q43, r43⟩, rfl⟩ := h43
      have P43 := P9.trans q43 (by decide)
      have b0 : bl q (u43.1 17 0 29) := Or.inl (by rw [q43.fi (by decide) rfl, e9, e2]; simp [ab_up])
      refine ab_iload X 2 d_MO_satisfied_46 rfl ?_
      refine ab_iconst (v := 1) X d_MO_satisfied_48 (by decide) ?_
      refine ab_icmp_eq X 66 d_MO_satisfied_49 rfl (fun hb => absurd hb ((by decide))) (fun _ => ?_)
      refine ab_iload X 2 d_MO_satisfied_52 rfl ?_
      refine ab_bipush (v := 11) X d_MO_satisfied_54 (by decide) ?_
      refine ab_icmp_eq X 66 d_MO_satisfied_56 rfl (fun hb => absurd hb ((by decide))) (fun _ => ?_)
      refine ab_iload X 2 d_MO_satisfied_59 rfl ?_
      refine ab_bipush (v := 12) X d_MO_satisfied_61 (by decide) ?_
      refine ab_icmp_ne X 107 d_MO_satisfied_63 rfl (fun _ => ?_) (fun hb => absurd hb ((by decide)))
      refine ab_iload X 2 d_MO_satisfied_107 rfl ?_
      refine ab_iconst (v := 2) X d_MO_satisfied_109 (by decide) ?_
      refine ab_icmp_ne X 130 d_MO_satisfied_110 rfl (fun _ => ?_) (fun hb => absurd hb ((by decide)))
      refine ab_iload X 2 d_MO_satisfied_130 rfl ?_
      refine ab_iconst (v := 3) X d_MO_satisfied_132 (by decide) ?_
      refine ab_icmp_ne X 181 d_MO_satisfied_133 rfl (fun _ => ?_) (fun hb => absurd hb ((by decide)))
      refine ab_iload X 2 d_MO_satisfied_181 rfl ?_
      refine ab_iconst (v := 4) X d_MO_satisfied_183 (by decide) ?_
      refine ab_icmp_ne X 206 d_MO_satisfied_184 rfl (fun _ => ?_) (fun hb => absurd hb ((by decide)))
      refine ab_iload X 2 d_MO_satisfied_206 rfl ?_
      refine ab_iconst (v := 5) X d_MO_satisfied_208 (by decide) ?_
      refine ab_icmp_ne X 229 d_MO_satisfied_209 rfl (fun _ => ?_) (fun hb => absurd hb ((by decide)))
      refine ab_iload X 2 d_MO_satisfied_229 rfl ?_
      refine ab_bipush (v := 6) X d_MO_satisfied_231 (by decide) ?_
      refine ab_icmp_ne X 253 d_MO_satisfied_233 rfl (fun _ => ?_) (fun hb => absurd hb ((by decide)))
      refine ab_iload X 2 d_MO_satisfied_253 rfl ?_
      refine ab_bipush (v := 7) X d_MO_satisfied_255 (by decide) ?_
      refine ab_icmp_ne X 268 d_MO_satisfied_257 rfl (fun _ => ?_) (fun hb => absurd hb ((by decide)))
      refine ab_iload X 2 d_MO_satisfied_268 rfl ?_
      refine ab_bipush (v := 8) X d_MO_satisfied_270 (by decide) ?_
      refine ab_icmp_ne X 295 d_MO_satisfied_272 rfl (fun _ => ?_) (fun hb => absurd hb ((by decide)))
      refine ab_aload_n X 3 d_MO_satisfied_295 rfl rfl ?_
      refine ab_iload_n X 4 d_MO_satisfied_296 rfl rfl ?_
      refine ab_iload X 2 d_MO_satisfied_297 rfl ?_
      refine ab_iload X 1 d_MO_satisfied_299 rfl ?_
      refine ab_iload X 0 d_MO_satisfied_301 rfl ?_
      refine ab_callV (as := [ab_I (nI p1), ab_I (nI 22), ab_I (nI x), ab_I (nI y)]) X (fun h => by cases h) (s_MO_satisfiedMore22 u43 P kd ar cn lf ch W (T.fr P43 (by decide) (by decide) (by decide) (by decide) (by decide)) p1 hp hk (fun p a b => by have z := S p a b; simp only [P43.ai (a := 11) (by decide) rfl, P43.ai (a := 14) (by decide) rfl]; exact z) x y x1 x2 y1 y2 l0 l1 l2 q (by omega) b0 P43.1 (by omega)) lk_MO_291 d_MO_satisfied_303 rfl rfl (by first | assumption | decide | (show _ < 124; omega) | (show _ < 61; omega) | (show _ < 20; omega)) ⟨by first | exact Nat.le_of_ble_eq_true rfl | (simp only [ab_rm]; omega), by first | exact Nat.le_of_ble_eq_true rfl | (simp only [ab_rm]; omega)⟩ ⟨by first | exact Nat.le_of_ble_eq_true rfl | (simp only [ab_rm]; omega), by first | exact Nat.le_of_ble_eq_true rfl | (simp only [ab_rm]; omega)⟩ (Nat.le_of_ble_eq_true rfl) (fun u303 r303 h303 => ?_)
      obtain ⟨⟨q303, b303⟩, rfl⟩ := h303
      have P303 := P43.trans q303 (by decide)
      refine ab_lv (List.forall_mem_cons.mpr ⟨List.mem_of_getElem? (i := 3) rfl, List.forall_mem_cons.mpr ⟨List.mem_of_getElem? (i := 4) rfl, List.forall_mem_cons.mpr ⟨List.mem_of_getElem? (i := 5) rfl, fun _ h => absurd h List.not_mem_nil⟩⟩⟩) ?_
      exact fin _ P303 b303
    ·
      refine ab_aload_n X 0 d_MO_satisfied_0 rfl rfl ?_
      refine ab_iconst (v := (-1)) X d_MO_satisfied_1 (by decide) ?_
      refine ab_putI X fp_MO_99 d_MO_satisfied_2 (by first | assumption | decide | (show _ < 124; omega) | (show _ < 61; omega) | (show _ < 20; omega)) rfl rfl ?_
      refine ab_gen (fun u2 e2 => ?_)
      have P2 : gP [26, 27, 29, 30, 115, 116] u u2 := by rw [e2]; exact R0.ui rfl (by decide)
      refine ab_aload_n X 0 d_MO_satisfied_5 rfl rfl ?_
      refine ab_ldcw X (v := 100000) (ab_in 1248 (by decide +kernel) (by decide +kernel)) d_MO_satisfied_6 ?_
      refine ab_putI X fp_MO_102 d_MO_satisfied_9 (by first | assumption | decide | (show _ < 124; omega) | (show _ < 61; omega) | (show _ < 20; omega)) rfl rfl ?_
      refine ab_gen (fun u9 e9 => ?_)
      have P9 : gP [26, 27, 29, 30, 115, 116] u u9 := by rw [e9]; exact P2.ui rfl (by decide)
      refine ab_aload_n X 0 d_MO_satisfied_12 rfl rfl ?_
      refine ab_gR X fl_MO_45 d_MO_satisfied_13 (by first | assumption | decide | (show _ < 124; omega) | (show _ < 61; omega) | (show _ < 20; omega)) (P9.1.mo11) ?_
      refine ab_iload_n X 2 d_MO_satisfied_16 rfl rfl ?_
      refine ab_iald X (3 * p1 + j) ⟨rfl, rfl⟩ d_MO_satisfied_17 (by first | assumption | decide | (show _ < 124; omega) | (show _ < 61; omega) | (show _ < 20; omega)) (rfl) (show 3 * p1 + j < 72 by omega) (ab_ln_lt _ _) ?_
      refine ab_top (P9.ai (by decide) ew) ?_
      refine ab_istore4 X 0 1 2 3 d_MO_satisfied_18 (by decide) rfl rfl rfl rfl rfl rfl rfl rfl ?_
      refine ab_aload_n X 1 d_MO_satisfied_20 rfl rfl ?_
      refine ab_gR X fl_MO_42 d_MO_satisfied_21 (by first | assumption | decide | (show _ < 124; omega) | (show _ < 61; omega) | (show _ < 20; omega)) (P9.1.mo10) ?_
      refine ab_iconst (v := 4) X d_MO_satisfied_24 (by decide) ?_
      refine ab_iload_n X 2 d_MO_satisfied_25 rfl rfl ?_
      refine ab_imul X d_MO_satisfied_26 ?_
      refine ab_iald X (4 * p1) ⟨rfl, rfl⟩ d_MO_satisfied_27 (by first | assumption | decide | (show _ < 124; omega) | (show _ < 61; omega) | (show _ < 20; omega)) (nI_4m p1) (show 4 * p1 < 160 by omega) (ab_ln_lt _ _) ?_
      refine ab_top (P9.ai (by decide) ex) ?_
      refine ab_istore5 X 0 1 2 3 4 d_MO_satisfied_28 (by decide) rfl rfl rfl rfl rfl rfl rfl rfl rfl rfl ?_
      refine ab_aload_n X 2 d_MO_satisfied_30 rfl rfl ?_
      refine ab_gR X fl_MO_42 d_MO_satisfied_31 (by first | assumption | decide | (show _ < 124; omega) | (show _ < 61; omega) | (show _ < 20; omega)) (P9.1.mo10) ?_
      refine ab_iconst (v := 4) X d_MO_satisfied_34 (by decide) ?_
      refine ab_iload_n X 3 d_MO_satisfied_35 rfl rfl ?_
      refine ab_imul X d_MO_satisfied_36 ?_
      refine ab_iconst (v := 1) X d_MO_satisfied_37 (by decide) ?_
      refine ab_iadd X d_MO_satisfied_38 ?_
      refine ab_iald X (4 * p1 + 1) ⟨rfl, rfl⟩ d_MO_satisfied_39 (by first | assumption | decide | (show _ < 124; omega) | (show _ < 61; omega) | (show _ < 20; omega)) (nI_4b p1) (show 4 * p1 + 1 < 160 by omega) (ab_ln_lt _ _) ?_
      refine ab_top (P9.ai (by decide) ey) ?_
      refine ab_istore6 X 0 1 2 3 4 5 d_MO_satisfied_40 (by decide) rfl rfl rfl rfl rfl rfl rfl rfl rfl rfl rfl rfl ?_
      refine ab_aload_n X 3 d_MO_satisfied_42 rfl rfl ?_
      refine ab_callV (as := []) X (fun h => by cases h) (s_MO_newRow u9 P9.1) lk_MO_267 d_MO_satisfied_43 rfl rfl (by first | assumption | decide | (show _ < 124; omega) | (show _ < 61; omega) | (show _ < 20; omega)) ⟨by first | exact Nat.le_of_ble_eq_true rfl | (simp only [ab_rm]; omega), by first | exact Nat.le_of_ble_eq_true rfl | (simp only [ab_rm]; omega)⟩ ⟨by first | exact Nat.le_of_ble_eq_true rfl | (simp only [ab_rm]; omega), by first | exact Nat.le_of_ble_eq_true rfl | (simp only [ab_rm]; omega)⟩ (Nat.le_of_ble_eq_true rfl) (fun u43 r43 h43 => ?_)
      obtain ⟨⟨q43, r43⟩, rfl⟩ := h43
      have P43 := P9.trans q43 (by decide)
      have b0 : bl q (u43.1 17 0 29) := Or.inl (by rw [q43.fi (by decide) rfl, e9, e2]; simp [ab_up])
      refine ab_iload X 2 d_MO_satisfied_46 rfl ?_
      refine ab_iconst (v := 1) X d_MO_satisfied_48 (by decide) ?_
      refine ab_icmp_eq X 66 d_MO_satisfied_49 rfl (fun hb => absurd hb ((by decide))) (fun _ => ?_)
      refine ab_iload X 2 d_MO_satisfied_52 rfl ?_
      refine ab_bipush (v := 11) X d_MO_satisfied_54 (by decide) ?_
      refine ab_icmp_eq X 66 d_MO_satisfied_56 rfl (fun hb => absurd hb ((by decide))) (fun _ => ?_)
      refine ab_iload X 2 d_MO_satisfied_59 rfl ?_
      refine ab_bipush (v := 12) X d_MO_satisfied_61 (by decide) ?_
      refine ab_icmp_ne X 107 d_MO_satisfied_63 rfl (fun _ => ?_) (fun hb => absurd hb ((by decide)))
      refine ab_iload X 2 d_MO_satisfied_107 rfl ?_
      refine ab_iconst (v := 2) X d_MO_satisfied_109 (by decide) ?_
      refine ab_icmp_ne X 130 d_MO_satisfied_110 rfl (fun _ => ?_) (fun hb => absurd hb ((by decide)))
      refine ab_iload X 2 d_MO_satisfied_130 rfl ?_
      refine ab_iconst (v := 3) X d_MO_satisfied_132 (by decide) ?_
      refine ab_icmp_ne X 181 d_MO_satisfied_133 rfl (fun _ => ?_) (fun hb => absurd hb ((by decide)))
      refine ab_iload X 2 d_MO_satisfied_181 rfl ?_
      refine ab_iconst (v := 4) X d_MO_satisfied_183 (by decide) ?_
      refine ab_icmp_ne X 206 d_MO_satisfied_184 rfl (fun _ => ?_) (fun hb => absurd hb ((by decide)))
      refine ab_iload X 2 d_MO_satisfied_206 rfl ?_
      refine ab_iconst (v := 5) X d_MO_satisfied_208 (by decide) ?_
      refine ab_icmp_ne X 229 d_MO_satisfied_209 rfl (fun _ => ?_) (fun hb => absurd hb ((by decide)))
      refine ab_iload X 2 d_MO_satisfied_229 rfl ?_
      refine ab_bipush (v := 6) X d_MO_satisfied_231 (by decide) ?_
      refine ab_icmp_ne X 253 d_MO_satisfied_233 rfl (fun _ => ?_) (fun hb => absurd hb ((by decide)))
      refine ab_iload X 2 d_MO_satisfied_253 rfl ?_
      refine ab_bipush (v := 7) X d_MO_satisfied_255 (by decide) ?_
      refine ab_icmp_ne X 268 d_MO_satisfied_257 rfl (fun _ => ?_) (fun hb => absurd hb ((by decide)))
      refine ab_iload X 2 d_MO_satisfied_268 rfl ?_
      refine ab_bipush (v := 8) X d_MO_satisfied_270 (by decide) ?_
      refine ab_icmp_ne X 295 d_MO_satisfied_272 rfl (fun _ => ?_) (fun hb => absurd hb ((by decide)))
      refine ab_aload_n X 3 d_MO_satisfied_295 rfl rfl ?_
      refine ab_iload_n X 4 d_MO_satisfied_296 rfl rfl ?_
      refine ab_iload X 2 d_MO_satisfied_297 rfl ?_
      refine ab_iload X 1 d_MO_satisfied_299 rfl ?_
      refine ab_iload X 0 d_MO_satisfied_301 rfl ?_
      refine ab_callV (as := [ab_I (nI p1), ab_I (nI 23), ab_I (nI x), ab_I (nI y)]) X (fun h => by cases h) (s_MO_satisfiedMore23 u43 P kd ar cn lf ch W (T.fr P43 (by decide) (by decide) (by decide) (by decide) (by decide)) p1 hp hk (fun p a b => by have z := S p a b; simp only [P43.ai (a := 11) (by decide) rfl, P43.ai (a := 14) (by decide) rfl]; exact z) x y x1 x2 y1 y2 l0 l1 l2 q (by omega) b0 P43.1 (by omega)) lk_MO_291 d_MO_satisfied_303 rfl rfl (by first | assumption | decide | (show _ < 124; omega) | (show _ < 61; omega) | (show _ < 20; omega)) ⟨by first | exact Nat.le_of_ble_eq_true rfl | (simp only [ab_rm]; omega), by first | exact Nat.le_of_ble_eq_true rfl | (simp only [ab_rm]; omega)⟩ ⟨by first | exact Nat.le_of_ble_eq_true rfl | (simp only [ab_rm]; omega), by first | exact Nat.le_of_ble_eq_true rfl | (simp only [ab_rm]; omega)⟩ (Nat.le_of_ble_eq_true rfl) (fun u303 r303 h303 => ?_)
      obtain ⟨⟨q303, b303⟩, rfl⟩ := h303
      have P303 := P43.trans q303 (by decide)
      refine ab_lv (List.forall_mem_cons.mpr ⟨List.mem_of_getElem? (i := 3) rfl, List.forall_mem_cons.mpr ⟨List.mem_of_getElem? (i := 4) rfl, List.forall_mem_cons.mpr ⟨List.mem_of_getElem? (i := 5) rfl, fun _ h => absurd h List.not_mem_nil⟩⟩⟩) ?_
      exact fin _ P303 b303
  · rcases hw with rfl | rfl
    ·
      refine ab_aload_n X 0 d_MO_satisfied_0 rfl rfl ?_
      refine ab_iconst (v := (-1)) X d_MO_satisfied_1 (by decide) ?_
      refine ab_putI X fp_MO_99 d_MO_satisfied_2 (by first | assumption | decide | (show _ < 124; omega) | (show _ < 61; omega) | (show _ < 20; omega)) rfl rfl ?_
      refine ab_gen (fun u2 e2 => ?_)
      have P2 : gP [26, 27, 29, 30, 115, 116] u u2 := by rw [e2]; exact R0.ui rfl (by decide)
      refine ab_aload_n X 0 d_MO_satisfied_5 rfl rfl ?_
      refine ab_ldcw X (v := 100000) (ab_in 1248 (by decide +kernel) (by decide +kernel)) d_MO_satisfied_6 ?_
      refine ab_putI X fp_MO_102 d_MO_satisfied_9 (by first | assumption | decide | (show _ < 124; omega) | (show _ < 61; omega) | (show _ < 20; omega)) rfl rfl ?_
      refine ab_gen (fun u9 e9 => ?_)
      have P9 : gP [26, 27, 29, 30, 115, 116] u u9 := by rw [e9]; exact P2.ui rfl (by decide)
      refine ab_aload_n X 0 d_MO_satisfied_12 rfl rfl ?_
      refine ab_gR X fl_MO_45 d_MO_satisfied_13 (by first | assumption | decide | (show _ < 124; omega) | (show _ < 61; omega) | (show _ < 20; omega)) (P9.1.mo11) ?_
      refine ab_iload_n X 2 d_MO_satisfied_16 rfl rfl ?_
      refine ab_iald X (3 * p1 + j) ⟨rfl, rfl⟩ d_MO_satisfied_17 (by first | assumption | decide | (show _ < 124; omega) | (show _ < 61; omega) | (show _ < 20; omega)) (rfl) (show 3 * p1 + j < 72 by omega) (ab_ln_lt _ _) ?_
      refine ab_top (P9.ai (by decide) ew) ?_
      refine ab_istore4 X 0 1 2 3 d_MO_satisfied_18 (by decide) rfl rfl rfl rfl rfl rfl rfl rfl ?_
      refine ab_aload_n X 1 d_MO_satisfied_20 rfl rfl ?_
      refine ab_gR X fl_MO_42 d_MO_satisfied_21 (by first | assumption | decide | (show _ < 124; omega) | (show _ < 61; omega) | (show _ < 20; omega)) (P9.1.mo10) ?_
      refine ab_iconst (v := 4) X d_MO_satisfied_24 (by decide) ?_
      refine ab_iload_n X 2 d_MO_satisfied_25 rfl rfl ?_
      refine ab_imul X d_MO_satisfied_26 ?_
      refine ab_iald X (4 * p1) ⟨rfl, rfl⟩ d_MO_satisfied_27 (by first | assumption | decide | (show _ < 124; omega) | (show _ < 61; omega) | (show _ < 20; omega)) (nI_4m p1) (show 4 * p1 < 160 by omega) (ab_ln_lt _ _) ?_
      refine ab_istore5 X 0 1 2 3 4 d_MO_satisfied_28 (by decide) rfl rfl rfl rfl rfl rfl rfl rfl rfl rfl ?_
      refine ab_aload_n X 2 d_MO_satisfied_30 rfl rfl ?_
      refine ab_gR X fl_MO_42 d_MO_satisfied_31 (by first | assumption | decide | (show _ < 124; omega) | (show _ < 61; omega) | (show _ < 20; omega)) (P9.1.mo10) ?_
      refine ab_iconst (v := 4) X d_MO_satisfied_34 (by decide) ?_
      refine ab_iload_n X 3 d_MO_satisfied_35 rfl rfl ?_
      refine ab_imul X d_MO_satisfied_36 ?_
      refine ab_iconst (v := 1) X d_MO_satisfied_37 (by decide) ?_
      refine ab_iadd X d_MO_satisfied_38 ?_
      refine ab_iald X (4 * p1 + 1) ⟨rfl, rfl⟩ d_MO_satisfied_39 (by first | assumption | decide | (show _ < 124; omega) | (show _ < 61; omega) | (show _ < 20; omega)) (nI_4b p1) (show 4 * p1 + 1 < 160 by omega) (ab_ln_lt _ _) ?_
      refine ab_istore6 X 0 1 2 3 4 5 d_MO_satisfied_40 (by decide) rfl rfl rfl rfl rfl rfl rfl rfl rfl rfl rfl rfl ?_
      refine ab_aload_n X 3 d_MO_satisfied_42 rfl rfl ?_
      refine ab_callV (as := []) X (fun h => by cases h) (s_MO_newRow u9 P9.1) lk_MO_267 d_MO_satisfied_43 rfl rfl (by first | assumption | decide | (show _ < 124; omega) | (show _ < 61; omega) | (show _ < 20; omega)) ⟨by first | exact Nat.le_of_ble_eq_true rfl | (simp only [ab_rm]; omega), by first | exact Nat.le_of_ble_eq_true rfl | (simp only [ab_rm]; omega)⟩ ⟨by first | exact Nat.le_of_ble_eq_true rfl | (simp only [ab_rm]; omega), by first | exact Nat.le_of_ble_eq_true rfl | (simp only [ab_rm]; omega)⟩ (Nat.le_of_ble_eq_true rfl) (fun u43 r43 h43 => ?_)
      obtain ⟨⟨q43, r43⟩, rfl⟩ := h43
      have P43 := P9.trans q43 (by decide)
      have b0 : bl q (u43.1 17 0 29) := Or.inl (by rw [q43.fi (by decide) rfl, e9, e2]; simp [ab_up])
      refine ab_iload X 2 d_MO_satisfied_46 rfl ?_
      refine ab_iconst (v := 1) X d_MO_satisfied_48 (by decide) ?_
      refine ab_icmp_eq X 66 d_MO_satisfied_49 rfl (fun hb => absurd hb ((by decide))) (fun _ => ?_)
      refine ab_iload X 2 d_MO_satisfied_52 rfl ?_
      refine ab_bipush (v := 11) X d_MO_satisfied_54 (by decide) ?_
      refine ab_icmp_eq X 66 d_MO_satisfied_56 rfl (fun hb => absurd hb ((by decide))) (fun _ => ?_)
      refine ab_iload X 2 d_MO_satisfied_59 rfl ?_
      refine ab_bipush (v := 12) X d_MO_satisfied_61 (by decide) ?_
      refine ab_icmp_ne X 107 d_MO_satisfied_63 rfl (fun _ => ?_) (fun hb => absurd hb ((by decide)))
      refine ab_iload X 2 d_MO_satisfied_107 rfl ?_
      refine ab_iconst (v := 2) X d_MO_satisfied_109 (by decide) ?_
      refine ab_icmp_ne X 130 d_MO_satisfied_110 rfl (fun _ => ?_) (fun hb => absurd hb ((by decide)))
      refine ab_iload X 2 d_MO_satisfied_130 rfl ?_
      refine ab_iconst (v := 3) X d_MO_satisfied_132 (by decide) ?_
      refine ab_icmp_ne X 181 d_MO_satisfied_133 rfl (fun _ => ?_) (fun hb => absurd hb ((by decide)))
      refine ab_iload X 2 d_MO_satisfied_181 rfl ?_
      refine ab_iconst (v := 4) X d_MO_satisfied_183 (by decide) ?_
      refine ab_icmp_ne X 206 d_MO_satisfied_184 rfl (fun _ => ?_) (fun hb => absurd hb ((by decide)))
      refine ab_iload X 2 d_MO_satisfied_206 rfl ?_
      refine ab_iconst (v := 5) X d_MO_satisfied_208 (by decide) ?_
      refine ab_icmp_ne X 229 d_MO_satisfied_209 rfl (fun _ => ?_) (fun hb => absurd hb ((by decide)))
      refine ab_iload X 2 d_MO_satisfied_229 rfl ?_
      refine ab_bipush (v := 6) X d_MO_satisfied_231 (by decide) ?_
      refine ab_icmp_ne X 253 d_MO_satisfied_233 rfl (fun _ => ?_) (fun hb => absurd hb ((by decide)))
      refine ab_iload X 2 d_MO_satisfied_253 rfl ?_
      refine ab_bipush (v := 7) X d_MO_satisfied_255 (by decide) ?_
      refine ab_icmp_ne X 268 d_MO_satisfied_257 rfl (fun hb => absurd ((by decide)) hb) (fun _ => ?_)
      refine ab_aload_n X 3 d_MO_satisfied_260 rfl rfl ?_
      refine ab_iload_n X 4 d_MO_satisfied_261 rfl rfl ?_
      refine ab_callV (as := [ab_I (nI p1)]) X (fun h => by cases h) (s_MO_offerThreshold u43 P kd ar cn lf ch W (T.fr P43 (by decide) (by decide) (by decide) (by decide) (by decide)) p1 hp hk (fun p a b => by have z := S p a b; simp only [P43.ai (a := 11) (by decide) rfl, P43.ai (a := 14) (by decide) rfl]; exact z) q (by omega) b0 P43.1 (by omega)) lk_MO_288 d_MO_satisfied_262 rfl rfl (by first | assumption | decide | (show _ < 124; omega) | (show _ < 61; omega) | (show _ < 20; omega)) ⟨by first | exact Nat.le_of_ble_eq_true rfl | (simp only [ab_rm]; omega), by first | exact Nat.le_of_ble_eq_true rfl | (simp only [ab_rm]; omega)⟩ ⟨by first | exact Nat.le_of_ble_eq_true rfl | (simp only [ab_rm]; omega), by first | exact Nat.le_of_ble_eq_true rfl | (simp only [ab_rm]; omega)⟩ (Nat.le_of_ble_eq_true rfl) (fun u262 r262 h262 => ?_)
      obtain ⟨⟨q262, b262⟩, rfl⟩ := h262
      have P262 := P43.trans q262 (by decide)
      refine ab_goto X 306 d_MO_satisfied_265 rfl ?_
      refine ab_lv (List.forall_mem_cons.mpr ⟨List.mem_of_getElem? (i := 3) rfl, List.forall_mem_cons.mpr ⟨List.mem_of_getElem? (i := 4) rfl, List.forall_mem_cons.mpr ⟨List.mem_of_getElem? (i := 5) rfl, fun _ h => absurd h List.not_mem_nil⟩⟩⟩) ?_
      exact fin _ P262 b262
    ·
      refine ab_aload_n X 0 d_MO_satisfied_0 rfl rfl ?_
      refine ab_iconst (v := (-1)) X d_MO_satisfied_1 (by decide) ?_
      refine ab_putI X fp_MO_99 d_MO_satisfied_2 (by first | assumption | decide | (show _ < 124; omega) | (show _ < 61; omega) | (show _ < 20; omega)) rfl rfl ?_
      refine ab_gen (fun u2 e2 => ?_)
      have P2 : gP [26, 27, 29, 30, 115, 116] u u2 := by rw [e2]; exact R0.ui rfl (by decide)
      refine ab_aload_n X 0 d_MO_satisfied_5 rfl rfl ?_
      refine ab_ldcw X (v := 100000) (ab_in 1248 (by decide +kernel) (by decide +kernel)) d_MO_satisfied_6 ?_
      refine ab_putI X fp_MO_102 d_MO_satisfied_9 (by first | assumption | decide | (show _ < 124; omega) | (show _ < 61; omega) | (show _ < 20; omega)) rfl rfl ?_
      refine ab_gen (fun u9 e9 => ?_)
      have P9 : gP [26, 27, 29, 30, 115, 116] u u9 := by rw [e9]; exact P2.ui rfl (by decide)
      refine ab_aload_n X 0 d_MO_satisfied_12 rfl rfl ?_
      refine ab_gR X fl_MO_45 d_MO_satisfied_13 (by first | assumption | decide | (show _ < 124; omega) | (show _ < 61; omega) | (show _ < 20; omega)) (P9.1.mo11) ?_
      refine ab_iload_n X 2 d_MO_satisfied_16 rfl rfl ?_
      refine ab_iald X (3 * p1 + j) ⟨rfl, rfl⟩ d_MO_satisfied_17 (by first | assumption | decide | (show _ < 124; omega) | (show _ < 61; omega) | (show _ < 20; omega)) (rfl) (show 3 * p1 + j < 72 by omega) (ab_ln_lt _ _) ?_
      refine ab_top (P9.ai (by decide) ew) ?_
      refine ab_istore4 X 0 1 2 3 d_MO_satisfied_18 (by decide) rfl rfl rfl rfl rfl rfl rfl rfl ?_
      refine ab_aload_n X 1 d_MO_satisfied_20 rfl rfl ?_
      refine ab_gR X fl_MO_42 d_MO_satisfied_21 (by first | assumption | decide | (show _ < 124; omega) | (show _ < 61; omega) | (show _ < 20; omega)) (P9.1.mo10) ?_
      refine ab_iconst (v := 4) X d_MO_satisfied_24 (by decide) ?_
      refine ab_iload_n X 2 d_MO_satisfied_25 rfl rfl ?_
      refine ab_imul X d_MO_satisfied_26 ?_
      refine ab_iald X (4 * p1) ⟨rfl, rfl⟩ d_MO_satisfied_27 (by first | assumption | decide | (show _ < 124; omega) | (show _ < 61; omega) | (show _ < 20; omega)) (nI_4m p1) (show 4 * p1 < 160 by omega) (ab_ln_lt _ _) ?_
      refine ab_istore5 X 0 1 2 3 4 d_MO_satisfied_28 (by decide) rfl rfl rfl rfl rfl rfl rfl rfl rfl rfl ?_
      refine ab_aload_n X 2 d_MO_satisfied_30 rfl rfl ?_
      refine ab_gR X fl_MO_42 d_MO_satisfied_31 (by first | assumption | decide | (show _ < 124; omega) | (show _ < 61; omega) | (show _ < 20; omega)) (P9.1.mo10) ?_
      refine ab_iconst (v := 4) X d_MO_satisfied_34 (by decide) ?_
      refine ab_iload_n X 3 d_MO_satisfied_35 rfl rfl ?_
      refine ab_imul X d_MO_satisfied_36 ?_
      refine ab_iconst (v := 1) X d_MO_satisfied_37 (by decide) ?_
      refine ab_iadd X d_MO_satisfied_38 ?_
      refine ab_iald X (4 * p1 + 1) ⟨rfl, rfl⟩ d_MO_satisfied_39 (by first | assumption | decide | (show _ < 124; omega) | (show _ < 61; omega) | (show _ < 20; omega)) (nI_4b p1) (show 4 * p1 + 1 < 160 by omega) (ab_ln_lt _ _) ?_
      refine ab_istore6 X 0 1 2 3 4 5 d_MO_satisfied_40 (by decide) rfl rfl rfl rfl rfl rfl rfl rfl rfl rfl rfl rfl ?_
      refine ab_aload_n X 3 d_MO_satisfied_42 rfl rfl ?_
      refine ab_callV (as := []) X (fun h => by cases h) (s_MO_newRow u9 P9.1) lk_MO_267 d_MO_satisfied_43 rfl rfl (by first | assumption | decide | (show _ < 124; omega) | (show _ < 61; omega) | (show _ < 20; omega)) ⟨by first | exact Nat.le_of_ble_eq_true rfl | (simp only [ab_rm]; omega), by first | exact Nat.le_of_ble_eq_true rfl | (simp only [ab_rm]; omega)⟩ ⟨by first | exact Nat.le_of_ble_eq_true rfl | (simp only [ab_rm]; omega), by first | exact Nat.le_of_ble_eq_true rfl | (simp only [ab_rm]; omega)⟩ (Nat.le_of_ble_eq_true rfl) (fun u43 r43 h43 => ?_)
      obtain ⟨⟨q43, r43⟩, rfl⟩ := h43
      have P43 := P9.trans q43 (by decide)
      have b0 : bl q (u43.1 17 0 29) := Or.inl (by rw [q43.fi (by decide) rfl, e9, e2]; simp [ab_up])
      refine ab_iload X 2 d_MO_satisfied_46 rfl ?_
      refine ab_iconst (v := 1) X d_MO_satisfied_48 (by decide) ?_
      refine ab_icmp_eq X 66 d_MO_satisfied_49 rfl (fun hb => absurd hb ((by decide))) (fun _ => ?_)
      refine ab_iload X 2 d_MO_satisfied_52 rfl ?_
      refine ab_bipush (v := 11) X d_MO_satisfied_54 (by decide) ?_
      refine ab_icmp_eq X 66 d_MO_satisfied_56 rfl (fun hb => absurd hb ((by decide))) (fun _ => ?_)
      refine ab_iload X 2 d_MO_satisfied_59 rfl ?_
      refine ab_bipush (v := 12) X d_MO_satisfied_61 (by decide) ?_
      refine ab_icmp_ne X 107 d_MO_satisfied_63 rfl (fun _ => ?_) (fun hb => absurd hb ((by decide)))
      refine ab_iload X 2 d_MO_satisfied_107 rfl ?_
      refine ab_iconst (v := 2) X d_MO_satisfied_109 (by decide) ?_
      refine ab_icmp_ne X 130 d_MO_satisfied_110 rfl (fun _ => ?_) (fun hb => absurd hb ((by decide)))
      refine ab_iload X 2 d_MO_satisfied_130 rfl ?_
      refine ab_iconst (v := 3) X d_MO_satisfied_132 (by decide) ?_
      refine ab_icmp_ne X 181 d_MO_satisfied_133 rfl (fun _ => ?_) (fun hb => absurd hb ((by decide)))
      refine ab_iload X 2 d_MO_satisfied_181 rfl ?_
      refine ab_iconst (v := 4) X d_MO_satisfied_183 (by decide) ?_
      refine ab_icmp_ne X 206 d_MO_satisfied_184 rfl (fun _ => ?_) (fun hb => absurd hb ((by decide)))
      refine ab_iload X 2 d_MO_satisfied_206 rfl ?_
      refine ab_iconst (v := 5) X d_MO_satisfied_208 (by decide) ?_
      refine ab_icmp_ne X 229 d_MO_satisfied_209 rfl (fun _ => ?_) (fun hb => absurd hb ((by decide)))
      refine ab_iload X 2 d_MO_satisfied_229 rfl ?_
      refine ab_bipush (v := 6) X d_MO_satisfied_231 (by decide) ?_
      refine ab_icmp_ne X 253 d_MO_satisfied_233 rfl (fun _ => ?_) (fun hb => absurd hb ((by decide)))
      refine ab_iload X 2 d_MO_satisfied_253 rfl ?_
      refine ab_bipush (v := 7) X d_MO_satisfied_255 (by decide) ?_
      refine ab_icmp_ne X 268 d_MO_satisfied_257 rfl (fun _ => ?_) (fun hb => absurd hb ((by decide)))
      refine ab_iload X 2 d_MO_satisfied_268 rfl ?_
      refine ab_bipush (v := 8) X d_MO_satisfied_270 (by decide) ?_
      refine ab_icmp_ne X 295 d_MO_satisfied_272 rfl (fun _ => ?_) (fun hb => absurd hb ((by decide)))
      refine ab_aload_n X 3 d_MO_satisfied_295 rfl rfl ?_
      refine ab_iload_n X 4 d_MO_satisfied_296 rfl rfl ?_
      refine ab_iload X 2 d_MO_satisfied_297 rfl ?_
      refine ab_iload X 1 d_MO_satisfied_299 rfl ?_
      refine ab_iload X 0 d_MO_satisfied_301 rfl ?_
      refine ab_callV (as := [ab_I (nI p1), ab_I (nI 18), ab_I _, ab_I _]) X (fun h => by cases h) (s_MO_satisfiedMore18 u43 P kd ar cn lf ch W (T.fr P43 (by decide) (by decide) (by decide) (by decide) (by decide)) p1 hp hk (fun p a b => by have z := S p a b; simp only [P43.ai (a := 11) (by decide) rfl, P43.ai (a := 14) (by decide) rfl]; exact z) _ _ r43 q (by omega) b0 P43.1 (by omega)) lk_MO_291 d_MO_satisfied_303 rfl rfl (by first | assumption | decide | (show _ < 124; omega) | (show _ < 61; omega) | (show _ < 20; omega)) ⟨by first | exact Nat.le_of_ble_eq_true rfl | (simp only [ab_rm]; omega), by first | exact Nat.le_of_ble_eq_true rfl | (simp only [ab_rm]; omega)⟩ ⟨by first | exact Nat.le_of_ble_eq_true rfl | (simp only [ab_rm]; omega), by first | exact Nat.le_of_ble_eq_true rfl | (simp only [ab_rm]; omega)⟩ (Nat.le_of_ble_eq_true rfl) (fun u303 r303 h303 => ?_)
      obtain ⟨⟨q303, b303⟩, rfl⟩ := h303
      have P303 := P43.trans q303 (by decide)
      refine ab_lv (List.forall_mem_cons.mpr ⟨List.mem_of_getElem? (i := 3) rfl, List.forall_mem_cons.mpr ⟨List.mem_of_getElem? (i := 4) rfl, List.forall_mem_cons.mpr ⟨List.mem_of_getElem? (i := 5) rfl, fun _ h => absurd h List.not_mem_nil⟩⟩⟩) ?_
      exact fin _ P303 b303
theorem d_MO_dissatisfied_0 : decode b_MO_dissatisfied 0 = .ok (.aload_n 0, 1) := by decide +kernel
theorem d_MO_dissatisfied_1 : decode b_MO_dissatisfied 1 = .ok (.getfield 45, 3) := by decide +kernel
theorem d_MO_dissatisfied_4 : decode b_MO_dissatisfied 4 = .ok (.iload_n 1, 1) := by decide +kernel
theorem d_MO_dissatisfied_5 : decode b_MO_dissatisfied 5 = .ok (.invokestatic 195, 3) := by decide +kernel
theorem d_MO_dissatisfied_8 : decode b_MO_dissatisfied 8 = .ok (.iaload, 1) := by decide +kernel
theorem d_MO_dissatisfied_9 : decode b_MO_dissatisfied 9 = .ok (.istore_n 2, 1) := by decide +kernel
theorem d_MO_dissatisfied_10 : decode b_MO_dissatisfied 10 = .ok (.aload_n 0, 1) := by decide +kernel
theorem d_MO_dissatisfied_11 : decode b_MO_dissatisfied 11 = .ok (.invokevirtual 267, 3) := by decide +kernel
theorem d_MO_dissatisfied_14 : decode b_MO_dissatisfied 14 = .ok (.iload_n 2, 1) := by decide +kernel
theorem d_MO_dissatisfied_15 : decode b_MO_dissatisfied 15 = .ok (.iconst 1, 1) := by decide +kernel
theorem d_MO_dissatisfied_16 : decode b_MO_dissatisfied 16 = .ok (.if_icmp .eq 15, 3) := by decide +kernel
theorem d_MO_dissatisfied_19 : decode b_MO_dissatisfied 19 = .ok (.iload_n 2, 1) := by decide +kernel
theorem d_MO_dissatisfied_20 : decode b_MO_dissatisfied 20 = .ok (.bipush 8, 2) := by decide +kernel
theorem d_MO_dissatisfied_22 : decode b_MO_dissatisfied 22 = .ok (.if_icmp .eq 9, 3) := by decide +kernel
theorem d_MO_dissatisfied_25 : decode b_MO_dissatisfied 25 = .ok (.iload_n 2, 1) := by decide +kernel
theorem d_MO_dissatisfied_26 : decode b_MO_dissatisfied 26 = .ok (.bipush 6, 2) := by decide +kernel
theorem d_MO_dissatisfied_28 : decode b_MO_dissatisfied 28 = .ok (.if_icmp .ne 8, 3) := by decide +kernel
theorem d_MO_dissatisfied_31 : decode b_MO_dissatisfied 31 = .ok (.aload_n 0, 1) := by decide +kernel
theorem d_MO_dissatisfied_32 : decode b_MO_dissatisfied 32 = .ok (.iconst 0, 1) := by decide +kernel
theorem d_MO_dissatisfied_33 : decode b_MO_dissatisfied 33 = .ok (.invokevirtual 264, 3) := by decide +kernel
theorem d_MO_dissatisfied_36 : decode b_MO_dissatisfied 36 = .ok (.iload_n 2, 1) := by decide +kernel
theorem d_MO_dissatisfied_37 : decode b_MO_dissatisfied 37 = .ok (.iconst 5, 1) := by decide +kernel
theorem d_MO_dissatisfied_38 : decode b_MO_dissatisfied 38 = .ok (.if_icmp .ne 8, 3) := by decide +kernel
theorem d_MO_dissatisfied_41 : decode b_MO_dissatisfied 41 = .ok (.aload_n 0, 1) := by decide +kernel
theorem d_MO_dissatisfied_42 : decode b_MO_dissatisfied 42 = .ok (.iconst 1, 1) := by decide +kernel
theorem d_MO_dissatisfied_43 : decode b_MO_dissatisfied 43 = .ok (.invokevirtual 264, 3) := by decide +kernel
theorem d_MO_dissatisfied_46 : decode b_MO_dissatisfied 46 = .ok (.iload_n 2, 1) := by decide +kernel
theorem d_MO_dissatisfied_47 : decode b_MO_dissatisfied 47 = .ok (.iconst 5, 1) := by decide +kernel
theorem d_MO_dissatisfied_48 : decode b_MO_dissatisfied 48 = .ok (.if_icmp .ne 15, 3) := by decide +kernel
theorem d_MO_dissatisfied_51 : decode b_MO_dissatisfied 51 = .ok (.aload_n 0, 1) := by decide +kernel
theorem d_MO_dissatisfied_52 : decode b_MO_dissatisfied 52 = .ok (.aload_n 0, 1) := by decide +kernel
theorem d_MO_dissatisfied_53 : decode b_MO_dissatisfied 53 = .ok (.getfield 42, 3) := by decide +kernel
theorem d_MO_dissatisfied_56 : decode b_MO_dissatisfied 56 = .ok (.iconst 4, 1) := by decide +kernel
theorem d_MO_dissatisfied_57 : decode b_MO_dissatisfied 57 = .ok (.iload_n 1, 1) := by decide +kernel
theorem d_MO_dissatisfied_58 : decode b_MO_dissatisfied 58 = .ok (.imul, 1) := by decide +kernel
theorem d_MO_dissatisfied_59 : decode b_MO_dissatisfied 59 = .ok (.iaload, 1) := by decide +kernel
theorem d_MO_dissatisfied_60 : decode b_MO_dissatisfied 60 = .ok (.invokevirtual 276, 3) := by decide +kernel
theorem d_MO_dissatisfied_63 : decode b_MO_dissatisfied 63 = .ok (.iload_n 2, 1) := by decide +kernel
theorem d_MO_dissatisfied_64 : decode b_MO_dissatisfied 64 = .ok (.bipush 6, 2) := by decide +kernel
theorem d_MO_dissatisfied_66 : decode b_MO_dissatisfied 66 = .ok (.if_icmp .ne 17, 3) := by decide +kernel
theorem d_MO_dissatisfied_69 : decode b_MO_dissatisfied 69 = .ok (.aload_n 0, 1) := by decide +kernel
theorem d_MO_dissatisfied_70 : decode b_MO_dissatisfied 70 = .ok (.aload_n 0, 1) := by decide +kernel
theorem d_MO_dissatisfied_71 : decode b_MO_dissatisfied 71 = .ok (.getfield 42, 3) := by decide +kernel
theorem d_MO_dissatisfied_74 : decode b_MO_dissatisfied 74 = .ok (.iconst 4, 1) := by decide +kernel
theorem d_MO_dissatisfied_75 : decode b_MO_dissatisfied 75 = .ok (.iload_n 1, 1) := by decide +kernel
theorem d_MO_dissatisfied_76 : decode b_MO_dissatisfied 76 = .ok (.imul, 1) := by decide +kernel
theorem d_MO_dissatisfied_77 : decode b_MO_dissatisfied 77 = .ok (.iconst 1, 1) := by decide +kernel
theorem d_MO_dissatisfied_78 : decode b_MO_dissatisfied 78 = .ok (.iadd, 1) := by decide +kernel
theorem d_MO_dissatisfied_79 : decode b_MO_dissatisfied 79 = .ok (.iaload, 1) := by decide +kernel
theorem d_MO_dissatisfied_80 : decode b_MO_dissatisfied 80 = .ok (.invokevirtual 276, 3) := by decide +kernel
theorem d_MO_dissatisfied_83 : decode b_MO_dissatisfied 83 = .ok (.iconst 0, 1) := by decide +kernel
theorem d_MO_dissatisfied_84 : decode b_MO_dissatisfied 84 = .ok (.istore_n 3, 1) := by decide +kernel
theorem d_MO_dissatisfied_85 : decode b_MO_dissatisfied 85 = .ok (.iload_n 3, 1) := by decide +kernel
theorem d_MO_dissatisfied_86 : decode b_MO_dissatisfied 86 = .ok (.aload_n 0, 1) := by decide +kernel
theorem d_MO_dissatisfied_87 : decode b_MO_dissatisfied 87 = .ok (.getfield 39, 3) := by decide +kernel
theorem d_MO_dissatisfied_90 : decode b_MO_dissatisfied 90 = .ok (.iload_n 1, 1) := by decide +kernel
theorem d_MO_dissatisfied_91 : decode b_MO_dissatisfied 91 = .ok (.iaload, 1) := by decide +kernel
theorem d_MO_dissatisfied_92 : decode b_MO_dissatisfied 92 = .ok (.if_icmp .ge 34, 3) := by decide +kernel
theorem d_MO_dissatisfied_95 : decode b_MO_dissatisfied 95 = .ok (.iload_n 2, 1) := by decide +kernel
theorem d_MO_dissatisfied_96 : decode b_MO_dissatisfied 96 = .ok (.iconst 5, 1) := by decide +kernel
theorem d_MO_dissatisfied_97 : decode b_MO_dissatisfied 97 = .ok (.if_icmp .lt 9, 3) := by decide +kernel
theorem d_MO_dissatisfied_100 : decode b_MO_dissatisfied 100 = .ok (.iload_n 2, 1) := by decide +kernel
theorem d_MO_dissatisfied_101 : decode b_MO_dissatisfied 101 = .ok (.bipush 7, 2) := by decide +kernel
theorem d_MO_dissatisfied_103 : decode b_MO_dissatisfied 103 = .ok (.if_icmp .ne 23, 3) := by decide +kernel
theorem d_MO_dissatisfied_106 : decode b_MO_dissatisfied 106 = .ok (.aload_n 0, 1) := by decide +kernel
theorem d_MO_dissatisfied_107 : decode b_MO_dissatisfied 107 = .ok (.aload_n 0, 1) := by decide +kernel
theorem d_MO_dissatisfied_108 : decode b_MO_dissatisfied 108 = .ok (.getfield 42, 3) := by decide +kernel
theorem d_MO_dissatisfied_111 : decode b_MO_dissatisfied 111 = .ok (.iconst 4, 1) := by decide +kernel
theorem d_MO_dissatisfied_112 : decode b_MO_dissatisfied 112 = .ok (.iload_n 1, 1) := by decide +kernel
theorem d_MO_dissatisfied_113 : decode b_MO_dissatisfied 113 = .ok (.imul, 1) := by decide +kernel
theorem d_MO_dissatisfied_114 : decode b_MO_dissatisfied 114 = .ok (.iload_n 3, 1) := by decide +kernel
theorem d_MO_dissatisfied_115 : decode b_MO_dissatisfied 115 = .ok (.iadd, 1) := by decide +kernel
theorem d_MO_dissatisfied_116 : decode b_MO_dissatisfied 116 = .ok (.iaload, 1) := by decide +kernel
theorem d_MO_dissatisfied_117 : decode b_MO_dissatisfied 117 = .ok (.invokevirtual 276, 3) := by decide +kernel
theorem d_MO_dissatisfied_120 : decode b_MO_dissatisfied 120 = .ok (.iinc 3 1, 3) := by decide +kernel
theorem d_MO_dissatisfied_123 : decode b_MO_dissatisfied 123 = .ok (.goto (-38), 3) := by decide +kernel
theorem d_MO_dissatisfied_126 : decode b_MO_dissatisfied 126 = .ok (.aload_n 0, 1) := by decide +kernel
theorem d_MO_dissatisfied_127 : decode b_MO_dissatisfied 127 = .ok (.getfield 84, 3) := by decide +kernel
theorem d_MO_dissatisfied_130 : decode b_MO_dissatisfied 130 = .ok (.iload_n 1, 1) := by decide +kernel
theorem d_MO_dissatisfied_131 : decode b_MO_dissatisfied 131 = .ok (.aload_n 0, 1) := by decide +kernel
theorem d_MO_dissatisfied_132 : decode b_MO_dissatisfied 132 = .ok (.getfield 90, 3) := by decide +kernel
theorem d_MO_dissatisfied_135 : decode b_MO_dissatisfied 135 = .ok (.iastore, 1) := by decide +kernel
theorem d_MO_dissatisfied_136 : decode b_MO_dissatisfied 136 = .ok (.iconst 0, 1) := by decide +kernel
theorem d_MO_dissatisfied_137 : decode b_MO_dissatisfied 137 = .ok (.istore_n 3, 1) := by decide +kernel
theorem d_MO_dissatisfied_138 : decode b_MO_dissatisfied 138 = .ok (.iload_n 3, 1) := by decide +kernel
theorem d_MO_dissatisfied_139 : decode b_MO_dissatisfied 139 = .ok (.aload_n 0, 1) := by decide +kernel
theorem d_MO_dissatisfied_140 : decode b_MO_dissatisfied 140 = .ok (.getfield 90, 3) := by decide +kernel
theorem d_MO_dissatisfied_143 : decode b_MO_dissatisfied 143 = .ok (.if_icmp .ge 26, 3) := by decide +kernel
theorem d_MO_dissatisfied_146 : decode b_MO_dissatisfied 146 = .ok (.aload_n 0, 1) := by decide +kernel
theorem d_MO_dissatisfied_147 : decode b_MO_dissatisfied 147 = .ok (.getfield 81, 3) := by decide +kernel
theorem d_MO_dissatisfied_150 : decode b_MO_dissatisfied 150 = .ok (.bipush 50, 2) := by decide +kernel
theorem d_MO_dissatisfied_152 : decode b_MO_dissatisfied 152 = .ok (.iload_n 1, 1) := by decide +kernel
theorem d_MO_dissatisfied_153 : decode b_MO_dissatisfied 153 = .ok (.imul, 1) := by decide +kernel
theorem d_MO_dissatisfied_154 : decode b_MO_dissatisfied 154 = .ok (.iload_n 3, 1) := by decide +kernel
theorem d_MO_dissatisfied_155 : decode b_MO_dissatisfied 155 = .ok (.iadd, 1) := by decide +kernel
theorem d_MO_dissatisfied_156 : decode b_MO_dissatisfied 156 = .ok (.aload_n 0, 1) := by decide +kernel
theorem d_MO_dissatisfied_157 : decode b_MO_dissatisfied 157 = .ok (.getfield 87, 3) := by decide +kernel
theorem d_MO_dissatisfied_160 : decode b_MO_dissatisfied 160 = .ok (.iload_n 3, 1) := by decide +kernel
theorem d_MO_dissatisfied_161 : decode b_MO_dissatisfied 161 = .ok (.iaload, 1) := by decide +kernel
theorem d_MO_dissatisfied_162 : decode b_MO_dissatisfied 162 = .ok (.iastore, 1) := by decide +kernel
theorem d_MO_dissatisfied_163 : decode b_MO_dissatisfied 163 = .ok (.iinc 3 1, 3) := by decide +kernel
theorem d_MO_dissatisfied_166 : decode b_MO_dissatisfied 166 = .ok (.goto (-28), 3) := by decide +kernel
theorem d_MO_dissatisfied_169 : decode b_MO_dissatisfied 169 = .ok (.return_, 1) := by decide +kernel
set_option maxRecDepth 100000 in
set_option maxHeartbeats 20000000 in
theorem s_MO_dissatisfied (u : ab_S) (P : Nat) (kd ar cn lf : Nat → Nat) (ch : Nat → Nat → Nat) (W : tW P kd ar cn lf ch) (T : tR P kd ar cn ch u) (p1 w : Nat) (hp : p1 < P) (S : sV P lf (p1 + 1) u) (hw : wv (kd p1) 1 w) (hw8 : w ≤ 8) (ew : u.1 18 5 (3 * p1 + 1) = nI w) (h : mR u.2.1) : ab_C false l D ca y_MO_dissatisfied b_MO_dissatisfied 4 none 3 ab_nQ u [ab_O 17 0, ab_I (nI p1)] (fun u' v => (gP [26, 27, 113, 114, 115] u u' ∧ (∀ g, g ≠ p1 → u'.1 18 14 g = u.1 18 14 g) ∧ ∃ m, m ≤ 4 * lf p1 - 2 ∧ u'.1 18 14 p1 = nI m) ∧ v = none) := by
  refine ab_C.of (by decide) (Nat.le_of_ble_eq_true rfl) ?_
  intro p e s m args below meth c ad X hZ hr0 hlk
  have P0 : gP [26, 27, 115] u u := gP.rf h
  obtain ⟨l3, l4, -⟩ := (W.2.2 p1 hp).1
  have hP19 := W.2.1
  have loop : ∀ (r : Nat), r ≤ 4 * lf p1 - 2 → ∀ (k i : Nat) (u1 : ab_S), k + i = r → gP [26, 27, 113, 114, 115] u u1 → (∀ g, g ≠ p1 → u1.1 18 14 g = u.1 18 14 g) → u1.1 18 14 p1 = nI r → u1.1 17 0 26 = nI r → ab_J p l e (ab_rm 3 0 0) s m args below meth c (MQ below (ab_Q D ca ad ab_nQ s.heap.size (fun u' v => (gP [26, 27, 113, 114, 115] u u' ∧ (∀ g, g ≠ p1 → u'.1 18 14 g = u.1 18 14 g) ∧ ∃ m, m ≤ 4 * lf p1 - 2 ∧ u'.1 18 14 p1 = nI m) ∧ v = none)) args s 0 0 (ab_A ad ab_nQ s.heap.size)) D ca (ab_A ad ab_nQ s.heap.size) s.heap 4 0 0 ad ab_nQ u1 138 [(3, ab_I (nI i)), (0, ab_O 17 0), (1, ab_I (nI p1))] [] := by
    intro r hr k
    induction k with
    | zero =>
      intro i u1 hi P1 a1 a2 a3
      refine ab_iload_n X 0 d_MO_dissatisfied_138 rfl rfl ?_
      refine ab_aload_n X 1 d_MO_dissatisfied_139 rfl rfl ?_
      refine ab_gI X fl_MO_90 d_MO_dissatisfied_140 (by first | assumption | decide | (show _ < 124; omega) | (show _ < 61; omega) | (show _ < 20; omega)) (a3) ?_
      refine ab_icmp_ge X 169 d_MO_dissatisfied_143 rfl (fun _ => ?_) (fun hb => absurd ((nI_le (by omega) (by omega))) hb)
      exact ab_retv X hr0 hlk d_MO_dissatisfied_169 ⟨⟨P1, a1, r, hr, a2⟩, rfl⟩
    | succ k ih =>
      intro i u1 hi P1 a1 a2 a3
      refine ab_iload_n X 0 d_MO_dissatisfied_138 rfl rfl ?_
      refine ab_aload_n X 1 d_MO_dissatisfied_139 rfl rfl ?_
      refine ab_gI X fl_MO_90 d_MO_dissatisfied_140 (by first | assumption | decide | (show _ < 124; omega) | (show _ < 61; omega) | (show _ < 20; omega)) (a3) ?_
      refine ab_icmp_ge X 169 d_MO_dissatisfied_143 rfl (fun hb => absurd hb ((nI_ge (by omega) (by omega)))) (fun _ => ?_)
      refine ab_aload_n X 1 d_MO_dissatisfied_146 rfl rfl ?_
      refine ab_gR X fl_MO_81 d_MO_dissatisfied_147 (by first | assumption | decide | (show _ < 124; omega) | (show _ < 61; omega) | (show _ < 20; omega)) (P1.1.mo23) ?_
      refine ab_bipush (v := 50) X d_MO_dissatisfied_150 (by decide) ?_
      refine ab_iload_n X 2 d_MO_dissatisfied_152 rfl rfl ?_
      refine ab_imul X d_MO_dissatisfied_153 ?_
      refine ab_iload_n X 0 d_MO_dissatisfied_154 rfl rfl ?_
      refine ab_iadd X d_MO_dissatisfied_155 ?_
      refine ab_aload_n X 1 d_MO_dissatisfied_156 rfl rfl ?_
      refine ab_gR X fl_MO_87 d_MO_dissatisfied_157 (by first | assumption | decide | (show _ < 124; omega) | (show _ < 61; omega) | (show _ < 20; omega)) (P1.1.mo25) ?_
      refine ab_iload_n X 0 d_MO_dissatisfied_160 rfl rfl ?_
      refine ab_iald X (i) ⟨rfl, rfl⟩ d_MO_dissatisfied_161 (by first | assumption | decide | (show _ < 124; omega) | (show _ < 61; omega) | (show _ < 20; omega)) (rfl) (show i < 64 by omega) (ab_ln_lt _ _) ?_
      refine ab_iast X (50 * p1 + i) ⟨rfl, rfl⟩ d_MO_dissatisfied_162 (by first | assumption | decide | (show _ < 124; omega) | (show _ < 61; omega) | (show _ < 20; omega)) (nI_50a p1 i) (show 50 * p1 + i < 1200 by omega) (ab_ln_lt _ _) ?_
      refine ab_gen (fun u162 e162 => ?_)
      have P162 : gP [26, 27, 113, 114, 115] u u162 := by rw [e162]; exact P1.ui rfl (by decide)
      refine ab_iinc2 X 0 1 2 d_MO_dissatisfied_163 rfl (by decide) rfl rfl rfl rfl ?_
      refine ab_goto X 138 d_MO_dissatisfied_166 rfl ?_
      rw [show nI i + Int32.ofInt 1 = nI (i + 1) from nI_1 i]
      exact ih (i + 1) _ (by omega) P162 (fun g hg => (show _ = u1.1 18 14 g by rw [e162]; simp [ab_up]).trans (a1 g hg)) (by rw [e162]; simpa [ab_up] using a2) (by rw [e162]; simpa [ab_up] using a3)
  have fin : ∀ (u1 : ab_S) (r : Nat), gP [26, 27, 115] u u1 → r ≤ 4 * lf p1 - 2 → u1.1 17 0 26 = nI r → ab_J p l e (ab_rm 3 0 0) s m args below meth c (MQ below (ab_Q D ca ad ab_nQ s.heap.size (fun u' v => (gP [26, 27, 113, 114, 115] u u' ∧ (∀ g, g ≠ p1 → u'.1 18 14 g = u.1 18 14 g) ∧ ∃ m, m ≤ 4 * lf p1 - 2 ∧ u'.1 18 14 p1 = nI m) ∧ v = none)) args s 0 0 (ab_A ad ab_nQ s.heap.size)) D ca (ab_A ad ab_nQ s.heap.size) s.heap 4 0 0 ad ab_nQ u1 126 [(0, ab_O 17 0), (1, ab_I (nI p1))] [] := by
    intro u1 r P1 hr a3
    have P2 : gP [26, 27, 113, 114, 115] u u1 := P1.wk (by decide)
    refine ab_aload_n X 0 d_MO_dissatisfied_126 rfl rfl ?_
    refine ab_gR X fl_MO_84 d_MO_dissatisfied_127 (by first | assumption | decide | (show _ < 124; omega) | (show _ < 61; omega) | (show _ < 20; omega)) (P2.1.mo24) ?_
    refine ab_iload_n X 1 d_MO_dissatisfied_130 rfl rfl ?_
    refine ab_aload_n X 0 d_MO_dissatisfied_131 rfl rfl ?_
    refine ab_gI X fl_MO_90 d_MO_dissatisfied_132 (by first | assumption | decide | (show _ < 124; omega) | (show _ < 61; omega) | (show _ < 20; omega)) (rfl) ?_
    refine ab_iast X (p1) ⟨rfl, rfl⟩ d_MO_dissatisfied_135 (by first | assumption | decide | (show _ < 124; omega) | (show _ < 61; omega) | (show _ < 20; omega)) (rfl) (show p1 < 24 by omega) (ab_ln_lt _ _) ?_
    refine ab_gen (fun u135 e135 => ?_)
    have P135 : gP [26, 27, 113, 114, 115] u u135 := by rw [e135]; exact P2.ui rfl (by decide)
    refine ab_iconst (v := 0) X d_MO_dissatisfied_136 (by decide) ?_
    refine ab_istore_n2 X 0 1 d_MO_dissatisfied_137 rfl (by decide) rfl rfl rfl rfl ?_
    exact loop r hr r 0 _ (by omega) P135 (fun g hg => (show _ = u1.1 18 14 g by rw [e135]; simp [ab_up, hg]).trans (P1.ai (by decide) rfl)) (by rw [e135]; simpa [ab_up] using a3) (by rw [e135]; simpa [ab_up] using a3)
  obtain ⟨-, -, ec, ech⟩ := T.2 p1 hp
  rcases hw with (⟨hk, hw⟩ | ⟨hw, hj1⟩ | ⟨hw, hj2⟩) | ⟨hk, hw⟩ | ⟨hk, hw⟩
  · obtain rfl : w = 1 := by omega
    have c0 := (W.2.2 p1 hp).2.1 hk
    refine ab_aload_n X 0 d_MO_dissatisfied_0 rfl rfl ?_
    refine ab_gR X fl_MO_45 d_MO_dissatisfied_1 (by first | assumption | decide | (show _ < 124; omega) | (show _ < 61; omega) | (show _ < 20; omega)) (P0.1.mo11) ?_
    refine ab_iload_n X 1 d_MO_dissatisfied_4 rfl rfl ?_
    refine ab_callS (as := [ab_I (nI p1)]) X (fun h => by cases h) (t_MO_d u p1) ls_MO_195 d_MO_dissatisfied_5 rfl rfl ⟨by first | exact Nat.le_of_ble_eq_true rfl | (simp only [ab_rm]; omega), by first | exact Nat.le_of_ble_eq_true rfl | (simp only [ab_rm]; omega)⟩ ⟨by first | exact Nat.le_of_ble_eq_true rfl | (simp only [ab_rm]; omega), by first | exact Nat.le_of_ble_eq_true rfl | (simp only [ab_rm]; omega)⟩ (Nat.le_of_ble_eq_true rfl) (fun u5 r5 h5 => ?_)
    obtain ⟨e5, rfl⟩ := h5
    subst u5
    refine ab_iald X (3 * p1 + 1) ⟨rfl, rfl⟩ d_MO_dissatisfied_8 (by first | assumption | decide | (show _ < 124; omega) | (show _ < 61; omega) | (show _ < 20; omega)) (rfl) (show 3 * p1 + 1 < 72 by omega) (ab_ln_lt _ _) ?_
    refine ab_top ew ?_
    refine ab_istore_n2 X 0 1 d_MO_dissatisfied_9 rfl (by decide) rfl rfl rfl rfl ?_
    refine ab_aload_n X 1 d_MO_dissatisfied_10 rfl rfl ?_
    refine ab_callV (as := []) X (fun h => by cases h) (s_MO_newRow u h) lk_MO_267 d_MO_dissatisfied_11 rfl rfl (by first | assumption | decide | (show _ < 124; omega) | (show _ < 61; omega) | (show _ < 20; omega)) ⟨by first | exact Nat.le_of_ble_eq_true rfl | (simp only [ab_rm]; omega), by first | exact Nat.le_of_ble_eq_true rfl | (simp only [ab_rm]; omega)⟩ ⟨by first | exact Nat.le_of_ble_eq_true rfl | (simp only [ab_rm]; omega), by first | exact Nat.le_of_ble_eq_true rfl | (simp only [ab_rm]; omega)⟩ (Nat.le_of_ble_eq_true rfl) (fun u11 r11 h11 => ?_)
    obtain ⟨⟨q11, r11⟩, rfl⟩ := h11
    have P11 := P0.trans q11 (by decide)
    refine ab_iload_n X 0 d_MO_dissatisfied_14 rfl rfl ?_
    refine ab_iconst (v := 1) X d_MO_dissatisfied_15 (by decide) ?_
    refine ab_icmp_eq X 31 d_MO_dissatisfied_16 rfl (fun _ => ?_) (fun hb => absurd ((by decide)) hb)
    refine ab_aload_n X 1 d_MO_dissatisfied_31 rfl rfl ?_
    refine ab_iconst (v := 0) X d_MO_dissatisfied_32 (by decide) ?_
    refine ab_callV (as := [ab_I 0]) X (fun h => by cases h) (s_MO_item1 u11 0 0 P11.1 r11 (by omega)) lk_MO_264 d_MO_dissatisfied_33 rfl rfl (by first | assumption | decide | (show _ < 124; omega) | (show _ < 61; omega) | (show _ < 20; omega)) ⟨by first | exact Nat.le_of_ble_eq_true rfl | (simp only [ab_rm]; omega), by first | exact Nat.le_of_ble_eq_true rfl | (simp only [ab_rm]; omega)⟩ ⟨by first | exact Nat.le_of_ble_eq_true rfl | (simp only [ab_rm]; omega), by first | exact Nat.le_of_ble_eq_true rfl | (simp only [ab_rm]; omega)⟩ (Nat.le_of_ble_eq_true rfl) (fun u33 r33 h33 => ?_)
    obtain ⟨⟨q33, r33⟩, rfl⟩ := h33
    have P33 := P11.trans q33 (by decide)
    refine ab_iload_n X 0 d_MO_dissatisfied_36 rfl rfl ?_
    refine ab_iconst (v := 5) X d_MO_dissatisfied_37 (by decide) ?_
    refine ab_icmp_ne X 46 d_MO_dissatisfied_38 rfl (fun _ => ?_) (fun hb => absurd hb ((by decide)))
    refine ab_iload_n X 0 d_MO_dissatisfied_46 rfl rfl ?_
    refine ab_iconst (v := 5) X d_MO_dissatisfied_47 (by decide) ?_
    refine ab_icmp_ne X 63 d_MO_dissatisfied_48 rfl (fun _ => ?_) (fun hb => absurd hb ((by decide)))
    refine ab_iload_n X 0 d_MO_dissatisfied_63 rfl rfl ?_
    refine ab_bipush (v := 6) X d_MO_dissatisfied_64 (by decide) ?_
    refine ab_icmp_ne X 83 d_MO_dissatisfied_66 rfl (fun _ => ?_) (fun hb => absurd hb ((by decide)))
    refine ab_iconst (v := 0) X d_MO_dissatisfied_83 (by decide) ?_
    refine ab_istore_n3 X 0 1 2 d_MO_dissatisfied_84 rfl (by decide) rfl rfl rfl rfl rfl rfl ?_
    refine ab_iload_n X 0 d_MO_dissatisfied_85 rfl rfl ?_
    refine ab_aload_n X 2 d_MO_dissatisfied_86 rfl rfl ?_
    refine ab_gR X fl_MO_39 d_MO_dissatisfied_87 (by first | assumption | decide | (show _ < 124; omega) | (show _ < 61; omega) | (show _ < 20; omega)) (P33.1.mo9) ?_
    refine ab_iload_n X 3 d_MO_dissatisfied_90 rfl rfl ?_
    refine ab_iald X (p1) ⟨rfl, rfl⟩ d_MO_dissatisfied_91 (by first | assumption | decide | (show _ < 124; omega) | (show _ < 61; omega) | (show _ < 20; omega)) (rfl) (show p1 < 40 by omega) (ab_ln_lt _ _) ?_
    refine ab_top (P33.ai (by decide) ec) ?_
    refine ab_icmp_ge X 126 d_MO_dissatisfied_92 rfl (fun _ => ?_) (fun hb => absurd ((by rw [c0]; exact Int32.le_refl _)) hb)
    refine ab_lv (List.forall_mem_cons.mpr ⟨List.mem_of_getElem? (i := 2) rfl, List.forall_mem_cons.mpr ⟨List.mem_of_getElem? (i := 3) rfl, fun _ h => absurd h List.not_mem_nil⟩⟩) ?_
    exact fin _ 1 P33 (by omega) r33
  · subst hw
    refine ab_aload_n X 0 d_MO_dissatisfied_0 rfl rfl ?_
    refine ab_gR X fl_MO_45 d_MO_dissatisfied_1 (by first | assumption | decide | (show _ < 124; omega) | (show _ < 61; omega) | (show _ < 20; omega)) (P0.1.mo11) ?_
    refine ab_iload_n X 1 d_MO_dissatisfied_4 rfl rfl ?_
    refine ab_callS (as := [ab_I (nI p1)]) X (fun h => by cases h) (t_MO_d u p1) ls_MO_195 d_MO_dissatisfied_5 rfl rfl ⟨by first | exact Nat.le_of_ble_eq_true rfl | (simp only [ab_rm]; omega), by first | exact Nat.le_of_ble_eq_true rfl | (simp only [ab_rm]; omega)⟩ ⟨by first | exact Nat.le_of_ble_eq_true rfl | (simp only [ab_rm]; omega), by first | exact Nat.le_of_ble_eq_true rfl | (simp only [ab_rm]; omega)⟩ (Nat.le_of_ble_eq_true rfl) (fun u5 r5 h5 => ?_)
    obtain ⟨e5, rfl⟩ := h5
    subst u5
    refine ab_iald X (3 * p1 + 1) ⟨rfl, rfl⟩ d_MO_dissatisfied_8 (by first | assumption | decide | (show _ < 124; omega) | (show _ < 61; omega) | (show _ < 20; omega)) (rfl) (show 3 * p1 + 1 < 72 by omega) (ab_ln_lt _ _) ?_
    refine ab_top ew ?_
    refine ab_istore_n2 X 0 1 d_MO_dissatisfied_9 rfl (by decide) rfl rfl rfl rfl ?_
    refine ab_aload_n X 1 d_MO_dissatisfied_10 rfl rfl ?_
    refine ab_callV (as := []) X (fun h => by cases h) (s_MO_newRow u h) lk_MO_267 d_MO_dissatisfied_11 rfl rfl (by first | assumption | decide | (show _ < 124; omega) | (show _ < 61; omega) | (show _ < 20; omega)) ⟨by first | exact Nat.le_of_ble_eq_true rfl | (simp only [ab_rm]; omega), by first | exact Nat.le_of_ble_eq_true rfl | (simp only [ab_rm]; omega)⟩ ⟨by first | exact Nat.le_of_ble_eq_true rfl | (simp only [ab_rm]; omega), by first | exact Nat.le_of_ble_eq_true rfl | (simp only [ab_rm]; omega)⟩ (Nat.le_of_ble_eq_true rfl) (fun u11 r11 h11 => ?_)
    obtain ⟨⟨q11, r11⟩, rfl⟩ := h11
    have P11 := P0.trans q11 (by decide)
    refine ab_iload_n X 0 d_MO_dissatisfied_14 rfl rfl ?_
    refine ab_iconst (v := 1) X d_MO_dissatisfied_15 (by decide) ?_
    refine ab_icmp_eq X 31 d_MO_dissatisfied_16 rfl (fun hb => absurd hb ((by decide))) (fun _ => ?_)
    refine ab_iload_n X 0 d_MO_dissatisfied_19 rfl rfl ?_
    refine ab_bipush (v := 8) X d_MO_dissatisfied_20 (by decide) ?_
    refine ab_icmp_eq X 31 d_MO_dissatisfied_22 rfl (fun _ => ?_) (fun hb => absurd ((by decide)) hb)
    refine ab_aload_n X 1 d_MO_dissatisfied_31 rfl rfl ?_
    refine ab_iconst (v := 0) X d_MO_dissatisfied_32 (by decide) ?_
    refine ab_callV (as := [ab_I 0]) X (fun h => by cases h) (s_MO_item1 u11 0 0 P11.1 r11 (by omega)) lk_MO_264 d_MO_dissatisfied_33 rfl rfl (by first | assumption | decide | (show _ < 124; omega) | (show _ < 61; omega) | (show _ < 20; omega)) ⟨by first | exact Nat.le_of_ble_eq_true rfl | (simp only [ab_rm]; omega), by first | exact Nat.le_of_ble_eq_true rfl | (simp only [ab_rm]; omega)⟩ ⟨by first | exact Nat.le_of_ble_eq_true rfl | (simp only [ab_rm]; omega), by first | exact Nat.le_of_ble_eq_true rfl | (simp only [ab_rm]; omega)⟩ (Nat.le_of_ble_eq_true rfl) (fun u33 r33 h33 => ?_)
    obtain ⟨⟨q33, r33⟩, rfl⟩ := h33
    have P33 := P11.trans q33 (by decide)
    refine ab_iload_n X 0 d_MO_dissatisfied_36 rfl rfl ?_
    refine ab_iconst (v := 5) X d_MO_dissatisfied_37 (by decide) ?_
    refine ab_icmp_ne X 46 d_MO_dissatisfied_38 rfl (fun _ => ?_) (fun hb => absurd hb ((by decide)))
    refine ab_iload_n X 0 d_MO_dissatisfied_46 rfl rfl ?_
    refine ab_iconst (v := 5) X d_MO_dissatisfied_47 (by decide) ?_
    refine ab_icmp_ne X 63 d_MO_dissatisfied_48 rfl (fun _ => ?_) (fun hb => absurd hb ((by decide)))
    refine ab_iload_n X 0 d_MO_dissatisfied_63 rfl rfl ?_
    refine ab_bipush (v := 6) X d_MO_dissatisfied_64 (by decide) ?_
    refine ab_icmp_ne X 83 d_MO_dissatisfied_66 rfl (fun _ => ?_) (fun hb => absurd hb ((by decide)))
    refine ab_iconst (v := 0) X d_MO_dissatisfied_83 (by decide) ?_
    refine ab_istore_n3 X 0 1 2 d_MO_dissatisfied_84 rfl (by decide) rfl rfl rfl rfl rfl rfl ?_
    refine ab_iload_n X 0 d_MO_dissatisfied_85 rfl rfl ?_
    refine ab_aload_n X 2 d_MO_dissatisfied_86 rfl rfl ?_
    refine ab_gR X fl_MO_39 d_MO_dissatisfied_87 (by first | assumption | decide | (show _ < 124; omega) | (show _ < 61; omega) | (show _ < 20; omega)) (P33.1.mo9) ?_
    refine ab_iload_n X 3 d_MO_dissatisfied_90 rfl rfl ?_
    refine ab_iald X (p1) ⟨rfl, rfl⟩ d_MO_dissatisfied_91 (by first | assumption | decide | (show _ < 124; omega) | (show _ < 61; omega) | (show _ < 20; omega)) (rfl) (show p1 < 40 by omega) (ab_ln_lt _ _) ?_
    refine ab_top (P33.ai (by decide) ec) ?_
    refine ab_icmp_ge X 126 d_MO_dissatisfied_92 rfl (fun h92 => ?_) (fun h92 => ?_)
    ·
      refine ab_lv (List.forall_mem_cons.mpr ⟨List.mem_of_getElem? (i := 2) rfl, List.forall_mem_cons.mpr ⟨List.mem_of_getElem? (i := 3) rfl, fun _ h => absurd h List.not_mem_nil⟩⟩) ?_
      exact fin _ 1 P33 (by omega) r33
    ·
      refine ab_iload_n X 1 d_MO_dissatisfied_95 rfl rfl ?_
      refine ab_iconst (v := 5) X d_MO_dissatisfied_96 (by decide) ?_
      refine ab_icmp_lt X 106 d_MO_dissatisfied_97 rfl (fun hb => absurd hb ((by decide))) (fun _ => ?_)
      refine ab_iload_n X 1 d_MO_dissatisfied_100 rfl rfl ?_
      refine ab_bipush (v := 7) X d_MO_dissatisfied_101 (by decide) ?_
      refine ab_icmp_ne X 126 d_MO_dissatisfied_103 rfl (fun _ => ?_) (fun hb => absurd hb ((by decide)))
      refine ab_lv (List.forall_mem_cons.mpr ⟨List.mem_of_getElem? (i := 2) rfl, List.forall_mem_cons.mpr ⟨List.mem_of_getElem? (i := 3) rfl, fun _ h => absurd h List.not_mem_nil⟩⟩) ?_
      exact fin _ 1 P33 (by omega) r33
  · omega
  · have hw : w = 2 ∨ w = 3 ∨ w = 4 ∨ w = 5 ∨ w = 6 := by omega
    obtain ⟨n2, n4, -, -, b5, b6⟩ := (W.2.2 p1 hp).2.2 (by omega)
    have hB := sm_lf (fun i => lf (ch p1 i)) (cn p1) (fun i hi => (W.2.2 _ (b5 i hi).2).1.1)
    obtain ⟨x, y, ex, ey, x1, x2, y1, y2, l0, l1, l2, -, -⟩ := W.two T hp hk
    have sx := S x (by omega) x2
    have sy := S y (by omega) y2
    obtain ⟨mx, hmx, emx⟩ := sx.1
    obtain ⟨my, hmy, emy⟩ := sy.1
    rcases hw with rfl | rfl | rfl | rfl | rfl
    · have all : ∀ (k i : Nat) (u2 : ab_S) (r : Nat), k + i = cn p1 → gP [26, 27, 115] u u2 → u2.1 17 0 26 = nI r → r ≤ sm (fun i => 4 * lf (ch p1 i) - 2) i → ab_J p l e (ab_rm 3 0 0) s m args below meth c (MQ below (ab_Q D ca ad ab_nQ s.heap.size (fun u' v => (gP [26, 27, 113, 114, 115] u u' ∧ (∀ g, g ≠ p1 → u'.1 18 14 g = u.1 18 14 g) ∧ ∃ m, m ≤ 4 * lf p1 - 2 ∧ u'.1 18 14 p1 = nI m) ∧ v = none)) args s 0 0 (ab_A ad ab_nQ s.heap.size)) D ca (ab_A ad ab_nQ s.heap.size) s.heap 4 0 0 ad ab_nQ u2 85 [(3, ab_I (nI i)), (2, ab_I (nI 2)), (0, ab_O 17 0), (1, ab_I (nI p1))] [] := by
        intro k
        induction k with
        | zero =>
          intro i u2 r hi P2 er hr
          obtain rfl : i = cn p1 := by omega
          refine ab_iload_n X 0 d_MO_dissatisfied_85 rfl rfl ?_
          refine ab_aload_n X 2 d_MO_dissatisfied_86 rfl rfl ?_
          refine ab_gR X fl_MO_39 d_MO_dissatisfied_87 (by first | assumption | decide | (show _ < 124; omega) | (show _ < 61; omega) | (show _ < 20; omega)) (P2.1.mo9) ?_
          refine ab_iload_n X 3 d_MO_dissatisfied_90 rfl rfl ?_
          refine ab_iald X (p1) ⟨rfl, rfl⟩ d_MO_dissatisfied_91 (by first | assumption | decide | (show _ < 124; omega) | (show _ < 61; omega) | (show _ < 20; omega)) (rfl) (show p1 < 40 by omega) (ab_ln_lt _ _) ?_
          refine ab_top (P2.ai (by decide) ec) ?_
          refine ab_icmp_ge X 126 d_MO_dissatisfied_92 rfl (fun _ => ?_) (fun hb => absurd ((nI_le (by omega) (by omega))) hb)
          refine ab_lv (List.forall_mem_cons.mpr ⟨List.mem_of_getElem? (i := 2) rfl, List.forall_mem_cons.mpr ⟨List.mem_of_getElem? (i := 3) rfl, fun _ h => absurd h List.not_mem_nil⟩⟩) ?_
          exact fin _ r P2 (by omega) er
        | succ k ih2 =>
          intro i u2 r hi P2 er hr
          obtain ⟨c1', c2⟩ := b5 i (by omega)
          obtain ⟨⟨m, hm, em⟩, -⟩ := S (ch p1 i) (by omega) c2
          obtain ⟨l1, l2, -⟩ := (W.2.2 _ c2).1
          have hs : sm (fun i => 4 * lf (ch p1 i) - 2) (i + 1) = sm (fun i => 4 * lf (ch p1 i) - 2) i + (4 * lf (ch p1 i) - 2) := rfl
          have hs2 := sm_mono (fun i => 4 * lf (ch p1 i) - 2) (show i + 1 ≤ cn p1 by omega)
          refine ab_iload_n X 0 d_MO_dissatisfied_85 rfl rfl ?_
          refine ab_aload_n X 2 d_MO_dissatisfied_86 rfl rfl ?_
          refine ab_gR X fl_MO_39 d_MO_dissatisfied_87 (by first | assumption | decide | (show _ < 124; omega) | (show _ < 61; omega) | (show _ < 20; omega)) (P2.1.mo9) ?_
          refine ab_iload_n X 3 d_MO_dissatisfied_90 rfl rfl ?_
          refine ab_iald X (p1) ⟨rfl, rfl⟩ d_MO_dissatisfied_91 (by first | assumption | decide | (show _ < 124; omega) | (show _ < 61; omega) | (show _ < 20; omega)) (rfl) (show p1 < 40 by omega) (ab_ln_lt _ _) ?_
          refine ab_top (P2.ai (by decide) ec) ?_
          refine ab_icmp_ge X 126 d_MO_dissatisfied_92 rfl (fun hb => absurd hb ((nI_ge (by omega) (by omega)))) (fun _ => ?_)
          refine ab_iload_n X 1 d_MO_dissatisfied_95 rfl rfl ?_
          refine ab_iconst (v := 5) X d_MO_dissatisfied_96 (by decide) ?_
          refine ab_icmp_lt X 106 d_MO_dissatisfied_97 rfl (fun _ => ?_) (fun hb => absurd ((by decide)) hb)
          refine ab_aload_n X 2 d_MO_dissatisfied_106 rfl rfl ?_
          refine ab_aload_n X 2 d_MO_dissatisfied_107 rfl rfl ?_
          refine ab_gR X fl_MO_42 d_MO_dissatisfied_108 (by first | assumption | decide | (show _ < 124; omega) | (show _ < 61; omega) | (show _ < 20; omega)) (P2.1.mo10) ?_
          refine ab_iconst (v := 4) X d_MO_dissatisfied_111 (by decide) ?_
          refine ab_iload_n X 3 d_MO_dissatisfied_112 rfl rfl ?_
          refine ab_imul X d_MO_dissatisfied_113 ?_
          refine ab_iload_n X 0 d_MO_dissatisfied_114 rfl rfl ?_
          refine ab_iadd X d_MO_dissatisfied_115 ?_
          refine ab_iald X (4 * p1 + i) ⟨rfl, rfl⟩ d_MO_dissatisfied_116 (by first | assumption | decide | (show _ < 124; omega) | (show _ < 61; omega) | (show _ < 20; omega)) (nI_4a p1 i) (show 4 * p1 + i < 160 by omega) (ab_ln_lt _ _) ?_
          refine ab_top (P2.ai (by decide) (ech i (by omega))) ?_
          refine ab_callV (as := [ab_I (nI (ch p1 i))]) X (fun h => by cases h) (s_MO_no u2 (ch p1 i) m r P2.1 (by omega) (P2.ai (by decide) em) (by omega) er (by omega)) lk_MO_276 d_MO_dissatisfied_117 rfl rfl (by first | assumption | decide | (show _ < 124; omega) | (show _ < 61; omega) | (show _ < 20; omega)) ⟨by first | exact Nat.le_of_ble_eq_true rfl | (simp only [ab_rm]; omega), by first | exact Nat.le_of_ble_eq_true rfl | (simp only [ab_rm]; omega)⟩ ⟨by first | exact Nat.le_of_ble_eq_true rfl | (simp only [ab_rm]; omega), by first | exact Nat.le_of_ble_eq_true rfl | (simp only [ab_rm]; omega)⟩ (Nat.le_of_ble_eq_true rfl) (fun u117 r117 h117 => ?_)
          obtain ⟨⟨q117, r117⟩, rfl⟩ := h117
          have P117 := P2.trans q117 (by decide)
          refine ab_iinc3 X 0 1 2 3 d_MO_dissatisfied_120 rfl (by decide) rfl rfl rfl rfl rfl rfl ?_
          refine ab_goto X 85 d_MO_dissatisfied_123 rfl ?_
          rw [show nI i + Int32.ofInt 1 = nI (i + 1) from nI_1 i]
          exact ih2 (i + 1) _ (r + m) (by omega) P117 r117 (by omega)
      refine ab_aload_n X 0 d_MO_dissatisfied_0 rfl rfl ?_
      refine ab_gR X fl_MO_45 d_MO_dissatisfied_1 (by first | assumption | decide | (show _ < 124; omega) | (show _ < 61; omega) | (show _ < 20; omega)) (P0.1.mo11) ?_
      refine ab_iload_n X 1 d_MO_dissatisfied_4 rfl rfl ?_
      refine ab_callS (as := [ab_I (nI p1)]) X (fun h => by cases h) (t_MO_d u p1) ls_MO_195 d_MO_dissatisfied_5 rfl rfl ⟨by first | exact Nat.le_of_ble_eq_true rfl | (simp only [ab_rm]; omega), by first | exact Nat.le_of_ble_eq_true rfl | (simp only [ab_rm]; omega)⟩ ⟨by first | exact Nat.le_of_ble_eq_true rfl | (simp only [ab_rm]; omega), by first | exact Nat.le_of_ble_eq_true rfl | (simp only [ab_rm]; omega)⟩ (Nat.le_of_ble_eq_true rfl) (fun u5 r5 h5 => ?_)
      obtain ⟨e5, rfl⟩ := h5
      subst u5
      refine ab_iald X (3 * p1 + 1) ⟨rfl, rfl⟩ d_MO_dissatisfied_8 (by first | assumption | decide | (show _ < 124; omega) | (show _ < 61; omega) | (show _ < 20; omega)) (rfl) (show 3 * p1 + 1 < 72 by omega) (ab_ln_lt _ _) ?_
      refine ab_top ew ?_
      refine ab_istore_n2 X 0 1 d_MO_dissatisfied_9 rfl (by decide) rfl rfl rfl rfl ?_
      refine ab_aload_n X 1 d_MO_dissatisfied_10 rfl rfl ?_
      refine ab_callV (as := []) X (fun h => by cases h) (s_MO_newRow u h) lk_MO_267 d_MO_dissatisfied_11 rfl rfl (by first | assumption | decide | (show _ < 124; omega) | (show _ < 61; omega) | (show _ < 20; omega)) ⟨by first | exact Nat.le_of_ble_eq_true rfl | (simp only [ab_rm]; omega), by first | exact Nat.le_of_ble_eq_true rfl | (simp only [ab_rm]; omega)⟩ ⟨by first | exact Nat.le_of_ble_eq_true rfl | (simp only [ab_rm]; omega), by first | exact Nat.le_of_ble_eq_true rfl | (simp only [ab_rm]; omega)⟩ (Nat.le_of_ble_eq_true rfl) (fun u11 r11 h11 => ?_)
      obtain ⟨⟨q11, r11⟩, rfl⟩ := h11
      have P11 := P0.trans q11 (by decide)
      refine ab_iload_n X 0 d_MO_dissatisfied_14 rfl rfl ?_
      refine ab_iconst (v := 1) X d_MO_dissatisfied_15 (by decide) ?_
      refine ab_icmp_eq X 31 d_MO_dissatisfied_16 rfl (fun hb => absurd hb ((by decide))) (fun _ => ?_)
      refine ab_iload_n X 0 d_MO_dissatisfied_19 rfl rfl ?_
      refine ab_bipush (v := 8) X d_MO_dissatisfied_20 (by decide) ?_
      refine ab_icmp_eq X 31 d_MO_dissatisfied_22 rfl (fun hb => absurd hb ((by decide))) (fun _ => ?_)
      refine ab_iload_n X 0 d_MO_dissatisfied_25 rfl rfl ?_
      refine ab_bipush (v := 6) X d_MO_dissatisfied_26 (by decide) ?_
      refine ab_icmp_ne X 36 d_MO_dissatisfied_28 rfl (fun _ => ?_) (fun hb => absurd hb ((by decide)))
      refine ab_iload_n X 0 d_MO_dissatisfied_36 rfl rfl ?_
      refine ab_iconst (v := 5) X d_MO_dissatisfied_37 (by decide) ?_
      refine ab_icmp_ne X 46 d_MO_dissatisfied_38 rfl (fun _ => ?_) (fun hb => absurd hb ((by decide)))
      refine ab_iload_n X 0 d_MO_dissatisfied_46 rfl rfl ?_
      refine ab_iconst (v := 5) X d_MO_dissatisfied_47 (by decide) ?_
      refine ab_icmp_ne X 63 d_MO_dissatisfied_48 rfl (fun _ => ?_) (fun hb => absurd hb ((by decide)))
      refine ab_iload_n X 0 d_MO_dissatisfied_63 rfl rfl ?_
      refine ab_bipush (v := 6) X d_MO_dissatisfied_64 (by decide) ?_
      refine ab_icmp_ne X 83 d_MO_dissatisfied_66 rfl (fun _ => ?_) (fun hb => absurd hb ((by decide)))
      refine ab_iconst (v := 0) X d_MO_dissatisfied_83 (by decide) ?_
      refine ab_istore_n3 X 0 1 2 d_MO_dissatisfied_84 rfl (by decide) rfl rfl rfl rfl rfl rfl ?_
      exact all (cn p1) 0 _ 0 (by omega) P11 r11 (Nat.zero_le _)
    · have all : ∀ (k i : Nat) (u2 : ab_S) (r : Nat), k + i = cn p1 → gP [26, 27, 115] u u2 → u2.1 17 0 26 = nI r → r ≤ sm (fun i => 4 * lf (ch p1 i) - 2) i → ab_J p l e (ab_rm 3 0 0) s m args below meth c (MQ below (ab_Q D ca ad ab_nQ s.heap.size (fun u' v => (gP [26, 27, 113, 114, 115] u u' ∧ (∀ g, g ≠ p1 → u'.1 18 14 g = u.1 18 14 g) ∧ ∃ m, m ≤ 4 * lf p1 - 2 ∧ u'.1 18 14 p1 = nI m) ∧ v = none)) args s 0 0 (ab_A ad ab_nQ s.heap.size)) D ca (ab_A ad ab_nQ s.heap.size) s.heap 4 0 0 ad ab_nQ u2 85 [(3, ab_I (nI i)), (2, ab_I (nI 3)), (0, ab_O 17 0), (1, ab_I (nI p1))] [] := by
        intro k
        induction k with
        | zero =>
          intro i u2 r hi P2 er hr
          obtain rfl : i = cn p1 := by omega
          refine ab_iload_n X 0 d_MO_dissatisfied_85 rfl rfl ?_
          refine ab_aload_n X 2 d_MO_dissatisfied_86 rfl rfl ?_
          refine ab_gR X fl_MO_39 d_MO_dissatisfied_87 (by first | assumption | decide | (show _ < 124; omega) | (show _ < 61; omega) | (show _ < 20; omega)) (P2.1.mo9) ?_
          refine ab_iload_n X 3 d_MO_dissatisfied_90 rfl rfl ?_
          refine ab_iald X (p1) ⟨rfl, rfl⟩ d_MO_dissatisfied_91 (by first | assumption | decide | (show _ < 124; omega) | (show _ < 61; omega) | (show _ < 20; omega)) (rfl) (show p1 < 40 by omega) (ab_ln_lt _ _) ?_
          refine ab_top (P2.ai (by decide) ec) ?_
          refine ab_icmp_ge X 126 d_MO_dissatisfied_92 rfl (fun _ => ?_) (fun hb => absurd ((nI_le (by omega) (by omega))) hb)
          refine ab_lv (List.forall_mem_cons.mpr ⟨List.mem_of_getElem? (i := 2) rfl, List.forall_mem_cons.mpr ⟨List.mem_of_getElem? (i := 3) rfl, fun _ h => absurd h List.not_mem_nil⟩⟩) ?_
          exact fin _ r P2 (by omega) er
        | succ k ih2 =>
          intro i u2 r hi P2 er hr
          obtain ⟨c1', c2⟩ := b5 i (by omega)
          obtain ⟨⟨m, hm, em⟩, -⟩ := S (ch p1 i) (by omega) c2
          obtain ⟨l1, l2, -⟩ := (W.2.2 _ c2).1
          have hs : sm (fun i => 4 * lf (ch p1 i) - 2) (i + 1) = sm (fun i => 4 * lf (ch p1 i) - 2) i + (4 * lf (ch p1 i) - 2) := rfl
          have hs2 := sm_mono (fun i => 4 * lf (ch p1 i) - 2) (show i + 1 ≤ cn p1 by omega)
          refine ab_iload_n X 0 d_MO_dissatisfied_85 rfl rfl ?_
          refine ab_aload_n X 2 d_MO_dissatisfied_86 rfl rfl ?_
          refine ab_gR X fl_MO_39 d_MO_dissatisfied_87 (by first | assumption | decide | (show _ < 124; omega) | (show _ < 61; omega) | (show _ < 20; omega)) (P2.1.mo9) ?_
          refine ab_iload_n X 3 d_MO_dissatisfied_90 rfl rfl ?_
          refine ab_iald X (p1) ⟨rfl, rfl⟩ d_MO_dissatisfied_91 (by first | assumption | decide | (show _ < 124; omega) | (show _ < 61; omega) | (show _ < 20; omega)) (rfl) (show p1 < 40 by omega) (ab_ln_lt _ _) ?_
          refine ab_top (P2.ai (by decide) ec) ?_
          refine ab_icmp_ge X 126 d_MO_dissatisfied_92 rfl (fun hb => absurd hb ((nI_ge (by omega) (by omega)))) (fun _ => ?_)
          refine ab_iload_n X 1 d_MO_dissatisfied_95 rfl rfl ?_
          refine ab_iconst (v := 5) X d_MO_dissatisfied_96 (by decide) ?_
          refine ab_icmp_lt X 106 d_MO_dissatisfied_97 rfl (fun _ => ?_) (fun hb => absurd ((by decide)) hb)
          refine ab_aload_n X 2 d_MO_dissatisfied_106 rfl rfl ?_
          refine ab_aload_n X 2 d_MO_dissatisfied_107 rfl rfl ?_
          refine ab_gR X fl_MO_42 d_MO_dissatisfied_108 (by first | assumption | decide | (show _ < 124; omega) | (show _ < 61; omega) | (show _ < 20; omega)) (P2.1.mo10) ?_
          refine ab_iconst (v := 4) X d_MO_dissatisfied_111 (by decide) ?_
          refine ab_iload_n X 3 d_MO_dissatisfied_112 rfl rfl ?_
          refine ab_imul X d_MO_dissatisfied_113 ?_
          refine ab_iload_n X 0 d_MO_dissatisfied_114 rfl rfl ?_
          refine ab_iadd X d_MO_dissatisfied_115 ?_
          refine ab_iald X (4 * p1 + i) ⟨rfl, rfl⟩ d_MO_dissatisfied_116 (by first | assumption | decide | (show _ < 124; omega) | (show _ < 61; omega) | (show _ < 20; omega)) (nI_4a p1 i) (show 4 * p1 + i < 160 by omega) (ab_ln_lt _ _) ?_
          refine ab_top (P2.ai (by decide) (ech i (by omega))) ?_
          refine ab_callV (as := [ab_I (nI (ch p1 i))]) X (fun h => by cases h) (s_MO_no u2 (ch p1 i) m r P2.1 (by omega) (P2.ai (by decide) em) (by omega) er (by omega)) lk_MO_276 d_MO_dissatisfied_117 rfl rfl (by first | assumption | decide | (show _ < 124; omega) | (show _ < 61; omega) | (show _ < 20; omega)) ⟨by first | exact Nat.le_of_ble_eq_true rfl | (simp only [ab_rm]; omega), by first | exact Nat.le_of_ble_eq_true rfl | (simp only [ab_rm]; omega)⟩ ⟨by first | exact Nat.le_of_ble_eq_true rfl | (simp only [ab_rm]; omega), by first | exact Nat.le_of_ble_eq_true rfl | (simp only [ab_rm]; omega)⟩ (Nat.le_of_ble_eq_true rfl) (fun u117 r117 h117 => ?_)
          obtain ⟨⟨q117, r117⟩, rfl⟩ := h117
          have P117 := P2.trans q117 (by decide)
          refine ab_iinc3 X 0 1 2 3 d_MO_dissatisfied_120 rfl (by decide) rfl rfl rfl rfl rfl rfl ?_
          refine ab_goto X 85 d_MO_dissatisfied_123 rfl ?_
          rw [show nI i + Int32.ofInt 1 = nI (i + 1) from nI_1 i]
          exact ih2 (i + 1) _ (r + m) (by omega) P117 r117 (by omega)
      refine ab_aload_n X 0 d_MO_dissatisfied_0 rfl rfl ?_
      refine ab_gR X fl_MO_45 d_MO_dissatisfied_1 (by first | assumption | decide | (show _ < 124; omega) | (show _ < 61; omega) | (show _ < 20; omega)) (P0.1.mo11) ?_
      refine ab_iload_n X 1 d_MO_dissatisfied_4 rfl rfl ?_
      refine ab_callS (as := [ab_I (nI p1)]) X (fun h => by cases h) (t_MO_d u p1) ls_MO_195 d_MO_dissatisfied_5 rfl rfl ⟨by first | exact Nat.le_of_ble_eq_true rfl | (simp only [ab_rm]; omega), by first | exact Nat.le_of_ble_eq_true rfl | (simp only [ab_rm]; omega)⟩ ⟨by first | exact Nat.le_of_ble_eq_true rfl | (simp only [ab_rm]; omega), by first | exact Nat.le_of_ble_eq_true rfl | (simp only [ab_rm]; omega)⟩ (Nat.le_of_ble_eq_true rfl) (fun u5 r5 h5 => ?_)
      obtain ⟨e5, rfl⟩ := h5
      subst u5
      refine ab_iald X (3 * p1 + 1) ⟨rfl, rfl⟩ d_MO_dissatisfied_8 (by first | assumption | decide | (show _ < 124; omega) | (show _ < 61; omega) | (show _ < 20; omega)) (rfl) (show 3 * p1 + 1 < 72 by omega) (ab_ln_lt _ _) ?_
      refine ab_top ew ?_
      refine ab_istore_n2 X 0 1 d_MO_dissatisfied_9 rfl (by decide) rfl rfl rfl rfl ?_
      refine ab_aload_n X 1 d_MO_dissatisfied_10 rfl rfl ?_
      refine ab_callV (as := []) X (fun h => by cases h) (s_MO_newRow u h) lk_MO_267 d_MO_dissatisfied_11 rfl rfl (by first | assumption | decide | (show _ < 124; omega) | (show _ < 61; omega) | (show _ < 20; omega)) ⟨by first | exact Nat.le_of_ble_eq_true rfl | (simp only [ab_rm]; omega), by first | exact Nat.le_of_ble_eq_true rfl | (simp only [ab_rm]; omega)⟩ ⟨by first | exact Nat.le_of_ble_eq_true rfl | (simp only [ab_rm]; omega), by first | exact Nat.le_of_ble_eq_true rfl | (simp only [ab_rm]; omega)⟩ (Nat.le_of_ble_eq_true rfl) (fun u11 r11 h11 => ?_)
      obtain ⟨⟨q11, r11⟩, rfl⟩ := h11
      have P11 := P0.trans q11 (by decide)
      refine ab_iload_n X 0 d_MO_dissatisfied_14 rfl rfl ?_
      refine ab_iconst (v := 1) X d_MO_dissatisfied_15 (by decide) ?_
      refine ab_icmp_eq X 31 d_MO_dissatisfied_16 rfl (fun hb => absurd hb ((by decide))) (fun _ => ?_)
      refine ab_iload_n X 0 d_MO_dissatisfied_19 rfl rfl ?_
      refine ab_bipush (v := 8) X d_MO_dissatisfied_20 (by decide) ?_
      refine ab_icmp_eq X 31 d_MO_dissatisfied_22 rfl (fun hb => absurd hb ((by decide))) (fun _ => ?_)
      refine ab_iload_n X 0 d_MO_dissatisfied_25 rfl rfl ?_
      refine ab_bipush (v := 6) X d_MO_dissatisfied_26 (by decide) ?_
      refine ab_icmp_ne X 36 d_MO_dissatisfied_28 rfl (fun _ => ?_) (fun hb => absurd hb ((by decide)))
      refine ab_iload_n X 0 d_MO_dissatisfied_36 rfl rfl ?_
      refine ab_iconst (v := 5) X d_MO_dissatisfied_37 (by decide) ?_
      refine ab_icmp_ne X 46 d_MO_dissatisfied_38 rfl (fun _ => ?_) (fun hb => absurd hb ((by decide)))
      refine ab_iload_n X 0 d_MO_dissatisfied_46 rfl rfl ?_
      refine ab_iconst (v := 5) X d_MO_dissatisfied_47 (by decide) ?_
      refine ab_icmp_ne X 63 d_MO_dissatisfied_48 rfl (fun _ => ?_) (fun hb => absurd hb ((by decide)))
      refine ab_iload_n X 0 d_MO_dissatisfied_63 rfl rfl ?_
      refine ab_bipush (v := 6) X d_MO_dissatisfied_64 (by decide) ?_
      refine ab_icmp_ne X 83 d_MO_dissatisfied_66 rfl (fun _ => ?_) (fun hb => absurd hb ((by decide)))
      refine ab_iconst (v := 0) X d_MO_dissatisfied_83 (by decide) ?_
      refine ab_istore_n3 X 0 1 2 d_MO_dissatisfied_84 rfl (by decide) rfl rfl rfl rfl rfl rfl ?_
      exact all (cn p1) 0 _ 0 (by omega) P11 r11 (Nat.zero_le _)
    · have all : ∀ (k i : Nat) (u2 : ab_S) (r : Nat), k + i = cn p1 → gP [26, 27, 115] u u2 → u2.1 17 0 26 = nI r → r ≤ sm (fun i => 4 * lf (ch p1 i) - 2) i → ab_J p l e (ab_rm 3 0 0) s m args below meth c (MQ below (ab_Q D ca ad ab_nQ s.heap.size (fun u' v => (gP [26, 27, 113, 114, 115] u u' ∧ (∀ g, g ≠ p1 → u'.1 18 14 g = u.1 18 14 g) ∧ ∃ m, m ≤ 4 * lf p1 - 2 ∧ u'.1 18 14 p1 = nI m) ∧ v = none)) args s 0 0 (ab_A ad ab_nQ s.heap.size)) D ca (ab_A ad ab_nQ s.heap.size) s.heap 4 0 0 ad ab_nQ u2 85 [(3, ab_I (nI i)), (2, ab_I (nI 4)), (0, ab_O 17 0), (1, ab_I (nI p1))] [] := by
        intro k
        induction k with
        | zero =>
          intro i u2 r hi P2 er hr
          obtain rfl : i = cn p1 := by omega
          refine ab_iload_n X 0 d_MO_dissatisfied_85 rfl rfl ?_
          refine ab_aload_n X 2 d_MO_dissatisfied_86 rfl rfl ?_
          refine ab_gR X fl_MO_39 d_MO_dissatisfied_87 (by first | assumption | decide | (show _ < 124; omega) | (show _ < 61; omega) | (show _ < 20; omega)) (P2.1.mo9) ?_
          refine ab_iload_n X 3 d_MO_dissatisfied_90 rfl rfl ?_
          refine ab_iald X (p1) ⟨rfl, rfl⟩ d_MO_dissatisfied_91 (by first | assumption | decide | (show _ < 124; omega) | (show _ < 61; omega) | (show _ < 20; omega)) (rfl) (show p1 < 40 by omega) (ab_ln_lt _ _) ?_
          refine ab_top (P2.ai (by decide) ec) ?_
          refine ab_icmp_ge X 126 d_MO_dissatisfied_92 rfl (fun _ => ?_) (fun hb => absurd ((nI_le (by omega) (by omega))) hb)
          refine ab_lv (List.forall_mem_cons.mpr ⟨List.mem_of_getElem? (i := 2) rfl, List.forall_mem_cons.mpr ⟨List.mem_of_getElem? (i := 3) rfl, fun _ h => absurd h List.not_mem_nil⟩⟩) ?_
          exact fin _ r P2 (by omega) er
        | succ k ih2 =>
          intro i u2 r hi P2 er hr
          obtain ⟨c1', c2⟩ := b5 i (by omega)
          obtain ⟨⟨m, hm, em⟩, -⟩ := S (ch p1 i) (by omega) c2
          obtain ⟨l1, l2, -⟩ := (W.2.2 _ c2).1
          have hs : sm (fun i => 4 * lf (ch p1 i) - 2) (i + 1) = sm (fun i => 4 * lf (ch p1 i) - 2) i + (4 * lf (ch p1 i) - 2) := rfl
          have hs2 := sm_mono (fun i => 4 * lf (ch p1 i) - 2) (show i + 1 ≤ cn p1 by omega)
          refine ab_iload_n X 0 d_MO_dissatisfied_85 rfl rfl ?_
          refine ab_aload_n X 2 d_MO_dissatisfied_86 rfl rfl ?_
          refine ab_gR X fl_MO_39 d_MO_dissatisfied_87 (by first | assumption | decide | (show _ < 124; omega) | (show _ < 61; omega) | (show _ < 20; omega)) (P2.1.mo9) ?_
          refine ab_iload_n X 3 d_MO_dissatisfied_90 rfl rfl ?_
          refine ab_iald X (p1) ⟨rfl, rfl⟩ d_MO_dissatisfied_91 (by first | assumption | decide | (show _ < 124; omega) | (show _ < 61; omega) | (show _ < 20; omega)) (rfl) (show p1 < 40 by omega) (ab_ln_lt _ _) ?_
          refine ab_top (P2.ai (by decide) ec) ?_
          refine ab_icmp_ge X 126 d_MO_dissatisfied_92 rfl (fun hb => absurd hb ((nI_ge (by omega) (by omega)))) (fun _ => ?_)
          refine ab_iload_n X 1 d_MO_dissatisfied_95 rfl rfl ?_
          refine ab_iconst (v := 5) X d_MO_dissatisfied_96 (by decide) ?_
          refine ab_icmp_lt X 106 d_MO_dissatisfied_97 rfl (fun _ => ?_) (fun hb => absurd ((by decide)) hb)
          refine ab_aload_n X 2 d_MO_dissatisfied_106 rfl rfl ?_
          refine ab_aload_n X 2 d_MO_dissatisfied_107 rfl rfl ?_
          refine ab_gR X fl_MO_42 d_MO_dissatisfied_108 (by first | assumption | decide | (show _ < 124; omega) | (show _ < 61; omega) | (show _ < 20; omega)) (P2.1.mo10) ?_
          refine ab_iconst (v := 4) X d_MO_dissatisfied_111 (by decide) ?_
          refine ab_iload_n X 3 d_MO_dissatisfied_112 rfl rfl ?_
          refine ab_imul X d_MO_dissatisfied_113 ?_
          refine ab_iload_n X 0 d_MO_dissatisfied_114 rfl rfl ?_
          refine ab_iadd X d_MO_dissatisfied_115 ?_
          refine ab_iald X (4 * p1 + i) ⟨rfl, rfl⟩ d_MO_dissatisfied_116 (by first | assumption | decide | (show _ < 124; omega) | (show _ < 61; omega) | (show _ < 20; omega)) (nI_4a p1 i) (show 4 * p1 + i < 160 by omega) (ab_ln_lt _ _) ?_
          refine ab_top (P2.ai (by decide) (ech i (by omega))) ?_
          refine ab_callV (as := [ab_I (nI (ch p1 i))]) X (fun h => by cases h) (s_MO_no u2 (ch p1 i) m r P2.1 (by omega) (P2.ai (by decide) em) (by omega) er (by omega)) lk_MO_276 d_MO_dissatisfied_117 rfl rfl (by first | assumption | decide | (show _ < 124; omega) | (show _ < 61; omega) | (show _ < 20; omega)) ⟨by first | exact Nat.le_of_ble_eq_true rfl | (simp only [ab_rm]; omega), by first | exact Nat.le_of_ble_eq_true rfl | (simp only [ab_rm]; omega)⟩ ⟨by first | exact Nat.le_of_ble_eq_true rfl | (simp only [ab_rm]; omega), by first | exact Nat.le_of_ble_eq_true rfl | (simp only [ab_rm]; omega)⟩ (Nat.le_of_ble_eq_true rfl) (fun u117 r117 h117 => ?_)
          obtain ⟨⟨q117, r117⟩, rfl⟩ := h117
          have P117 := P2.trans q117 (by decide)
          refine ab_iinc3 X 0 1 2 3 d_MO_dissatisfied_120 rfl (by decide) rfl rfl rfl rfl rfl rfl ?_
          refine ab_goto X 85 d_MO_dissatisfied_123 rfl ?_
          rw [show nI i + Int32.ofInt 1 = nI (i + 1) from nI_1 i]
          exact ih2 (i + 1) _ (r + m) (by omega) P117 r117 (by omega)
      refine ab_aload_n X 0 d_MO_dissatisfied_0 rfl rfl ?_
      refine ab_gR X fl_MO_45 d_MO_dissatisfied_1 (by first | assumption | decide | (show _ < 124; omega) | (show _ < 61; omega) | (show _ < 20; omega)) (P0.1.mo11) ?_
      refine ab_iload_n X 1 d_MO_dissatisfied_4 rfl rfl ?_
      refine ab_callS (as := [ab_I (nI p1)]) X (fun h => by cases h) (t_MO_d u p1) ls_MO_195 d_MO_dissatisfied_5 rfl rfl ⟨by first | exact Nat.le_of_ble_eq_true rfl | (simp only [ab_rm]; omega), by first | exact Nat.le_of_ble_eq_true rfl | (simp only [ab_rm]; omega)⟩ ⟨by first | exact Nat.le_of_ble_eq_true rfl | (simp only [ab_rm]; omega), by first | exact Nat.le_of_ble_eq_true rfl | (simp only [ab_rm]; omega)⟩ (Nat.le_of_ble_eq_true rfl) (fun u5 r5 h5 => ?_)
      obtain ⟨e5, rfl⟩ := h5
      subst u5
      refine ab_iald X (3 * p1 + 1) ⟨rfl, rfl⟩ d_MO_dissatisfied_8 (by first | assumption | decide | (show _ < 124; omega) | (show _ < 61; omega) | (show _ < 20; omega)) (rfl) (show 3 * p1 + 1 < 72 by omega) (ab_ln_lt _ _) ?_
      refine ab_top ew ?_
      refine ab_istore_n2 X 0 1 d_MO_dissatisfied_9 rfl (by decide) rfl rfl rfl rfl ?_
      refine ab_aload_n X 1 d_MO_dissatisfied_10 rfl rfl ?_
      refine ab_callV (as := []) X (fun h => by cases h) (s_MO_newRow u h) lk_MO_267 d_MO_dissatisfied_11 rfl rfl (by first | assumption | decide | (show _ < 124; omega) | (show _ < 61; omega) | (show _ < 20; omega)) ⟨by first | exact Nat.le_of_ble_eq_true rfl | (simp only [ab_rm]; omega), by first | exact Nat.le_of_ble_eq_true rfl | (simp only [ab_rm]; omega)⟩ ⟨by first | exact Nat.le_of_ble_eq_true rfl | (simp only [ab_rm]; omega), by first | exact Nat.le_of_ble_eq_true rfl | (simp only [ab_rm]; omega)⟩ (Nat.le_of_ble_eq_true rfl) (fun u11 r11 h11 => ?_)
      obtain ⟨⟨q11, r11⟩, rfl⟩ := h11
      have P11 := P0.trans q11 (by decide)
      refine ab_iload_n X 0 d_MO_dissatisfied_14 rfl rfl ?_
      refine ab_iconst (v := 1) X d_MO_dissatisfied_15 (by decide) ?_
      refine ab_icmp_eq X 31 d_MO_dissatisfied_16 rfl (fun hb => absurd hb ((by decide))) (fun _ => ?_)
      refine ab_iload_n X 0 d_MO_dissatisfied_19 rfl rfl ?_
      refine ab_bipush (v := 8) X d_MO_dissatisfied_20 (by decide) ?_
      refine ab_icmp_eq X 31 d_MO_dissatisfied_22 rfl (fun hb => absurd hb ((by decide))) (fun _ => ?_)
      refine ab_iload_n X 0 d_MO_dissatisfied_25 rfl rfl ?_
      refine ab_bipush (v := 6) X d_MO_dissatisfied_26 (by decide) ?_
      refine ab_icmp_ne X 36 d_MO_dissatisfied_28 rfl (fun _ => ?_) (fun hb => absurd hb ((by decide)))
      refine ab_iload_n X 0 d_MO_dissatisfied_36 rfl rfl ?_
      refine ab_iconst (v := 5) X d_MO_dissatisfied_37 (by decide) ?_
      refine ab_icmp_ne X 46 d_MO_dissatisfied_38 rfl (fun _ => ?_) (fun hb => absurd hb ((by decide)))
      refine ab_iload_n X 0 d_MO_dissatisfied_46 rfl rfl ?_
      refine ab_iconst (v := 5) X d_MO_dissatisfied_47 (by decide) ?_
      refine ab_icmp_ne X 63 d_MO_dissatisfied_48 rfl (fun _ => ?_) (fun hb => absurd hb ((by decide)))
      refine ab_iload_n X 0 d_MO_dissatisfied_63 rfl rfl ?_
      refine ab_bipush (v := 6) X d_MO_dissatisfied_64 (by decide) ?_
      refine ab_icmp_ne X 83 d_MO_dissatisfied_66 rfl (fun _ => ?_) (fun hb => absurd hb ((by decide)))
      refine ab_iconst (v := 0) X d_MO_dissatisfied_83 (by decide) ?_
      refine ab_istore_n3 X 0 1 2 d_MO_dissatisfied_84 rfl (by decide) rfl rfl rfl rfl rfl rfl ?_
      exact all (cn p1) 0 _ 0 (by omega) P11 r11 (Nat.zero_le _)
    ·
      refine ab_aload_n X 0 d_MO_dissatisfied_0 rfl rfl ?_
      refine ab_gR X fl_MO_45 d_MO_dissatisfied_1 (by first | assumption | decide | (show _ < 124; omega) | (show _ < 61; omega) | (show _ < 20; omega)) (P0.1.mo11) ?_
      refine ab_iload_n X 1 d_MO_dissatisfied_4 rfl rfl ?_
      refine ab_callS (as := [ab_I (nI p1)]) X (fun h => by cases h) (t_MO_d u p1) ls_MO_195 d_MO_dissatisfied_5 rfl rfl ⟨by first | exact Nat.le_of_ble_eq_true rfl | (simp only [ab_rm]; omega), by first | exact Nat.le_of_ble_eq_true rfl | (simp only [ab_rm]; omega)⟩ ⟨by first | exact Nat.le_of_ble_eq_true rfl | (simp only [ab_rm]; omega), by first | exact Nat.le_of_ble_eq_true rfl | (simp only [ab_rm]; omega)⟩ (Nat.le_of_ble_eq_true rfl) (fun u5 r5 h5 => ?_)
      obtain ⟨e5, rfl⟩ := h5
      subst u5
      refine ab_iald X (3 * p1 + 1) ⟨rfl, rfl⟩ d_MO_dissatisfied_8 (by first | assumption | decide | (show _ < 124; omega) | (show _ < 61; omega) | (show _ < 20; omega)) (rfl) (show 3 * p1 + 1 < 72 by omega) (ab_ln_lt _ _) ?_
      refine ab_top ew ?_
      refine ab_istore_n2 X 0 1 d_MO_dissatisfied_9 rfl (by decide) rfl rfl rfl rfl ?_
      refine ab_aload_n X 1 d_MO_dissatisfied_10 rfl rfl ?_
      refine ab_callV (as := []) X (fun h => by cases h) (s_MO_newRow u h) lk_MO_267 d_MO_dissatisfied_11 rfl rfl (by first | assumption | decide | (show _ < 124; omega) | (show _ < 61; omega) | (show _ < 20; omega)) ⟨by first | exact Nat.le_of_ble_eq_true rfl | (simp only [ab_rm]; omega), by first | exact Nat.le_of_ble_eq_true rfl | (simp only [ab_rm]; omega)⟩ ⟨by first | exact Nat.le_of_ble_eq_true rfl | (simp only [ab_rm]; omega), by first | exact Nat.le_of_ble_eq_true rfl | (simp only [ab_rm]; omega)⟩ (Nat.le_of_ble_eq_true rfl) (fun u11 r11 h11 => ?_)
      obtain ⟨⟨q11, r11⟩, rfl⟩ := h11
      have P11 := P0.trans q11 (by decide)
      refine ab_iload_n X 0 d_MO_dissatisfied_14 rfl rfl ?_
      refine ab_iconst (v := 1) X d_MO_dissatisfied_15 (by decide) ?_
      refine ab_icmp_eq X 31 d_MO_dissatisfied_16 rfl (fun hb => absurd hb ((by decide))) (fun _ => ?_)
      refine ab_iload_n X 0 d_MO_dissatisfied_19 rfl rfl ?_
      refine ab_bipush (v := 8) X d_MO_dissatisfied_20 (by decide) ?_
      refine ab_icmp_eq X 31 d_MO_dissatisfied_22 rfl (fun hb => absurd hb ((by decide))) (fun _ => ?_)
      refine ab_iload_n X 0 d_MO_dissatisfied_25 rfl rfl ?_
      refine ab_bipush (v := 6) X d_MO_dissatisfied_26 (by decide) ?_
      refine ab_icmp_ne X 36 d_MO_dissatisfied_28 rfl (fun _ => ?_) (fun hb => absurd hb ((by decide)))
      refine ab_iload_n X 0 d_MO_dissatisfied_36 rfl rfl ?_
      refine ab_iconst (v := 5) X d_MO_dissatisfied_37 (by decide) ?_
      refine ab_icmp_ne X 46 d_MO_dissatisfied_38 rfl (fun hb => absurd ((by decide)) hb) (fun _ => ?_)
      refine ab_aload_n X 1 d_MO_dissatisfied_41 rfl rfl ?_
      refine ab_iconst (v := 1) X d_MO_dissatisfied_42 (by decide) ?_
      refine ab_callV (as := [ab_I 1]) X (fun h => by cases h) (s_MO_item1 u11 1 0 P11.1 r11 (by omega)) lk_MO_264 d_MO_dissatisfied_43 rfl rfl (by first | assumption | decide | (show _ < 124; omega) | (show _ < 61; omega) | (show _ < 20; omega)) ⟨by first | exact Nat.le_of_ble_eq_true rfl | (simp only [ab_rm]; omega), by first | exact Nat.le_of_ble_eq_true rfl | (simp only [ab_rm]; omega)⟩ ⟨by first | exact Nat.le_of_ble_eq_true rfl | (simp only [ab_rm]; omega), by first | exact Nat.le_of_ble_eq_true rfl | (simp only [ab_rm]; omega)⟩ (Nat.le_of_ble_eq_true rfl) (fun u43 r43 h43 => ?_)
      obtain ⟨⟨q43, r43⟩, rfl⟩ := h43
      have P43 := P11.trans q43 (by decide)
      refine ab_iload_n X 0 d_MO_dissatisfied_46 rfl rfl ?_
      refine ab_iconst (v := 5) X d_MO_dissatisfied_47 (by decide) ?_
      refine ab_icmp_ne X 63 d_MO_dissatisfied_48 rfl (fun hb => absurd ((by decide)) hb) (fun _ => ?_)
      refine ab_aload_n X 1 d_MO_dissatisfied_51 rfl rfl ?_
      refine ab_aload_n X 1 d_MO_dissatisfied_52 rfl rfl ?_
      refine ab_gR X fl_MO_42 d_MO_dissatisfied_53 (by first | assumption | decide | (show _ < 124; omega) | (show _ < 61; omega) | (show _ < 20; omega)) (P43.1.mo10) ?_
      refine ab_iconst (v := 4) X d_MO_dissatisfied_56 (by decide) ?_
      refine ab_iload_n X 2 d_MO_dissatisfied_57 rfl rfl ?_
      refine ab_imul X d_MO_dissatisfied_58 ?_
      refine ab_iald X (4 * p1) ⟨rfl, rfl⟩ d_MO_dissatisfied_59 (by first | assumption | decide | (show _ < 124; omega) | (show _ < 61; omega) | (show _ < 20; omega)) (nI_4m p1) (show 4 * p1 < 160 by omega) (ab_ln_lt _ _) ?_
      refine ab_top (P43.ai (by decide) ex) ?_
      refine ab_callV (as := [ab_I (nI x)]) X (fun h => by cases h) (s_MO_no u43 x mx (0 + 1) P43.1 (by omega) (P43.ai (by decide) emx) (by omega) r43 (by omega)) lk_MO_276 d_MO_dissatisfied_60 rfl rfl (by first | assumption | decide | (show _ < 124; omega) | (show _ < 61; omega) | (show _ < 20; omega)) ⟨by first | exact Nat.le_of_ble_eq_true rfl | (simp only [ab_rm]; omega), by first | exact Nat.le_of_ble_eq_true rfl | (simp only [ab_rm]; omega)⟩ ⟨by first | exact Nat.le_of_ble_eq_true rfl | (simp only [ab_rm]; omega), by first | exact Nat.le_of_ble_eq_true rfl | (simp only [ab_rm]; omega)⟩ (Nat.le_of_ble_eq_true rfl) (fun u60 r60 h60 => ?_)
      obtain ⟨⟨q60, r60⟩, rfl⟩ := h60
      have P60 := P43.trans q60 (by decide)
      refine ab_iload_n X 0 d_MO_dissatisfied_63 rfl rfl ?_
      refine ab_bipush (v := 6) X d_MO_dissatisfied_64 (by decide) ?_
      refine ab_icmp_ne X 83 d_MO_dissatisfied_66 rfl (fun _ => ?_) (fun hb => absurd hb ((by decide)))
      refine ab_iconst (v := 0) X d_MO_dissatisfied_83 (by decide) ?_
      refine ab_istore_n3 X 0 1 2 d_MO_dissatisfied_84 rfl (by decide) rfl rfl rfl rfl rfl rfl ?_
      refine ab_iload_n X 0 d_MO_dissatisfied_85 rfl rfl ?_
      refine ab_aload_n X 2 d_MO_dissatisfied_86 rfl rfl ?_
      refine ab_gR X fl_MO_39 d_MO_dissatisfied_87 (by first | assumption | decide | (show _ < 124; omega) | (show _ < 61; omega) | (show _ < 20; omega)) (P60.1.mo9) ?_
      refine ab_iload_n X 3 d_MO_dissatisfied_90 rfl rfl ?_
      refine ab_iald X (p1) ⟨rfl, rfl⟩ d_MO_dissatisfied_91 (by first | assumption | decide | (show _ < 124; omega) | (show _ < 61; omega) | (show _ < 20; omega)) (rfl) (show p1 < 40 by omega) (ab_ln_lt _ _) ?_
      refine ab_top (P60.ai (by decide) ec) ?_
      refine ab_icmp_ge X 126 d_MO_dissatisfied_92 rfl (fun h92 => ?_) (fun h92 => ?_)
      ·
        refine ab_lv (List.forall_mem_cons.mpr ⟨List.mem_of_getElem? (i := 2) rfl, List.forall_mem_cons.mpr ⟨List.mem_of_getElem? (i := 3) rfl, fun _ h => absurd h List.not_mem_nil⟩⟩) ?_
        exact fin _ (0 + 1 + mx) P60 (by omega) r60
      ·
        refine ab_iload_n X 1 d_MO_dissatisfied_95 rfl rfl ?_
        refine ab_iconst (v := 5) X d_MO_dissatisfied_96 (by decide) ?_
        refine ab_icmp_lt X 106 d_MO_dissatisfied_97 rfl (fun hb => absurd hb ((by decide))) (fun _ => ?_)
        refine ab_iload_n X 1 d_MO_dissatisfied_100 rfl rfl ?_
        refine ab_bipush (v := 7) X d_MO_dissatisfied_101 (by decide) ?_
        refine ab_icmp_ne X 126 d_MO_dissatisfied_103 rfl (fun _ => ?_) (fun hb => absurd hb ((by decide)))
        refine ab_lv (List.forall_mem_cons.mpr ⟨List.mem_of_getElem? (i := 2) rfl, List.forall_mem_cons.mpr ⟨List.mem_of_getElem? (i := 3) rfl, fun _ h => absurd h List.not_mem_nil⟩⟩) ?_
        exact fin _ (0 + 1 + mx) P60 (by omega) r60
    ·
      refine ab_aload_n X 0 d_MO_dissatisfied_0 rfl rfl ?_
      refine ab_gR X fl_MO_45 d_MO_dissatisfied_1 (by first | assumption | decide | (show _ < 124; omega) | (show _ < 61; omega) | (show _ < 20; omega)) (P0.1.mo11) ?_
      refine ab_iload_n X 1 d_MO_dissatisfied_4 rfl rfl ?_
      refine ab_callS (as := [ab_I (nI p1)]) X (fun h => by cases h) (t_MO_d u p1) ls_MO_195 d_MO_dissatisfied_5 rfl rfl ⟨by first | exact Nat.le_of_ble_eq_true rfl | (simp only [ab_rm]; omega), by first | exact Nat.le_of_ble_eq_true rfl | (simp only [ab_rm]; omega)⟩ ⟨by first | exact Nat.le_of_ble_eq_true rfl | (simp only [ab_rm]; omega), by first | exact Nat.le_of_ble_eq_true rfl | (simp only [ab_rm]; omega)⟩ (Nat.le_of_ble_eq_true rfl) (fun u5 r5 h5 => ?_)
      obtain ⟨e5, rfl⟩ := h5
      subst u5
      refine ab_iald X (3 * p1 + 1) ⟨rfl, rfl⟩ d_MO_dissatisfied_8 (by first | assumption | decide | (show _ < 124; omega) | (show _ < 61; omega) | (show _ < 20; omega)) (rfl) (show 3 * p1 + 1 < 72 by omega) (ab_ln_lt _ _) ?_
      refine ab_top ew ?_
      refine ab_istore_n2 X 0 1 d_MO_dissatisfied_9 rfl (by decide) rfl rfl rfl rfl ?_
      refine ab_aload_n X 1 d_MO_dissatisfied_10 rfl rfl ?_
      refine ab_callV (as := []) X (fun h => by cases h) (s_MO_newRow u h) lk_MO_267 d_MO_dissatisfied_11 rfl rfl (by first | assumption | decide | (show _ < 124; omega) | (show _ < 61; omega) | (show _ < 20; omega)) ⟨by first | exact Nat.le_of_ble_eq_true rfl | (simp only [ab_rm]; omega), by first | exact Nat.le_of_ble_eq_true rfl | (simp only [ab_rm]; omega)⟩ ⟨by first | exact Nat.le_of_ble_eq_true rfl | (simp only [ab_rm]; omega), by first | exact Nat.le_of_ble_eq_true rfl | (simp only [ab_rm]; omega)⟩ (Nat.le_of_ble_eq_true rfl) (fun u11 r11 h11 => ?_)
      obtain ⟨⟨q11, r11⟩, rfl⟩ := h11
      have P11 := P0.trans q11 (by decide)
      refine ab_iload_n X 0 d_MO_dissatisfied_14 rfl rfl ?_
      refine ab_iconst (v := 1) X d_MO_dissatisfied_15 (by decide) ?_
      refine ab_icmp_eq X 31 d_MO_dissatisfied_16 rfl (fun hb => absurd hb ((by decide))) (fun _ => ?_)
      refine ab_iload_n X 0 d_MO_dissatisfied_19 rfl rfl ?_
      refine ab_bipush (v := 8) X d_MO_dissatisfied_20 (by decide) ?_
      refine ab_icmp_eq X 31 d_MO_dissatisfied_22 rfl (fun hb => absurd hb ((by decide))) (fun _ => ?_)
      refine ab_iload_n X 0 d_MO_dissatisfied_25 rfl rfl ?_
      refine ab_bipush (v := 6) X d_MO_dissatisfied_26 (by decide) ?_
      refine ab_icmp_ne X 36 d_MO_dissatisfied_28 rfl (fun hb => absurd ((by decide)) hb) (fun _ => ?_)
      refine ab_aload_n X 1 d_MO_dissatisfied_31 rfl rfl ?_
      refine ab_iconst (v := 0) X d_MO_dissatisfied_32 (by decide) ?_
      refine ab_callV (as := [ab_I 0]) X (fun h => by cases h) (s_MO_item1 u11 0 0 P11.1 r11 (by omega)) lk_MO_264 d_MO_dissatisfied_33 rfl rfl (by first | assumption | decide | (show _ < 124; omega) | (show _ < 61; omega) | (show _ < 20; omega)) ⟨by first | exact Nat.le_of_ble_eq_true rfl | (simp only [ab_rm]; omega), by first | exact Nat.le_of_ble_eq_true rfl | (simp only [ab_rm]; omega)⟩ ⟨by first | exact Nat.le_of_ble_eq_true rfl | (simp only [ab_rm]; omega), by first | exact Nat.le_of_ble_eq_true rfl | (simp only [ab_rm]; omega)⟩ (Nat.le_of_ble_eq_true rfl) (fun u33 r33 h33 => ?_)
      obtain ⟨⟨q33, r33⟩, rfl⟩ := h33
      have P33 := P11.trans q33 (by decide)
      refine ab_iload_n X 0 d_MO_dissatisfied_36 rfl rfl ?_
      refine ab_iconst (v := 5) X d_MO_dissatisfied_37 (by decide) ?_
      refine ab_icmp_ne X 46 d_MO_dissatisfied_38 rfl (fun _ => ?_) (fun hb => absurd hb ((by decide)))
      refine ab_iload_n X 0 d_MO_dissatisfied_46 rfl rfl ?_
      refine ab_iconst (v := 5) X d_MO_dissatisfied_47 (by decide) ?_
      refine ab_icmp_ne X 63 d_MO_dissatisfied_48 rfl (fun _ => ?_) (fun hb => absurd hb ((by decide)))
      refine ab_iload_n X 0 d_MO_dissatisfied_63 rfl rfl ?_
      refine ab_bipush (v := 6) X d_MO_dissatisfied_64 (by decide) ?_
      refine ab_icmp_ne X 83 d_MO_dissatisfied_66 rfl (fun hb => absurd ((by decide)) hb) (fun _ => ?_)
      refine ab_aload_n X 1 d_MO_dissatisfied_69 rfl rfl ?_
      refine ab_aload_n X 1 d_MO_dissatisfied_70 rfl rfl ?_
      refine ab_gR X fl_MO_42 d_MO_dissatisfied_71 (by first | assumption | decide | (show _ < 124; omega) | (show _ < 61; omega) | (show _ < 20; omega)) (P33.1.mo10) ?_
      refine ab_iconst (v := 4) X d_MO_dissatisfied_74 (by decide) ?_
      refine ab_iload_n X 2 d_MO_dissatisfied_75 rfl rfl ?_
      refine ab_imul X d_MO_dissatisfied_76 ?_
      refine ab_iconst (v := 1) X d_MO_dissatisfied_77 (by decide) ?_
      refine ab_iadd X d_MO_dissatisfied_78 ?_
      refine ab_iald X (4 * p1 + 1) ⟨rfl, rfl⟩ d_MO_dissatisfied_79 (by first | assumption | decide | (show _ < 124; omega) | (show _ < 61; omega) | (show _ < 20; omega)) (nI_4b p1) (show 4 * p1 + 1 < 160 by omega) (ab_ln_lt _ _) ?_
      refine ab_top (P33.ai (by decide) ey) ?_
      refine ab_callV (as := [ab_I (nI y)]) X (fun h => by cases h) (s_MO_no u33 y my (0 + 1) P33.1 (by omega) (P33.ai (by decide) emy) (by omega) r33 (by omega)) lk_MO_276 d_MO_dissatisfied_80 rfl rfl (by first | assumption | decide | (show _ < 124; omega) | (show _ < 61; omega) | (show _ < 20; omega)) ⟨by first | exact Nat.le_of_ble_eq_true rfl | (simp only [ab_rm]; omega), by first | exact Nat.le_of_ble_eq_true rfl | (simp only [ab_rm]; omega)⟩ ⟨by first | exact Nat.le_of_ble_eq_true rfl | (simp only [ab_rm]; omega), by first | exact Nat.le_of_ble_eq_true rfl | (simp only [ab_rm]; omega)⟩ (Nat.le_of_ble_eq_true rfl) (fun u80 r80 h80 => ?_)
      obtain ⟨⟨q80, r80⟩, rfl⟩ := h80
      have P80 := P33.trans q80 (by decide)
      refine ab_iconst (v := 0) X d_MO_dissatisfied_83 (by decide) ?_
      refine ab_istore_n3 X 0 1 2 d_MO_dissatisfied_84 rfl (by decide) rfl rfl rfl rfl rfl rfl ?_
      refine ab_iload_n X 0 d_MO_dissatisfied_85 rfl rfl ?_
      refine ab_aload_n X 2 d_MO_dissatisfied_86 rfl rfl ?_
      refine ab_gR X fl_MO_39 d_MO_dissatisfied_87 (by first | assumption | decide | (show _ < 124; omega) | (show _ < 61; omega) | (show _ < 20; omega)) (P80.1.mo9) ?_
      refine ab_iload_n X 3 d_MO_dissatisfied_90 rfl rfl ?_
      refine ab_iald X (p1) ⟨rfl, rfl⟩ d_MO_dissatisfied_91 (by first | assumption | decide | (show _ < 124; omega) | (show _ < 61; omega) | (show _ < 20; omega)) (rfl) (show p1 < 40 by omega) (ab_ln_lt _ _) ?_
      refine ab_top (P80.ai (by decide) ec) ?_
      refine ab_icmp_ge X 126 d_MO_dissatisfied_92 rfl (fun h92 => ?_) (fun h92 => ?_)
      ·
        refine ab_lv (List.forall_mem_cons.mpr ⟨List.mem_of_getElem? (i := 2) rfl, List.forall_mem_cons.mpr ⟨List.mem_of_getElem? (i := 3) rfl, fun _ h => absurd h List.not_mem_nil⟩⟩) ?_
        exact fin _ (0 + 1 + my) P80 (by omega) r80
      ·
        refine ab_iload_n X 1 d_MO_dissatisfied_95 rfl rfl ?_
        refine ab_iconst (v := 5) X d_MO_dissatisfied_96 (by decide) ?_
        refine ab_icmp_lt X 106 d_MO_dissatisfied_97 rfl (fun hb => absurd hb ((by decide))) (fun _ => ?_)
        refine ab_iload_n X 1 d_MO_dissatisfied_100 rfl rfl ?_
        refine ab_bipush (v := 7) X d_MO_dissatisfied_101 (by decide) ?_
        refine ab_icmp_ne X 126 d_MO_dissatisfied_103 rfl (fun _ => ?_) (fun hb => absurd hb ((by decide)))
        refine ab_lv (List.forall_mem_cons.mpr ⟨List.mem_of_getElem? (i := 2) rfl, List.forall_mem_cons.mpr ⟨List.mem_of_getElem? (i := 3) rfl, fun _ h => absurd h List.not_mem_nil⟩⟩) ?_
        exact fin _ (0 + 1 + my) P80 (by omega) r80
  · obtain rfl : w = 7 := by omega
    obtain ⟨n2, n4, -, -, b5, b6⟩ := (W.2.2 p1 hp).2.2 (by omega)
    have hB := sm_lf (fun i => lf (ch p1 i)) (cn p1) (fun i hi => (W.2.2 _ (b5 i hi).2).1.1)
    have all : ∀ (k i : Nat) (u2 : ab_S) (r : Nat), k + i = cn p1 → gP [26, 27, 115] u u2 → u2.1 17 0 26 = nI r → r ≤ sm (fun i => 4 * lf (ch p1 i) - 2) i → ab_J p l e (ab_rm 3 0 0) s m args below meth c (MQ below (ab_Q D ca ad ab_nQ s.heap.size (fun u' v => (gP [26, 27, 113, 114, 115] u u' ∧ (∀ g, g ≠ p1 → u'.1 18 14 g = u.1 18 14 g) ∧ ∃ m, m ≤ 4 * lf p1 - 2 ∧ u'.1 18 14 p1 = nI m) ∧ v = none)) args s 0 0 (ab_A ad ab_nQ s.heap.size)) D ca (ab_A ad ab_nQ s.heap.size) s.heap 4 0 0 ad ab_nQ u2 85 [(3, ab_I (nI i)), (2, ab_I (nI 7)), (0, ab_O 17 0), (1, ab_I (nI p1))] [] := by
      intro k
      induction k with
      | zero =>
        intro i u2 r hi P2 er hr
        obtain rfl : i = cn p1 := by omega
        refine ab_iload_n X 0 d_MO_dissatisfied_85 rfl rfl ?_
        refine ab_aload_n X 2 d_MO_dissatisfied_86 rfl rfl ?_
        refine ab_gR X fl_MO_39 d_MO_dissatisfied_87 (by first | assumption | decide | (show _ < 124; omega) | (show _ < 61; omega) | (show _ < 20; omega)) (P2.1.mo9) ?_
        refine ab_iload_n X 3 d_MO_dissatisfied_90 rfl rfl ?_
        refine ab_iald X (p1) ⟨rfl, rfl⟩ d_MO_dissatisfied_91 (by first | assumption | decide | (show _ < 124; omega) | (show _ < 61; omega) | (show _ < 20; omega)) (rfl) (show p1 < 40 by omega) (ab_ln_lt _ _) ?_
        refine ab_top (P2.ai (by decide) ec) ?_
        refine ab_icmp_ge X 126 d_MO_dissatisfied_92 rfl (fun _ => ?_) (fun hb => absurd ((nI_le (by omega) (by omega))) hb)
        refine ab_lv (List.forall_mem_cons.mpr ⟨List.mem_of_getElem? (i := 2) rfl, List.forall_mem_cons.mpr ⟨List.mem_of_getElem? (i := 3) rfl, fun _ h => absurd h List.not_mem_nil⟩⟩) ?_
        exact fin _ r P2 (by omega) er
      | succ k ih2 =>
        intro i u2 r hi P2 er hr
        obtain ⟨c1', c2⟩ := b5 i (by omega)
        obtain ⟨⟨m, hm, em⟩, -⟩ := S (ch p1 i) (by omega) c2
        obtain ⟨l1, l2, -⟩ := (W.2.2 _ c2).1
        have hs : sm (fun i => 4 * lf (ch p1 i) - 2) (i + 1) = sm (fun i => 4 * lf (ch p1 i) - 2) i + (4 * lf (ch p1 i) - 2) := rfl
        have hs2 := sm_mono (fun i => 4 * lf (ch p1 i) - 2) (show i + 1 ≤ cn p1 by omega)
        refine ab_iload_n X 0 d_MO_dissatisfied_85 rfl rfl ?_
        refine ab_aload_n X 2 d_MO_dissatisfied_86 rfl rfl ?_
        refine ab_gR X fl_MO_39 d_MO_dissatisfied_87 (by first | assumption | decide | (show _ < 124; omega) | (show _ < 61; omega) | (show _ < 20; omega)) (P2.1.mo9) ?_
        refine ab_iload_n X 3 d_MO_dissatisfied_90 rfl rfl ?_
        refine ab_iald X (p1) ⟨rfl, rfl⟩ d_MO_dissatisfied_91 (by first | assumption | decide | (show _ < 124; omega) | (show _ < 61; omega) | (show _ < 20; omega)) (rfl) (show p1 < 40 by omega) (ab_ln_lt _ _) ?_
        refine ab_top (P2.ai (by decide) ec) ?_
        refine ab_icmp_ge X 126 d_MO_dissatisfied_92 rfl (fun hb => absurd hb ((nI_ge (by omega) (by omega)))) (fun _ => ?_)
        refine ab_iload_n X 1 d_MO_dissatisfied_95 rfl rfl ?_
        refine ab_iconst (v := 5) X d_MO_dissatisfied_96 (by decide) ?_
        refine ab_icmp_lt X 106 d_MO_dissatisfied_97 rfl (fun hb => absurd hb ((by decide))) (fun _ => ?_)
        refine ab_iload_n X 1 d_MO_dissatisfied_100 rfl rfl ?_
        refine ab_bipush (v := 7) X d_MO_dissatisfied_101 (by decide) ?_
        refine ab_icmp_ne X 126 d_MO_dissatisfied_103 rfl (fun hb => absurd ((by decide)) hb) (fun _ => ?_)
        refine ab_aload_n X 2 d_MO_dissatisfied_106 rfl rfl ?_
        refine ab_aload_n X 2 d_MO_dissatisfied_107 rfl rfl ?_
        refine ab_gR X fl_MO_42 d_MO_dissatisfied_108 (by first | assumption | decide | (show _ < 124; omega) | (show _ < 61; omega) | (show _ < 20; omega)) (P2.1.mo10) ?_
        refine ab_iconst (v := 4) X d_MO_dissatisfied_111 (by decide) ?_
        refine ab_iload_n X 3 d_MO_dissatisfied_112 rfl rfl ?_
        refine ab_imul X d_MO_dissatisfied_113 ?_
        refine ab_iload_n X 0 d_MO_dissatisfied_114 rfl rfl ?_
        refine ab_iadd X d_MO_dissatisfied_115 ?_
        refine ab_iald X (4 * p1 + i) ⟨rfl, rfl⟩ d_MO_dissatisfied_116 (by first | assumption | decide | (show _ < 124; omega) | (show _ < 61; omega) | (show _ < 20; omega)) (nI_4a p1 i) (show 4 * p1 + i < 160 by omega) (ab_ln_lt _ _) ?_
        refine ab_top (P2.ai (by decide) (ech i (by omega))) ?_
        refine ab_callV (as := [ab_I (nI (ch p1 i))]) X (fun h => by cases h) (s_MO_no u2 (ch p1 i) m r P2.1 (by omega) (P2.ai (by decide) em) (by omega) er (by omega)) lk_MO_276 d_MO_dissatisfied_117 rfl rfl (by first | assumption | decide | (show _ < 124; omega) | (show _ < 61; omega) | (show _ < 20; omega)) ⟨by first | exact Nat.le_of_ble_eq_true rfl | (simp only [ab_rm]; omega), by first | exact Nat.le_of_ble_eq_true rfl | (simp only [ab_rm]; omega)⟩ ⟨by first | exact Nat.le_of_ble_eq_true rfl | (simp only [ab_rm]; omega), by first | exact Nat.le_of_ble_eq_true rfl | (simp only [ab_rm]; omega)⟩ (Nat.le_of_ble_eq_true rfl) (fun u117 r117 h117 => ?_)
        obtain ⟨⟨q117, r117⟩, rfl⟩ := h117
        have P117 := P2.trans q117 (by decide)
        refine ab_iinc3 X 0 1 2 3 d_MO_dissatisfied_120 rfl (by decide) rfl rfl rfl rfl rfl rfl ?_
        refine ab_goto X 85 d_MO_dissatisfied_123 rfl ?_
        rw [show nI i + Int32.ofInt 1 = nI (i + 1) from nI_1 i]
        exact ih2 (i + 1) _ (r + m) (by omega) P117 r117 (by omega)
    refine ab_aload_n X 0 d_MO_dissatisfied_0 rfl rfl ?_
    refine ab_gR X fl_MO_45 d_MO_dissatisfied_1 (by first | assumption | decide | (show _ < 124; omega) | (show _ < 61; omega) | (show _ < 20; omega)) (P0.1.mo11) ?_
    refine ab_iload_n X 1 d_MO_dissatisfied_4 rfl rfl ?_
    refine ab_callS (as := [ab_I (nI p1)]) X (fun h => by cases h) (t_MO_d u p1) ls_MO_195 d_MO_dissatisfied_5 rfl rfl ⟨by first | exact Nat.le_of_ble_eq_true rfl | (simp only [ab_rm]; omega), by first | exact Nat.le_of_ble_eq_true rfl | (simp only [ab_rm]; omega)⟩ ⟨by first | exact Nat.le_of_ble_eq_true rfl | (simp only [ab_rm]; omega), by first | exact Nat.le_of_ble_eq_true rfl | (simp only [ab_rm]; omega)⟩ (Nat.le_of_ble_eq_true rfl) (fun u5 r5 h5 => ?_)
    obtain ⟨e5, rfl⟩ := h5
    subst u5
    refine ab_iald X (3 * p1 + 1) ⟨rfl, rfl⟩ d_MO_dissatisfied_8 (by first | assumption | decide | (show _ < 124; omega) | (show _ < 61; omega) | (show _ < 20; omega)) (rfl) (show 3 * p1 + 1 < 72 by omega) (ab_ln_lt _ _) ?_
    refine ab_top ew ?_
    refine ab_istore_n2 X 0 1 d_MO_dissatisfied_9 rfl (by decide) rfl rfl rfl rfl ?_
    refine ab_aload_n X 1 d_MO_dissatisfied_10 rfl rfl ?_
    refine ab_callV (as := []) X (fun h => by cases h) (s_MO_newRow u h) lk_MO_267 d_MO_dissatisfied_11 rfl rfl (by first | assumption | decide | (show _ < 124; omega) | (show _ < 61; omega) | (show _ < 20; omega)) ⟨by first | exact Nat.le_of_ble_eq_true rfl | (simp only [ab_rm]; omega), by first | exact Nat.le_of_ble_eq_true rfl | (simp only [ab_rm]; omega)⟩ ⟨by first | exact Nat.le_of_ble_eq_true rfl | (simp only [ab_rm]; omega), by first | exact Nat.le_of_ble_eq_true rfl | (simp only [ab_rm]; omega)⟩ (Nat.le_of_ble_eq_true rfl) (fun u11 r11 h11 => ?_)
    obtain ⟨⟨q11, r11⟩, rfl⟩ := h11
    have P11 := P0.trans q11 (by decide)
    refine ab_iload_n X 0 d_MO_dissatisfied_14 rfl rfl ?_
    refine ab_iconst (v := 1) X d_MO_dissatisfied_15 (by decide) ?_
    refine ab_icmp_eq X 31 d_MO_dissatisfied_16 rfl (fun hb => absurd hb ((by decide))) (fun _ => ?_)
    refine ab_iload_n X 0 d_MO_dissatisfied_19 rfl rfl ?_
    refine ab_bipush (v := 8) X d_MO_dissatisfied_20 (by decide) ?_
    refine ab_icmp_eq X 31 d_MO_dissatisfied_22 rfl (fun hb => absurd hb ((by decide))) (fun _ => ?_)
    refine ab_iload_n X 0 d_MO_dissatisfied_25 rfl rfl ?_
    refine ab_bipush (v := 6) X d_MO_dissatisfied_26 (by decide) ?_
    refine ab_icmp_ne X 36 d_MO_dissatisfied_28 rfl (fun _ => ?_) (fun hb => absurd hb ((by decide)))
    refine ab_iload_n X 0 d_MO_dissatisfied_36 rfl rfl ?_
    refine ab_iconst (v := 5) X d_MO_dissatisfied_37 (by decide) ?_
    refine ab_icmp_ne X 46 d_MO_dissatisfied_38 rfl (fun _ => ?_) (fun hb => absurd hb ((by decide)))
    refine ab_iload_n X 0 d_MO_dissatisfied_46 rfl rfl ?_
    refine ab_iconst (v := 5) X d_MO_dissatisfied_47 (by decide) ?_
    refine ab_icmp_ne X 63 d_MO_dissatisfied_48 rfl (fun _ => ?_) (fun hb => absurd hb ((by decide)))
    refine ab_iload_n X 0 d_MO_dissatisfied_63 rfl rfl ?_
    refine ab_bipush (v := 6) X d_MO_dissatisfied_64 (by decide) ?_
    refine ab_icmp_ne X 83 d_MO_dissatisfied_66 rfl (fun _ => ?_) (fun hb => absurd hb ((by decide)))
    refine ab_iconst (v := 0) X d_MO_dissatisfied_83 (by decide) ?_
    refine ab_istore_n3 X 0 1 2 d_MO_dissatisfied_84 rfl (by decide) rfl rfl rfl rfl rfl rfl ?_
    exact all (cn p1) 0 _ 0 (by omega) P11 r11 (Nat.zero_le _)
end SaMSat2

