/-! The reference's reader: a whole policy, and read. -/
theorem neg_neg' {y : Int32} (h : y < 0) : ¬ (-1 : Int32) - y < 0 := by
  have h2 := Int32.lt_iff_toInt_lt.mp h
  rw [show (0 : Int32).toInt = 0 from by decide] at h2
  have lo := Int32.le_toInt y
  rw [Int32.lt_iff_toInt_lt, Int32.toInt_sub, show (-1 : Int32).toInt = -1 from by decide, show (0 : Int32).toInt = 0 from by decide, Int.bmod_eq_of_le (by omega) (by omega)]
  omega
section SaMRead
variable {l : Launch} {D : va_G} {ca : Nat → ClassId}
abbrev b_MO_mayGoOn : ByteArray := prog_10_method_8_code
def y_MO_mayGoOn : MethodName := ⟨"PolicyForgeModel", "mayGoOn", "(I)Z"⟩
theorem d_MO_mayGoOn_0 : decode b_MO_mayGoOn 0 = .ok (.aload_n 0, 1) := by decide +kernel
theorem d_MO_mayGoOn_1 : decode b_MO_mayGoOn 1 = .ok (.getfield 33, 3) := by decide +kernel
theorem d_MO_mayGoOn_4 : decode b_MO_mayGoOn 4 = .ok (.iload_n 1, 1) := by decide +kernel
theorem d_MO_mayGoOn_5 : decode b_MO_mayGoOn 5 = .ok (.iaload, 1) := by decide +kernel
theorem d_MO_mayGoOn_6 : decode b_MO_mayGoOn 6 = .ok (.bipush 7, 2) := by decide +kernel
theorem d_MO_mayGoOn_8 : decode b_MO_mayGoOn 8 = .ok (.if_icmp .ge 21, 3) := by decide +kernel
theorem d_MO_mayGoOn_11 : decode b_MO_mayGoOn 11 = .ok (.aload_n 0, 1) := by decide +kernel
theorem d_MO_mayGoOn_12 : decode b_MO_mayGoOn 12 = .ok (.getfield 39, 3) := by decide +kernel
theorem d_MO_mayGoOn_15 : decode b_MO_mayGoOn 15 = .ok (.iload_n 1, 1) := by decide +kernel
theorem d_MO_mayGoOn_16 : decode b_MO_mayGoOn 16 = .ok (.iaload, 1) := by decide +kernel
theorem d_MO_mayGoOn_17 : decode b_MO_mayGoOn 17 = .ok (.iconst 2, 1) := by decide +kernel
theorem d_MO_mayGoOn_18 : decode b_MO_mayGoOn 18 = .ok (.if_icmp .ge 7, 3) := by decide +kernel
theorem d_MO_mayGoOn_21 : decode b_MO_mayGoOn 21 = .ok (.iconst 1, 1) := by decide +kernel
theorem d_MO_mayGoOn_22 : decode b_MO_mayGoOn 22 = .ok (.goto 22, 3) := by decide +kernel
theorem d_MO_mayGoOn_25 : decode b_MO_mayGoOn 25 = .ok (.iconst 0, 1) := by decide +kernel
theorem d_MO_mayGoOn_26 : decode b_MO_mayGoOn 26 = .ok (.goto 18, 3) := by decide +kernel
theorem d_MO_mayGoOn_29 : decode b_MO_mayGoOn 29 = .ok (.aload_n 0, 1) := by decide +kernel
theorem d_MO_mayGoOn_30 : decode b_MO_mayGoOn 30 = .ok (.getfield 39, 3) := by decide +kernel
theorem d_MO_mayGoOn_33 : decode b_MO_mayGoOn 33 = .ok (.iload_n 1, 1) := by decide +kernel
theorem d_MO_mayGoOn_34 : decode b_MO_mayGoOn 34 = .ok (.iaload, 1) := by decide +kernel
theorem d_MO_mayGoOn_35 : decode b_MO_mayGoOn 35 = .ok (.iconst 4, 1) := by decide +kernel
theorem d_MO_mayGoOn_36 : decode b_MO_mayGoOn 36 = .ok (.if_icmp .ge 7, 3) := by decide +kernel
theorem d_MO_mayGoOn_39 : decode b_MO_mayGoOn 39 = .ok (.iconst 1, 1) := by decide +kernel
theorem d_MO_mayGoOn_40 : decode b_MO_mayGoOn 40 = .ok (.goto 4, 3) := by decide +kernel
theorem d_MO_mayGoOn_43 : decode b_MO_mayGoOn 43 = .ok (.iconst 0, 1) := by decide +kernel
theorem d_MO_mayGoOn_44 : decode b_MO_mayGoOn 44 = .ok (.ireturn, 1) := by decide +kernel
set_option maxRecDepth 100000 in
set_option maxHeartbeats 1000000 in
theorem t_MO_mayGoOn (u : ab_S) (o k n : Nat) (h : mR u.2.1) (ho : o < 40) (ek : u.1 18 1 o = nI k) (en : u.1 18 3 o = nI n) (hk : k ≤ 7) (hn : n ≤ 4) : ab_C false l D ca y_MO_mayGoOn b_MO_mayGoOn 2 (some FieldType.boolean) 0 ab_nQ u [ab_O 17 0, ab_I (nI o)] (fun u' v => u' = u ∧ ∃ b : Int32, (b = 0 ∨ (b = 1 ∧ n < 4 ∧ (k < 7 → n < 2))) ∧ v = some (ab_I b)) := by
  refine ab_C.of (by decide) (Nat.le_of_ble_eq_true rfl) ?_
  intro p e s m args below meth c ad X hZ hr0 hlk
  have P0 : gP [] u u := gP.rf h
  refine ab_aload_n X 0 d_MO_mayGoOn_0 rfl rfl ?_
  refine ab_gR X fl_MO_33 d_MO_mayGoOn_1 (by first | assumption | decide | (show _ < 124; omega) | (show _ < 61; omega) | (show _ < 20; omega)) (P0.1.mo7) ?_
  refine ab_iload_n X 1 d_MO_mayGoOn_4 rfl rfl ?_
  refine ab_iald X (o) ⟨rfl, rfl⟩ d_MO_mayGoOn_5 (by first | assumption | decide | (show _ < 124; omega) | (show _ < 61; omega) | (show _ < 20; omega)) (rfl) (ho) (ab_ln_lt _ _) ?_
  refine ab_top ek ?_
  refine ab_bipush (v := 7) X d_MO_mayGoOn_6 (by decide) ?_
  refine ab_icmp_ge X 29 d_MO_mayGoOn_8 rfl (fun h8 => ?_) (fun h8 => ?_)
  ·
    have k7 := nI_le_of (b := 7) h8 (by omega)
    refine ab_aload_n X 0 d_MO_mayGoOn_29 rfl rfl ?_
    refine ab_gR X fl_MO_39 d_MO_mayGoOn_30 (by first | assumption | decide | (show _ < 124; omega) | (show _ < 61; omega) | (show _ < 20; omega)) (P0.1.mo9) ?_
    refine ab_iload_n X 1 d_MO_mayGoOn_33 rfl rfl ?_
    refine ab_iald X (o) ⟨rfl, rfl⟩ d_MO_mayGoOn_34 (by first | assumption | decide | (show _ < 124; omega) | (show _ < 61; omega) | (show _ < 20; omega)) (rfl) (ho) (ab_ln_lt _ _) ?_
    refine ab_top en ?_
    refine ab_iconst (v := 4) X d_MO_mayGoOn_35 (by decide) ?_
    refine ab_icmp_ge X 43 d_MO_mayGoOn_36 rfl (fun h36 => ?_) (fun h36 => ?_)
    ·
      refine ab_iconst (v := 0) X d_MO_mayGoOn_43 (by decide) ?_
      first | exact ab_retz X hr0 hlk (Or.inl rfl) d_MO_mayGoOn_44 ⟨rfl, _, Or.inl rfl, rfl⟩ | exact ab_retz X hr0 hlk (Or.inr rfl) d_MO_mayGoOn_44 ⟨rfl, _, Or.inr ⟨rfl, by omega, by omega⟩, rfl⟩
    ·
      have n4 := nI_lt_of (b := 4) h36 (by omega)
      refine ab_iconst (v := 1) X d_MO_mayGoOn_39 (by decide) ?_
      refine ab_goto X 44 d_MO_mayGoOn_40 rfl ?_
      first | exact ab_retz X hr0 hlk (Or.inl rfl) d_MO_mayGoOn_44 ⟨rfl, _, Or.inl rfl, rfl⟩ | exact ab_retz X hr0 hlk (Or.inr rfl) d_MO_mayGoOn_44 ⟨rfl, _, Or.inr ⟨rfl, by omega, by omega⟩, rfl⟩
  ·
    have k7 := nI_lt_of (b := 7) h8 (by omega)
    refine ab_aload_n X 0 d_MO_mayGoOn_11 rfl rfl ?_
    refine ab_gR X fl_MO_39 d_MO_mayGoOn_12 (by first | assumption | decide | (show _ < 124; omega) | (show _ < 61; omega) | (show _ < 20; omega)) (P0.1.mo9) ?_
    refine ab_iload_n X 1 d_MO_mayGoOn_15 rfl rfl ?_
    refine ab_iald X (o) ⟨rfl, rfl⟩ d_MO_mayGoOn_16 (by first | assumption | decide | (show _ < 124; omega) | (show _ < 61; omega) | (show _ < 20; omega)) (rfl) (ho) (ab_ln_lt _ _) ?_
    refine ab_top en ?_
    refine ab_iconst (v := 2) X d_MO_mayGoOn_17 (by decide) ?_
    refine ab_icmp_ge X 25 d_MO_mayGoOn_18 rfl (fun h18 => ?_) (fun h18 => ?_)
    ·
      refine ab_iconst (v := 0) X d_MO_mayGoOn_25 (by decide) ?_
      refine ab_goto X 44 d_MO_mayGoOn_26 rfl ?_
      first | exact ab_retz X hr0 hlk (Or.inl rfl) d_MO_mayGoOn_44 ⟨rfl, _, Or.inl rfl, rfl⟩ | exact ab_retz X hr0 hlk (Or.inr rfl) d_MO_mayGoOn_44 ⟨rfl, _, Or.inr ⟨rfl, by omega, by omega⟩, rfl⟩
    ·
      have n2 := nI_lt_of (b := 2) h18 (by omega)
      refine ab_iconst (v := 1) X d_MO_mayGoOn_21 (by decide) ?_
      refine ab_goto X 44 d_MO_mayGoOn_22 rfl ?_
      first | exact ab_retz X hr0 hlk (Or.inl rfl) d_MO_mayGoOn_44 ⟨rfl, _, Or.inl rfl, rfl⟩ | exact ab_retz X hr0 hlk (Or.inr rfl) d_MO_mayGoOn_44 ⟨rfl, _, Or.inr ⟨rfl, by omega, by omega⟩, rfl⟩
abbrev b_MO_mayEnd : ByteArray := prog_10_method_9_code
def y_MO_mayEnd : MethodName := ⟨"PolicyForgeModel", "mayEnd", "(I)Z"⟩
theorem d_MO_mayEnd_0 : decode b_MO_mayEnd 0 = .ok (.aload_n 0, 1) := by decide +kernel
theorem d_MO_mayEnd_1 : decode b_MO_mayEnd 1 = .ok (.getfield 33, 3) := by decide +kernel
theorem d_MO_mayEnd_4 : decode b_MO_mayEnd 4 = .ok (.iload_n 1, 1) := by decide +kernel
theorem d_MO_mayEnd_5 : decode b_MO_mayEnd 5 = .ok (.iaload, 1) := by decide +kernel
theorem d_MO_mayEnd_6 : decode b_MO_mayEnd 6 = .ok (.bipush 7, 2) := by decide +kernel
theorem d_MO_mayEnd_8 : decode b_MO_mayEnd 8 = .ok (.if_icmp .ge 21, 3) := by decide +kernel
theorem d_MO_mayEnd_11 : decode b_MO_mayEnd 11 = .ok (.aload_n 0, 1) := by decide +kernel
theorem d_MO_mayEnd_12 : decode b_MO_mayEnd 12 = .ok (.getfield 39, 3) := by decide +kernel
theorem d_MO_mayEnd_15 : decode b_MO_mayEnd 15 = .ok (.iload_n 1, 1) := by decide +kernel
theorem d_MO_mayEnd_16 : decode b_MO_mayEnd 16 = .ok (.iaload, 1) := by decide +kernel
theorem d_MO_mayEnd_17 : decode b_MO_mayEnd 17 = .ok (.iconst 2, 1) := by decide +kernel
theorem d_MO_mayEnd_18 : decode b_MO_mayEnd 18 = .ok (.if_icmp .ne 7, 3) := by decide +kernel
theorem d_MO_mayEnd_21 : decode b_MO_mayEnd 21 = .ok (.iconst 1, 1) := by decide +kernel
theorem d_MO_mayEnd_22 : decode b_MO_mayEnd 22 = .ok (.goto 37, 3) := by decide +kernel
theorem d_MO_mayEnd_25 : decode b_MO_mayEnd 25 = .ok (.iconst 0, 1) := by decide +kernel
theorem d_MO_mayEnd_26 : decode b_MO_mayEnd 26 = .ok (.goto 33, 3) := by decide +kernel
theorem d_MO_mayEnd_29 : decode b_MO_mayEnd 29 = .ok (.aload_n 0, 1) := by decide +kernel
theorem d_MO_mayEnd_30 : decode b_MO_mayEnd 30 = .ok (.getfield 39, 3) := by decide +kernel
theorem d_MO_mayEnd_33 : decode b_MO_mayEnd 33 = .ok (.iload_n 1, 1) := by decide +kernel
theorem d_MO_mayEnd_34 : decode b_MO_mayEnd 34 = .ok (.iaload, 1) := by decide +kernel
theorem d_MO_mayEnd_35 : decode b_MO_mayEnd 35 = .ok (.iconst 1, 1) := by decide +kernel
theorem d_MO_mayEnd_36 : decode b_MO_mayEnd 36 = .ok (.if_icmp .le 22, 3) := by decide +kernel
theorem d_MO_mayEnd_39 : decode b_MO_mayEnd 39 = .ok (.aload_n 0, 1) := by decide +kernel
theorem d_MO_mayEnd_40 : decode b_MO_mayEnd 40 = .ok (.getfield 39, 3) := by decide +kernel
theorem d_MO_mayEnd_43 : decode b_MO_mayEnd 43 = .ok (.iload_n 1, 1) := by decide +kernel
theorem d_MO_mayEnd_44 : decode b_MO_mayEnd 44 = .ok (.iaload, 1) := by decide +kernel
theorem d_MO_mayEnd_45 : decode b_MO_mayEnd 45 = .ok (.aload_n 0, 1) := by decide +kernel
theorem d_MO_mayEnd_46 : decode b_MO_mayEnd 46 = .ok (.getfield 36, 3) := by decide +kernel
theorem d_MO_mayEnd_49 : decode b_MO_mayEnd 49 = .ok (.iload_n 1, 1) := by decide +kernel
theorem d_MO_mayEnd_50 : decode b_MO_mayEnd 50 = .ok (.iaload, 1) := by decide +kernel
theorem d_MO_mayEnd_51 : decode b_MO_mayEnd 51 = .ok (.if_icmp .lt 7, 3) := by decide +kernel
theorem d_MO_mayEnd_54 : decode b_MO_mayEnd 54 = .ok (.iconst 1, 1) := by decide +kernel
theorem d_MO_mayEnd_55 : decode b_MO_mayEnd 55 = .ok (.goto 4, 3) := by decide +kernel
theorem d_MO_mayEnd_58 : decode b_MO_mayEnd 58 = .ok (.iconst 0, 1) := by decide +kernel
theorem d_MO_mayEnd_59 : decode b_MO_mayEnd 59 = .ok (.ireturn, 1) := by decide +kernel
set_option maxRecDepth 100000 in
set_option maxHeartbeats 1000000 in
theorem t_MO_mayEnd (u : ab_S) (o k n a : Nat) (h : mR u.2.1) (ho : o < 40) (ek : u.1 18 1 o = nI k) (en : u.1 18 3 o = nI n) (ea : u.1 18 2 o = nI a) (hk : k ≤ 7) (hn : n ≤ 4) (ha : a ≤ 999) : ab_C false l D ca y_MO_mayEnd b_MO_mayEnd 2 (some FieldType.boolean) 0 ab_nQ u [ab_O 17 0, ab_I (nI o)] (fun u' v => u' = u ∧ ∃ b : Int32, (b = 0 ∨ (b = 1 ∧ 2 ≤ n ∧ (k < 7 → n = 2) ∧ (k = 7 → a ≤ n))) ∧ v = some (ab_I b)) := by
  refine ab_C.of (by decide) (Nat.le_of_ble_eq_true rfl) ?_
  intro p e s m args below meth c ad X hZ hr0 hlk
  have P0 : gP [] u u := gP.rf h
  refine ab_aload_n X 0 d_MO_mayEnd_0 rfl rfl ?_
  refine ab_gR X fl_MO_33 d_MO_mayEnd_1 (by first | assumption | decide | (show _ < 124; omega) | (show _ < 61; omega) | (show _ < 20; omega)) (P0.1.mo7) ?_
  refine ab_iload_n X 1 d_MO_mayEnd_4 rfl rfl ?_
  refine ab_iald X (o) ⟨rfl, rfl⟩ d_MO_mayEnd_5 (by first | assumption | decide | (show _ < 124; omega) | (show _ < 61; omega) | (show _ < 20; omega)) (rfl) (ho) (ab_ln_lt _ _) ?_
  refine ab_top ek ?_
  refine ab_bipush (v := 7) X d_MO_mayEnd_6 (by decide) ?_
  refine ab_icmp_ge X 29 d_MO_mayEnd_8 rfl (fun h8 => ?_) (fun h8 => ?_)
  ·
    have k7 := nI_le_of (b := 7) h8 (by omega)
    refine ab_aload_n X 0 d_MO_mayEnd_29 rfl rfl ?_
    refine ab_gR X fl_MO_39 d_MO_mayEnd_30 (by first | assumption | decide | (show _ < 124; omega) | (show _ < 61; omega) | (show _ < 20; omega)) (P0.1.mo9) ?_
    refine ab_iload_n X 1 d_MO_mayEnd_33 rfl rfl ?_
    refine ab_iald X (o) ⟨rfl, rfl⟩ d_MO_mayEnd_34 (by first | assumption | decide | (show _ < 124; omega) | (show _ < 61; omega) | (show _ < 20; omega)) (rfl) (ho) (ab_ln_lt _ _) ?_
    refine ab_top en ?_
    refine ab_iconst (v := 1) X d_MO_mayEnd_35 (by decide) ?_
    refine ab_icmp_le X 58 d_MO_mayEnd_36 rfl (fun h36 => ?_) (fun h36 => ?_)
    ·
      refine ab_iconst (v := 0) X d_MO_mayEnd_58 (by decide) ?_
      first | exact ab_retz X hr0 hlk (Or.inl rfl) d_MO_mayEnd_59 ⟨rfl, _, Or.inl rfl, rfl⟩ | exact ab_retz X hr0 hlk (Or.inr rfl) d_MO_mayEnd_59 ⟨rfl, _, Or.inr ⟨rfl, by omega, by omega, by omega⟩, rfl⟩
    ·
      have n1 : 1 < n := Nat.lt_of_not_le (fun z => h36 (nI_le (b := 1) z (by decide)))
      refine ab_aload_n X 0 d_MO_mayEnd_39 rfl rfl ?_
      refine ab_gR X fl_MO_39 d_MO_mayEnd_40 (by first | assumption | decide | (show _ < 124; omega) | (show _ < 61; omega) | (show _ < 20; omega)) (P0.1.mo9) ?_
      refine ab_iload_n X 1 d_MO_mayEnd_43 rfl rfl ?_
      refine ab_iald X (o) ⟨rfl, rfl⟩ d_MO_mayEnd_44 (by first | assumption | decide | (show _ < 124; omega) | (show _ < 61; omega) | (show _ < 20; omega)) (rfl) (ho) (ab_ln_lt _ _) ?_
      refine ab_top en ?_
      refine ab_aload_n X 0 d_MO_mayEnd_45 rfl rfl ?_
      refine ab_gR X fl_MO_36 d_MO_mayEnd_46 (by first | assumption | decide | (show _ < 124; omega) | (show _ < 61; omega) | (show _ < 20; omega)) (P0.1.mo8) ?_
      refine ab_iload_n X 1 d_MO_mayEnd_49 rfl rfl ?_
      refine ab_iald X (o) ⟨rfl, rfl⟩ d_MO_mayEnd_50 (by first | assumption | decide | (show _ < 124; omega) | (show _ < 61; omega) | (show _ < 20; omega)) (rfl) (ho) (ab_ln_lt _ _) ?_
      refine ab_top ea ?_
      refine ab_icmp_lt X 58 d_MO_mayEnd_51 rfl (fun h51 => ?_) (fun h51 => ?_)
      ·
        refine ab_iconst (v := 0) X d_MO_mayEnd_58 (by decide) ?_
        first | exact ab_retz X hr0 hlk (Or.inl rfl) d_MO_mayEnd_59 ⟨rfl, _, Or.inl rfl, rfl⟩ | exact ab_retz X hr0 hlk (Or.inr rfl) d_MO_mayEnd_59 ⟨rfl, _, Or.inr ⟨rfl, by omega, by omega, by omega⟩, rfl⟩
      ·
        have na : a ≤ n := Nat.le_of_not_lt (fun z => h51 (nI_lt z (by omega)))
        refine ab_iconst (v := 1) X d_MO_mayEnd_54 (by decide) ?_
        refine ab_goto X 59 d_MO_mayEnd_55 rfl ?_
        first | exact ab_retz X hr0 hlk (Or.inl rfl) d_MO_mayEnd_59 ⟨rfl, _, Or.inl rfl, rfl⟩ | exact ab_retz X hr0 hlk (Or.inr rfl) d_MO_mayEnd_59 ⟨rfl, _, Or.inr ⟨rfl, by omega, by omega, by omega⟩, rfl⟩
  ·
    have k7 := nI_lt_of (b := 7) h8 (by omega)
    refine ab_aload_n X 0 d_MO_mayEnd_11 rfl rfl ?_
    refine ab_gR X fl_MO_39 d_MO_mayEnd_12 (by first | assumption | decide | (show _ < 124; omega) | (show _ < 61; omega) | (show _ < 20; omega)) (P0.1.mo9) ?_
    refine ab_iload_n X 1 d_MO_mayEnd_15 rfl rfl ?_
    refine ab_iald X (o) ⟨rfl, rfl⟩ d_MO_mayEnd_16 (by first | assumption | decide | (show _ < 124; omega) | (show _ < 61; omega) | (show _ < 20; omega)) (rfl) (ho) (ab_ln_lt _ _) ?_
    refine ab_top en ?_
    refine ab_iconst (v := 2) X d_MO_mayEnd_17 (by decide) ?_
    refine ab_icmp_ne X 25 d_MO_mayEnd_18 rfl (fun h18 => ?_) (fun h18 => ?_)
    ·
      refine ab_iconst (v := 0) X d_MO_mayEnd_25 (by decide) ?_
      refine ab_goto X 59 d_MO_mayEnd_26 rfl ?_
      first | exact ab_retz X hr0 hlk (Or.inl rfl) d_MO_mayEnd_59 ⟨rfl, _, Or.inl rfl, rfl⟩ | exact ab_retz X hr0 hlk (Or.inr rfl) d_MO_mayEnd_59 ⟨rfl, _, Or.inr ⟨rfl, by omega, by omega, by omega⟩, rfl⟩
    ·
      have n2 : n = 2 := (nI_eq (b := 2) (by omega) (by omega)).mp h18
      refine ab_iconst (v := 1) X d_MO_mayEnd_21 (by decide) ?_
      refine ab_goto X 59 d_MO_mayEnd_22 rfl ?_
      first | exact ab_retz X hr0 hlk (Or.inl rfl) d_MO_mayEnd_59 ⟨rfl, _, Or.inl rfl, rfl⟩ | exact ab_retz X hr0 hlk (Or.inr rfl) d_MO_mayEnd_59 ⟨rfl, _, Or.inr ⟨rfl, by omega, by omega, by omega⟩, rfl⟩
abbrev b_MO_readAll : ByteArray := prog_10_method_10_code
def y_MO_readAll : MethodName := ⟨"PolicyForgeModel", "readAll", "()I"⟩
theorem d_MO_readAll_0 : decode b_MO_readAll 0 = .ok (.aload_n 0, 1) := by decide +kernel
theorem d_MO_readAll_1 : decode b_MO_readAll 1 = .ok (.iconst 0, 1) := by decide +kernel
theorem d_MO_readAll_2 : decode b_MO_readAll 2 = .ok (.putfield 27, 3) := by decide +kernel
theorem d_MO_readAll_5 : decode b_MO_readAll 5 = .ok (.aload_n 0, 1) := by decide +kernel
theorem d_MO_readAll_6 : decode b_MO_readAll 6 = .ok (.iconst 0, 1) := by decide +kernel
theorem d_MO_readAll_7 : decode b_MO_readAll 7 = .ok (.putfield 30, 3) := by decide +kernel
theorem d_MO_readAll_10 : decode b_MO_readAll 10 = .ok (.aload_n 0, 1) := by decide +kernel
theorem d_MO_readAll_11 : decode b_MO_readAll 11 = .ok (.iconst 0, 1) := by decide +kernel
theorem d_MO_readAll_12 : decode b_MO_readAll 12 = .ok (.putfield 129, 3) := by decide +kernel
theorem d_MO_readAll_15 : decode b_MO_readAll 15 = .ok (.aload_n 0, 1) := by decide +kernel
theorem d_MO_readAll_16 : decode b_MO_readAll 16 = .ok (.iconst 0, 1) := by decide +kernel
theorem d_MO_readAll_17 : decode b_MO_readAll 17 = .ok (.invokevirtual 178, 3) := by decide +kernel
theorem d_MO_readAll_20 : decode b_MO_readAll 20 = .ok (.istore_n 1, 1) := by decide +kernel
theorem d_MO_readAll_21 : decode b_MO_readAll 21 = .ok (.aload_n 0, 1) := by decide +kernel
theorem d_MO_readAll_22 : decode b_MO_readAll 22 = .ok (.getfield 129, 3) := by decide +kernel
theorem d_MO_readAll_25 : decode b_MO_readAll 25 = .ok (.ifCond .ne 7, 3) := by decide +kernel
theorem d_MO_readAll_28 : decode b_MO_readAll 28 = .ok (.iconst 1, 1) := by decide +kernel
theorem d_MO_readAll_29 : decode b_MO_readAll 29 = .ok (.goto 4, 3) := by decide +kernel
theorem d_MO_readAll_32 : decode b_MO_readAll 32 = .ok (.iconst 0, 1) := by decide +kernel
theorem d_MO_readAll_33 : decode b_MO_readAll 33 = .ok (.istore_n 2, 1) := by decide +kernel
theorem d_MO_readAll_34 : decode b_MO_readAll 34 = .ok (.iload_n 1, 1) := by decide +kernel
theorem d_MO_readAll_35 : decode b_MO_readAll 35 = .ok (.ifCond .lt 138, 3) := by decide +kernel
theorem d_MO_readAll_38 : decode b_MO_readAll 38 = .ok (.aload_n 0, 1) := by decide +kernel
theorem d_MO_readAll_39 : decode b_MO_readAll 39 = .ok (.getfield 129, 3) := by decide +kernel
theorem d_MO_readAll_42 : decode b_MO_readAll 42 = .ok (.ifCond .gt 11, 3) := by decide +kernel
theorem d_MO_readAll_45 : decode b_MO_readAll 45 = .ok (.iload_n 1, 1) := by decide +kernel
theorem d_MO_readAll_46 : decode b_MO_readAll 46 = .ok (.aload_n 0, 1) := by decide +kernel
theorem d_MO_readAll_47 : decode b_MO_readAll 47 = .ok (.getfield 17, 3) := by decide +kernel
theorem d_MO_readAll_50 : decode b_MO_readAll 50 = .ok (.if_icmp .ge 123, 3) := by decide +kernel
theorem d_MO_readAll_53 : decode b_MO_readAll 53 = .ok (.aload_n 0, 1) := by decide +kernel
theorem d_MO_readAll_54 : decode b_MO_readAll 54 = .ok (.getfield 129, 3) := by decide +kernel
theorem d_MO_readAll_57 : decode b_MO_readAll 57 = .ok (.ifCond .ne 5, 3) := by decide +kernel
theorem d_MO_readAll_60 : decode b_MO_readAll 60 = .ok (.iload_n 1, 1) := by decide +kernel
theorem d_MO_readAll_61 : decode b_MO_readAll 61 = .ok (.ireturn, 1) := by decide +kernel
theorem d_MO_readAll_62 : decode b_MO_readAll 62 = .ok (.aload_n 0, 1) := by decide +kernel
theorem d_MO_readAll_63 : decode b_MO_readAll 63 = .ok (.getfield 126, 3) := by decide +kernel
theorem d_MO_readAll_66 : decode b_MO_readAll 66 = .ok (.aload_n 0, 1) := by decide +kernel
theorem d_MO_readAll_67 : decode b_MO_readAll 67 = .ok (.getfield 129, 3) := by decide +kernel
theorem d_MO_readAll_70 : decode b_MO_readAll 70 = .ok (.iconst 1, 1) := by decide +kernel
theorem d_MO_readAll_71 : decode b_MO_readAll 71 = .ok (.isub, 1) := by decide +kernel
theorem d_MO_readAll_72 : decode b_MO_readAll 72 = .ok (.iaload, 1) := by decide +kernel
theorem d_MO_readAll_73 : decode b_MO_readAll 73 = .ok (.istore_n 3, 1) := by decide +kernel
theorem d_MO_readAll_74 : decode b_MO_readAll 74 = .ok (.iload_n 2, 1) := by decide +kernel
theorem d_MO_readAll_75 : decode b_MO_readAll 75 = .ok (.ifCond .ne 33, 3) := by decide +kernel
theorem d_MO_readAll_78 : decode b_MO_readAll 78 = .ok (.aload_n 0, 1) := by decide +kernel
theorem d_MO_readAll_79 : decode b_MO_readAll 79 = .ok (.getfield 129, 3) := by decide +kernel
theorem d_MO_readAll_82 : decode b_MO_readAll 82 = .ok (.istore 4, 2) := by decide +kernel
theorem d_MO_readAll_84 : decode b_MO_readAll 84 = .ok (.aload_n 0, 1) := by decide +kernel
theorem d_MO_readAll_85 : decode b_MO_readAll 85 = .ok (.iload_n 1, 1) := by decide +kernel
theorem d_MO_readAll_86 : decode b_MO_readAll 86 = .ok (.invokevirtual 178, 3) := by decide +kernel
theorem d_MO_readAll_89 : decode b_MO_readAll 89 = .ok (.istore_n 1, 1) := by decide +kernel
theorem d_MO_readAll_90 : decode b_MO_readAll 90 = .ok (.aload_n 0, 1) := by decide +kernel
theorem d_MO_readAll_91 : decode b_MO_readAll 91 = .ok (.getfield 129, 3) := by decide +kernel
theorem d_MO_readAll_94 : decode b_MO_readAll 94 = .ok (.iload 4, 2) := by decide +kernel
theorem d_MO_readAll_96 : decode b_MO_readAll 96 = .ok (.if_icmp .ne 7, 3) := by decide +kernel
theorem d_MO_readAll_99 : decode b_MO_readAll 99 = .ok (.iconst 1, 1) := by decide +kernel
theorem d_MO_readAll_100 : decode b_MO_readAll 100 = .ok (.goto 4, 3) := by decide +kernel
theorem d_MO_readAll_103 : decode b_MO_readAll 103 = .ok (.iconst 0, 1) := by decide +kernel
theorem d_MO_readAll_104 : decode b_MO_readAll 104 = .ok (.istore_n 2, 1) := by decide +kernel
theorem d_MO_readAll_105 : decode b_MO_readAll 105 = .ok (.goto 65, 3) := by decide +kernel
theorem d_MO_readAll_108 : decode b_MO_readAll 108 = .ok (.aload_n 0, 1) := by decide +kernel
theorem d_MO_readAll_109 : decode b_MO_readAll 109 = .ok (.iload_n 1, 1) := by decide +kernel
theorem d_MO_readAll_110 : decode b_MO_readAll 110 = .ok (.invokevirtual 145, 3) := by decide +kernel
theorem d_MO_readAll_113 : decode b_MO_readAll 113 = .ok (.bipush 44, 2) := by decide +kernel
theorem d_MO_readAll_115 : decode b_MO_readAll 115 = .ok (.if_icmp .ne 19, 3) := by decide +kernel
theorem d_MO_readAll_118 : decode b_MO_readAll 118 = .ok (.aload_n 0, 1) := by decide +kernel
theorem d_MO_readAll_119 : decode b_MO_readAll 119 = .ok (.iload_n 3, 1) := by decide +kernel
theorem d_MO_readAll_120 : decode b_MO_readAll 120 = .ok (.invokevirtual 181, 3) := by decide +kernel
theorem d_MO_readAll_123 : decode b_MO_readAll 123 = .ok (.ifCond .eq 11, 3) := by decide +kernel
theorem d_MO_readAll_126 : decode b_MO_readAll 126 = .ok (.iinc 1 1, 3) := by decide +kernel
theorem d_MO_readAll_129 : decode b_MO_readAll 129 = .ok (.iconst 0, 1) := by decide +kernel
theorem d_MO_readAll_130 : decode b_MO_readAll 130 = .ok (.istore_n 2, 1) := by decide +kernel
theorem d_MO_readAll_131 : decode b_MO_readAll 131 = .ok (.goto 39, 3) := by decide +kernel
theorem d_MO_readAll_134 : decode b_MO_readAll 134 = .ok (.aload_n 0, 1) := by decide +kernel
theorem d_MO_readAll_135 : decode b_MO_readAll 135 = .ok (.iload_n 1, 1) := by decide +kernel
theorem d_MO_readAll_136 : decode b_MO_readAll 136 = .ok (.invokevirtual 145, 3) := by decide +kernel
theorem d_MO_readAll_139 : decode b_MO_readAll 139 = .ok (.bipush 41, 2) := by decide +kernel
theorem d_MO_readAll_141 : decode b_MO_readAll 141 = .ok (.if_icmp .ne 27, 3) := by decide +kernel
theorem d_MO_readAll_144 : decode b_MO_readAll 144 = .ok (.aload_n 0, 1) := by decide +kernel
theorem d_MO_readAll_145 : decode b_MO_readAll 145 = .ok (.iload_n 3, 1) := by decide +kernel
theorem d_MO_readAll_146 : decode b_MO_readAll 146 = .ok (.invokevirtual 185, 3) := by decide +kernel
theorem d_MO_readAll_149 : decode b_MO_readAll 149 = .ok (.ifCond .eq 19, 3) := by decide +kernel
theorem d_MO_readAll_152 : decode b_MO_readAll 152 = .ok (.iinc 1 1, 3) := by decide +kernel
theorem d_MO_readAll_155 : decode b_MO_readAll 155 = .ok (.aload_n 0, 1) := by decide +kernel
theorem d_MO_readAll_156 : decode b_MO_readAll 156 = .ok (.dup, 1) := by decide +kernel
theorem d_MO_readAll_157 : decode b_MO_readAll 157 = .ok (.getfield 129, 3) := by decide +kernel
theorem d_MO_readAll_160 : decode b_MO_readAll 160 = .ok (.iconst 1, 1) := by decide +kernel
theorem d_MO_readAll_161 : decode b_MO_readAll 161 = .ok (.isub, 1) := by decide +kernel
theorem d_MO_readAll_162 : decode b_MO_readAll 162 = .ok (.putfield 129, 3) := by decide +kernel
theorem d_MO_readAll_165 : decode b_MO_readAll 165 = .ok (.goto 5, 3) := by decide +kernel
theorem d_MO_readAll_168 : decode b_MO_readAll 168 = .ok (.iload_n 1, 1) := by decide +kernel
theorem d_MO_readAll_169 : decode b_MO_readAll 169 = .ok (.ireturn, 1) := by decide +kernel
theorem d_MO_readAll_170 : decode b_MO_readAll 170 = .ok (.goto (-136), 3) := by decide +kernel
theorem d_MO_readAll_173 : decode b_MO_readAll 173 = .ok (.iload_n 1, 1) := by decide +kernel
theorem d_MO_readAll_174 : decode b_MO_readAll 174 = .ok (.ifCond .ge 9, 3) := by decide +kernel
theorem d_MO_readAll_177 : decode b_MO_readAll 177 = .ok (.iconst (-1), 1) := by decide +kernel
theorem d_MO_readAll_178 : decode b_MO_readAll 178 = .ok (.iload_n 1, 1) := by decide +kernel
theorem d_MO_readAll_179 : decode b_MO_readAll 179 = .ok (.isub, 1) := by decide +kernel
theorem d_MO_readAll_180 : decode b_MO_readAll 180 = .ok (.goto 4, 3) := by decide +kernel
theorem d_MO_readAll_183 : decode b_MO_readAll 183 = .ok (.iconst (-1), 1) := by decide +kernel
theorem d_MO_readAll_184 : decode b_MO_readAll 184 = .ok (.ireturn, 1) := by decide +kernel
theorem lk_MO_178 : ab_lk "PolicyForgeModel" 178 y_MO_begin b_MO_begin 6 (some FieldType.int) 1 17 := ⟨⟨rfl, T_MO, 44, rfl⟩, List.forall_mem_cons.mpr ⟨(ab_in 1076 (by decide +kernel) (by decide +kernel)), List.forall_mem_cons.mpr ⟨(ab_in 1078 (by decide +kernel) (by decide +kernel)), List.forall_mem_cons.mpr ⟨(ab_in 47 (by decide +kernel) (by decide +kernel)), List.forall_mem_cons.mpr ⟨(ab_in 100 (by decide +kernel) (by decide +kernel)), List.forall_mem_cons.mpr ⟨(ab_in 1079 (by decide +kernel) (by decide +kernel)), fun _ h => absurd h List.not_mem_nil⟩⟩⟩⟩⟩, ⟨by decide +kernel, by decide +kernel, by decide +kernel⟩, by decide⟩
theorem lk_MO_181 : ab_lk "PolicyForgeModel" 181 y_MO_mayGoOn b_MO_mayGoOn 2 (some FieldType.boolean) 1 17 := ⟨⟨rfl, T_MO, 44, rfl⟩, List.forall_mem_cons.mpr ⟨(ab_in 1105 (by decide +kernel) (by decide +kernel)), List.forall_mem_cons.mpr ⟨(ab_in 1107 (by decide +kernel) (by decide +kernel)), List.forall_mem_cons.mpr ⟨(ab_in 51 (by decide +kernel) (by decide +kernel)), List.forall_mem_cons.mpr ⟨(ab_in 100 (by decide +kernel) (by decide +kernel)), List.forall_mem_cons.mpr ⟨(ab_in 1108 (by decide +kernel) (by decide +kernel)), fun _ h => absurd h List.not_mem_nil⟩⟩⟩⟩⟩, ⟨by decide +kernel, by decide +kernel, by decide +kernel⟩, by decide⟩
theorem lk_MO_185 : ab_lk "PolicyForgeModel" 185 y_MO_mayEnd b_MO_mayEnd 2 (some FieldType.boolean) 1 17 := ⟨⟨rfl, T_MO, 44, rfl⟩, List.forall_mem_cons.mpr ⟨(ab_in 1109 (by decide +kernel) (by decide +kernel)), List.forall_mem_cons.mpr ⟨(ab_in 1111 (by decide +kernel) (by decide +kernel)), List.forall_mem_cons.mpr ⟨(ab_in 52 (by decide +kernel) (by decide +kernel)), List.forall_mem_cons.mpr ⟨(ab_in 100 (by decide +kernel) (by decide +kernel)), List.forall_mem_cons.mpr ⟨(ab_in 1112 (by decide +kernel) (by decide +kernel)), fun _ h => absurd h List.not_mem_nil⟩⟩⟩⟩⟩, ⟨by decide +kernel, by decide +kernel, by decide +kernel⟩, by decide⟩
set_option maxRecDepth 100000 in
set_option maxHeartbeats 4000000 in
theorem s_MO_readAll (u : ab_S) (t : Nat) (ht : t ≤ 100) (et : u.1 17 0 2 = nI t) (h : mR u.2.1) : ab_C false l D ca y_MO_readAll b_MO_readAll 5 (some FieldType.int) 3 ab_nQ u [ab_O 17 0] (fun u' v => gP [5, 6, 39, 101, 102, 103, 104, 120] u u' ∧ ∃ x : Int32, (x < 0 → ∃ (M : Nat) (kd ar cn lf : Nat → Nat) (ch : Nat → Nat → Nat), tW M kd ar cn lf ch ∧ tR M kd ar cn ch u') ∧ v = some (ab_I x)) := by
  refine ab_C.of (by decide) (Nat.le_of_ble_eq_true rfl) ?_
  intro p e s m args below meth c ad X hZ hr0 hlk
  have P0 : gP [5, 6, 39, 101, 102, 103, 104, 120] u u := gP.rf h
  have neg34 : ∀ (u2 : ab_S) (y b : Int32), y < 0 → gP [5, 6, 39, 101, 102, 103, 104, 120] u u2 → ab_J p l e (ab_rm 3 0 0) s m args below meth c (MQ below (ab_Q D ca ad ab_nQ s.heap.size (fun u' v => gP [5, 6, 39, 101, 102, 103, 104, 120] u u' ∧ ∃ x : Int32, (x < 0 → ∃ (M : Nat) (kd ar cn lf : Nat → Nat) (ch : Nat → Nat → Nat), tW M kd ar cn lf ch ∧ tR M kd ar cn ch u') ∧ v = some (ab_I x))) args s 0 0 (ab_A ad ab_nQ s.heap.size)) D ca (ab_A ad ab_nQ s.heap.size) s.heap 5 0 0 ad ab_nQ u2 34 [(2, ab_I b), (1, ab_I y), (0, ab_O 17 0)] [] := by
    intro u2 y b hy P2
    refine ab_iload_n X 1 d_MO_readAll_34 rfl rfl ?_
    refine ab_if_lt X 173 d_MO_readAll_35 rfl (fun _ => ?_) (fun hb => absurd (hy) hb)
    refine ab_iload_n X 1 d_MO_readAll_173 rfl rfl ?_
    refine ab_if_ge X 183 d_MO_readAll_174 rfl (fun hb => absurd hb ((Int32.not_le.mpr hy))) (fun _ => ?_)
    refine ab_iconst (v := (-1)) X d_MO_readAll_177 (by decide) ?_
    refine ab_iload_n X 1 d_MO_readAll_178 rfl rfl ?_
    refine ab_isub X d_MO_readAll_179 ?_
    refine ab_goto X 184 d_MO_readAll_180 rfl ?_
    exact ab_reti X hr0 hlk d_MO_readAll_184 ⟨P2, _, fun z => absurd z (neg_neg' hy), rfl⟩
  have loop : ∀ (k q M O : Nat) (kd ar cn en cl op : Nat → Nat) (ch : Nat → Nat → Nat) (b : Int32) (u1 : ab_S), q + k = 101 → gP [5, 6, 39, 101, 102, 103, 104, 120] u u1 → rI t q M O kd ar cn en cl op ch u1 → 1 ≤ M → (b = 1 ∨ (b = 0 ∧ rR O kd cn op)) → ab_J p l e (ab_rm 3 0 0) s m args below meth c (MQ below (ab_Q D ca ad ab_nQ s.heap.size (fun u' v => gP [5, 6, 39, 101, 102, 103, 104, 120] u u' ∧ ∃ x : Int32, (x < 0 → ∃ (M : Nat) (kd ar cn lf : Nat → Nat) (ch : Nat → Nat → Nat), tW M kd ar cn lf ch ∧ tR M kd ar cn ch u') ∧ v = some (ab_I x))) args s 0 0 (ab_A ad ab_nQ s.heap.size)) D ca (ab_A ad ab_nQ s.heap.size) s.heap 5 0 0 ad ab_nQ u1 34 [(2, ab_I b), (1, ab_I (nI q)), (0, ab_O 17 0)] [] := by
    intro k
    induction k using Nat.strongRecOn with
    | ind k ih =>
    intro q M O kd ar cn en cl op ch b u1 hqk P1 I hM1 hb
    have I' := I
    obtain ⟨⟨eM, eL, eO, eS, eop⟩, R, hL, hM, hqt, h0, hA⟩ := I'
    have OM : O ≤ M := by
      by_cases z : O = 0
      · omega
      · have mono := rt.mono (h := R.2)
        have : ∀ j, j < O → j ≤ op j := by
          intro j
          induction j with
          | zero => intro _; exact Nat.zero_le _
          | succ j ih => intro hj; have := ih (by omega); have := mono (j + 1) j (by omega) hj; omega
        have z1 := this (O - 1) (by omega)
        have z2 := (R.2.2.1 (O - 1) (by omega)).1
        omega
    have et1 := P1.fi (s := 2) (by decide) et
    have K89 : ∀ (u2 : ab_S) (x z3 : Int32), gP [5, 6, 39, 101, 102, 103, 104, 120] u u2 → rR O kd cn op → (x < 0 ∨ ∃ (q' O' : Nat) (kd' ar' cn' en' cl' op' : Nat → Nat) (ch' : Nat → Nat → Nat), x = nI q' ∧ q + 3 ≤ q' ∧ rI t q' (M + 1) O' kd' ar' cn' en' cl' op' ch' u2 ∧ (O' = O ∨ (O' = O + 1 ∧ rR O' kd' cn' op'))) → ab_J p l e (ab_rm 3 0 0) s m args below meth c (MQ below (ab_Q D ca ad ab_nQ s.heap.size (fun u' v => gP [5, 6, 39, 101, 102, 103, 104, 120] u u' ∧ ∃ x : Int32, (x < 0 → ∃ (M : Nat) (kd ar cn lf : Nat → Nat) (ch : Nat → Nat → Nat), tW M kd ar cn lf ch ∧ tR M kd ar cn ch u') ∧ v = some (ab_I x))) args s 0 0 (ab_A ad ab_nQ s.heap.size)) D ca (ab_A ad ab_nQ s.heap.size) s.heap 5 0 0 ad ab_nQ u2 89 [(4, ab_I (nI O)), (3, ab_I z3), (0, ab_O 17 0)] [ab_I x] := by
      intro u2 x z3 P2 hR hx
      rcases hx with hx | ⟨q', O', kd', ar', cn', en', cl', op', ch', rfl, hq', I', hO'⟩
      ·
        refine ab_istore_n3 X 0 1 2 d_MO_readAll_89 rfl (by decide) rfl rfl rfl rfl rfl rfl ?_
        refine ab_aload_n X 3 d_MO_readAll_90 rfl rfl ?_
        refine ab_gI X fl_MO_129 d_MO_readAll_91 (by first | assumption | decide | (show _ < 124; omega) | (show _ < 61; omega) | (show _ < 20; omega)) (rfl) ?_
        refine ab_iload X 1 d_MO_readAll_94 rfl ?_
        refine ab_icmp_ne X 103 d_MO_readAll_96 rfl (fun h96 => ?_) (fun h96 => ?_)
        ·
          refine ab_iconst (v := 0) X d_MO_readAll_103 (by decide) ?_
          refine ab_istore_n4 X 0 1 2 3 d_MO_readAll_104 rfl (by decide) rfl rfl rfl rfl rfl rfl rfl rfl ?_
          refine ab_goto X 170 d_MO_readAll_105 rfl ?_
          refine ab_goto X 34 d_MO_readAll_170 rfl ?_
          refine ab_lv (List.forall_mem_cons.mpr ⟨List.mem_of_getElem? (i := 0) rfl, List.forall_mem_cons.mpr ⟨List.mem_of_getElem? (i := 1) rfl, List.forall_mem_cons.mpr ⟨List.mem_of_getElem? (i := 4) rfl, fun _ h => absurd h List.not_mem_nil⟩⟩⟩) ?_
          exact neg34 _ _ _ hx P2
        ·
          refine ab_iconst (v := 1) X d_MO_readAll_99 (by decide) ?_
          refine ab_goto X 104 d_MO_readAll_100 rfl ?_
          refine ab_istore_n4 X 0 1 2 3 d_MO_readAll_104 rfl (by decide) rfl rfl rfl rfl rfl rfl rfl rfl ?_
          refine ab_goto X 170 d_MO_readAll_105 rfl ?_
          refine ab_goto X 34 d_MO_readAll_170 rfl ?_
          refine ab_lv (List.forall_mem_cons.mpr ⟨List.mem_of_getElem? (i := 0) rfl, List.forall_mem_cons.mpr ⟨List.mem_of_getElem? (i := 1) rfl, List.forall_mem_cons.mpr ⟨List.mem_of_getElem? (i := 4) rfl, fun _ h => absurd h List.not_mem_nil⟩⟩⟩) ?_
          exact neg34 _ _ _ hx P2
      · have eO' := I'.1.2.2.1
        rcases hO' with rfl | ⟨rfl, hR'⟩
        ·
          refine ab_istore_n3 X 0 1 2 d_MO_readAll_89 rfl (by decide) rfl rfl rfl rfl rfl rfl ?_
          refine ab_aload_n X 3 d_MO_readAll_90 rfl rfl ?_
          refine ab_gI X fl_MO_129 d_MO_readAll_91 (by first | assumption | decide | (show _ < 124; omega) | (show _ < 61; omega) | (show _ < 20; omega)) (eO') ?_
          refine ab_iload X 1 d_MO_readAll_94 rfl ?_
          refine ab_icmp_ne X 103 d_MO_readAll_96 rfl (fun hb => absurd (rfl) hb) (fun _ => ?_)
          refine ab_iconst (v := 1) X d_MO_readAll_99 (by decide) ?_
          refine ab_goto X 104 d_MO_readAll_100 rfl ?_
          refine ab_istore_n4 X 0 1 2 3 d_MO_readAll_104 rfl (by decide) rfl rfl rfl rfl rfl rfl rfl rfl ?_
          refine ab_goto X 170 d_MO_readAll_105 rfl ?_
          refine ab_goto X 34 d_MO_readAll_170 rfl ?_
          refine ab_lv (List.forall_mem_cons.mpr ⟨List.mem_of_getElem? (i := 0) rfl, List.forall_mem_cons.mpr ⟨List.mem_of_getElem? (i := 1) rfl, List.forall_mem_cons.mpr ⟨List.mem_of_getElem? (i := 4) rfl, fun _ h => absurd h List.not_mem_nil⟩⟩⟩) ?_
          exact ih (101 - q') (by omega) q' _ _ _ _ _ _ _ _ _ _ _ (by have := I'.2.2.2.2.1; omega) P2 I' (by omega) (Or.inl rfl)
        ·
          refine ab_istore_n3 X 0 1 2 d_MO_readAll_89 rfl (by decide) rfl rfl rfl rfl rfl rfl ?_
          refine ab_aload_n X 3 d_MO_readAll_90 rfl rfl ?_
          refine ab_gI X fl_MO_129 d_MO_readAll_91 (by first | assumption | decide | (show _ < 124; omega) | (show _ < 61; omega) | (show _ < 20; omega)) (eO') ?_
          refine ab_iload X 1 d_MO_readAll_94 rfl ?_
          refine ab_icmp_ne X 103 d_MO_readAll_96 rfl (fun _ => ?_) (fun hb => absurd hb ((fun z => absurd ((nI_eq (by omega) (by omega)).mp z) (by omega))))
          refine ab_iconst (v := 0) X d_MO_readAll_103 (by decide) ?_
          refine ab_istore_n4 X 0 1 2 3 d_MO_readAll_104 rfl (by decide) rfl rfl rfl rfl rfl rfl rfl rfl ?_
          refine ab_goto X 170 d_MO_readAll_105 rfl ?_
          refine ab_goto X 34 d_MO_readAll_170 rfl ?_
          refine ab_lv (List.forall_mem_cons.mpr ⟨List.mem_of_getElem? (i := 0) rfl, List.forall_mem_cons.mpr ⟨List.mem_of_getElem? (i := 1) rfl, List.forall_mem_cons.mpr ⟨List.mem_of_getElem? (i := 4) rfl, fun _ h => absurd h List.not_mem_nil⟩⟩⟩) ?_
          exact ih (101 - q') (by omega) q' _ _ _ _ _ _ _ _ _ _ _ (by have := I'.2.2.2.2.1; omega) P2 I' (by omega) (Or.inr ⟨rfl, hR'⟩)
    refine ab_iload_n X 1 d_MO_readAll_34 rfl rfl ?_
    refine ab_if_lt X 173 d_MO_readAll_35 rfl (fun hb => absurd hb ((nI_pos (by omega)))) (fun _ => ?_)
    refine ab_aload_n X 2 d_MO_readAll_38 rfl rfl ?_
    refine ab_gI X fl_MO_129 d_MO_readAll_39 (by first | assumption | decide | (show _ < 124; omega) | (show _ < 61; omega) | (show _ < 20; omega)) (eO) ?_
    refine ab_if_gt X 53 d_MO_readAll_42 rfl (fun h42 => ?_) (fun h42 => ?_)
    ·
      refine ab_aload_n X 2 d_MO_readAll_53 rfl rfl ?_
      refine ab_gI X fl_MO_129 d_MO_readAll_54 (by first | assumption | decide | (show _ < 124; omega) | (show _ < 61; omega) | (show _ < 20; omega)) (eO) ?_
      refine ab_if_ne X 62 d_MO_readAll_57 rfl (fun h57 => ?_) (fun h57 => ?_)
      ·
        have hO : 0 < O := Nat.pos_of_ne_zero (fun z => h57 (by rw [z]; rfl))
        obtain ⟨t1, t5, -, -⟩ := R.2.2.1 (O - 1) (by omega)
        obtain ⟨y1, y2, y3, -⟩ := eS _ t1
        obtain ⟨⟨k1, k7, r9⟩, -, a3, -⟩ := R.1 _ t1
        have c4 := (a3 t5).1
        refine ab_aload_n X 2 d_MO_readAll_62 rfl rfl ?_
        refine ab_gR X fl_MO_126 d_MO_readAll_63 (by first | assumption | decide | (show _ < 124; omega) | (show _ < 61; omega) | (show _ < 20; omega)) (P1.1.mo38) ?_
        refine ab_aload_n X 2 d_MO_readAll_66 rfl rfl ?_
        refine ab_gI X fl_MO_129 d_MO_readAll_67 (by first | assumption | decide | (show _ < 124; omega) | (show _ < 61; omega) | (show _ < 20; omega)) (eO) ?_
        refine ab_iconst (v := 1) X d_MO_readAll_70 (by decide) ?_
        refine ab_isub X d_MO_readAll_71 ?_
        refine ab_top (nI_m1 hO) ?_
        refine ab_iald X (O - 1) ⟨rfl, rfl⟩ d_MO_readAll_72 (by first | assumption | decide | (show _ < 124; omega) | (show _ < 61; omega) | (show _ < 20; omega)) (rfl) (show O - 1 < 40 by omega) (ab_ln_lt _ _) ?_
        refine ab_top (eop (O - 1) (by omega)) ?_
        refine ab_istore_n3 X 0 1 2 d_MO_readAll_73 rfl (by decide) rfl rfl rfl rfl rfl rfl ?_
        refine ab_iload_n X 1 d_MO_readAll_74 rfl rfl ?_
        refine ab_if_ne X 108 d_MO_readAll_75 rfl (fun h75 => ?_) (fun h75 => ?_)
        ·
          have hb1 : b = 1 := by rcases hb with z | z; exact z; exact absurd z.1 h75
          refine ab_aload_n X 3 d_MO_readAll_108 rfl rfl ?_
          refine ab_iload_n X 2 d_MO_readAll_109 rfl rfl ?_
          refine ab_callV (as := [ab_I (nI q)]) X (fun h => by cases h) (t_MO_at u1 q t ht et1 P1.1 (by omega)) lk_MO_145 d_MO_readAll_110 rfl rfl (by first | assumption | decide | (show _ < 124; omega) | (show _ < 61; omega) | (show _ < 20; omega)) ⟨by first | exact Nat.le_of_ble_eq_true rfl | (simp only [ab_rm]; omega), by first | exact Nat.le_of_ble_eq_true rfl | (simp only [ab_rm]; omega)⟩ ⟨by first | exact Nat.le_of_ble_eq_true rfl | (simp only [ab_rm]; omega), by first | exact Nat.le_of_ble_eq_true rfl | (simp only [ab_rm]; omega)⟩ (Nat.le_of_ble_eq_true rfl) (fun u110 r110 h110 => ?_)
          obtain ⟨e110, rfl⟩ := h110
          subst u110
          refine ab_bipush (v := 44) X d_MO_readAll_113 (by decide) ?_
          refine ab_icmp_ne X 134 d_MO_readAll_115 rfl (fun h115 => ?_) (fun h115 => ?_)
          ·
            refine ab_aload_n X 3 d_MO_readAll_134 rfl rfl ?_
            refine ab_iload_n X 2 d_MO_readAll_135 rfl rfl ?_
            refine ab_callV (as := [ab_I (nI q)]) X (fun h => by cases h) (t_MO_at u1 q t ht et1 P1.1 (by omega)) lk_MO_145 d_MO_readAll_136 rfl rfl (by first | assumption | decide | (show _ < 124; omega) | (show _ < 61; omega) | (show _ < 20; omega)) ⟨by first | exact Nat.le_of_ble_eq_true rfl | (simp only [ab_rm]; omega), by first | exact Nat.le_of_ble_eq_true rfl | (simp only [ab_rm]; omega)⟩ ⟨by first | exact Nat.le_of_ble_eq_true rfl | (simp only [ab_rm]; omega), by first | exact Nat.le_of_ble_eq_true rfl | (simp only [ab_rm]; omega)⟩ (Nat.le_of_ble_eq_true rfl) (fun u136 r136 h136 => ?_)
            obtain ⟨e136, rfl⟩ := h136
            subst u136
            refine ab_bipush (v := 41) X d_MO_readAll_139 (by decide) ?_
            refine ab_icmp_ne X 168 d_MO_readAll_141 rfl (fun h141 => ?_) (fun h141 => ?_)
            ·
              refine ab_iload_n X 2 d_MO_readAll_168 rfl rfl ?_
              exact ab_reti X hr0 hlk d_MO_readAll_169 ⟨P1, _, fun z => absurd z (nI_pos (by omega)), rfl⟩
            ·
              have hlt : q < t := Classical.byContradiction (fun z => absurd h141 (by unfold atv; rw [if_neg z]; decide))
              refine ab_aload_n X 3 d_MO_readAll_144 rfl rfl ?_
              refine ab_iload_n X 0 d_MO_readAll_145 rfl rfl ?_
              refine ab_callV (as := [ab_I (nI (op (O - 1)))]) X (fun h => by cases h) (t_MO_mayEnd u1 (op (O - 1)) _ _ _ P1.1 (by omega) y1 y3 y2 k7 c4 r9) lk_MO_185 d_MO_readAll_146 rfl rfl (by first | assumption | decide | (show _ < 124; omega) | (show _ < 61; omega) | (show _ < 20; omega)) ⟨by first | exact Nat.le_of_ble_eq_true rfl | (simp only [ab_rm]; omega), by first | exact Nat.le_of_ble_eq_true rfl | (simp only [ab_rm]; omega)⟩ ⟨by first | exact Nat.le_of_ble_eq_true rfl | (simp only [ab_rm]; omega), by first | exact Nat.le_of_ble_eq_true rfl | (simp only [ab_rm]; omega)⟩ (Nat.le_of_ble_eq_true rfl) (fun u146 r146 h146 => ?_)
              obtain ⟨e146, b146, hb146, rfl⟩ := h146
              subst u146
              refine ab_if_eq X 168 d_MO_readAll_149 rfl (fun h149 => ?_) (fun h149 => ?_)
              ·
                refine ab_iload_n X 2 d_MO_readAll_168 rfl rfl ?_
                exact ab_reti X hr0 hlk d_MO_readAll_169 ⟨P1, _, fun z => absurd z (nI_pos (by omega)), rfl⟩
              ·
                obtain ⟨-, g1, g2, g3⟩ := hb146.resolve_left h149
                refine ab_iinc3 X 2 0 1 3 d_MO_readAll_152 rfl (by decide) rfl rfl rfl rfl rfl rfl ?_
                refine ab_aload_n X 3 d_MO_readAll_155 rfl rfl ?_
                refine ab_dup X d_MO_readAll_156 rfl ?_
                refine ab_gI X fl_MO_129 d_MO_readAll_157 (by first | assumption | decide | (show _ < 124; omega) | (show _ < 61; omega) | (show _ < 20; omega)) (eO) ?_
                refine ab_iconst (v := 1) X d_MO_readAll_160 (by decide) ?_
                refine ab_isub X d_MO_readAll_161 ?_
                refine ab_top (nI_m1 hO) ?_
                refine ab_putI X fp_MO_129 d_MO_readAll_162 (by first | assumption | decide | (show _ < 124; omega) | (show _ < 61; omega) | (show _ < 20; omega)) rfl rfl ?_
                refine ab_gen (fun u162 e162 => ?_)
                have P162 : gP [5, 6, 39, 101, 102, 103, 104, 120] u u162 := by rw [e162]; exact P1.ui rfl (by decide)
                refine ab_goto X 170 d_MO_readAll_165 rfl ?_
                refine ab_goto X 34 d_MO_readAll_170 rfl ?_
                refine ab_lv (List.forall_mem_cons.mpr ⟨List.mem_of_getElem? (i := 2) rfl, List.forall_mem_cons.mpr ⟨List.mem_of_getElem? (i := 0) rfl, List.forall_mem_cons.mpr ⟨List.mem_of_getElem? (i := 3) rfl, fun _ h => absurd h List.not_mem_nil⟩⟩⟩) ?_
                rw [show nI q + Int32.ofInt 1 = nI (q + 1) from nI_1 q]
                first | exact ih (100 - q) (by omega) (q + 1) M O kd ar cn en cl op ch _ _ (by omega) P162 ⟨⟨eM, eL, eO, eS, eop⟩, R, hL, by omega, by omega, h0, hA⟩ hM1 (Or.inr ⟨rfl, hO, g1, g2⟩) | exact ih (100 - q) (by omega) (q + 1) M (O - 1) kd ar cn _ _ op ch _ _ (by omega) P162 ⟨⟨by rw [e162]; simpa [ab_up] using eM, by rw [e162]; simpa [ab_up] using eL, by rw [e162]; simp [ab_up], fun p hp => by rw [e162]; simpa [ab_up] using eS p hp, fun j hj => by rw [e162]; simpa [ab_up] using eop j (by omega)⟩, rt.close R hO (h0 hO) ⟨g1, g2, fun z => ⟨(hA _ t1 z).1, g3 z⟩⟩, hL, by omega, by omega, fun _ => h0 hO, hA⟩ hM1 (Or.inl hb1)
          ·
            have hlt : q < t := Classical.byContradiction (fun z => absurd h115 (by unfold atv; rw [if_neg z]; decide))
            refine ab_aload_n X 3 d_MO_readAll_118 rfl rfl ?_
            refine ab_iload_n X 0 d_MO_readAll_119 rfl rfl ?_
            refine ab_callV (as := [ab_I (nI (op (O - 1)))]) X (fun h => by cases h) (t_MO_mayGoOn u1 (op (O - 1)) _ _ P1.1 (by omega) y1 y3 k7 c4) lk_MO_181 d_MO_readAll_120 rfl rfl (by first | assumption | decide | (show _ < 124; omega) | (show _ < 61; omega) | (show _ < 20; omega)) ⟨by first | exact Nat.le_of_ble_eq_true rfl | (simp only [ab_rm]; omega), by first | exact Nat.le_of_ble_eq_true rfl | (simp only [ab_rm]; omega)⟩ ⟨by first | exact Nat.le_of_ble_eq_true rfl | (simp only [ab_rm]; omega), by first | exact Nat.le_of_ble_eq_true rfl | (simp only [ab_rm]; omega)⟩ (Nat.le_of_ble_eq_true rfl) (fun u120 r120 h120 => ?_)
            obtain ⟨e120, b120, hb120, rfl⟩ := h120
            subst u120
            refine ab_if_eq X 134 d_MO_readAll_123 rfl (fun h123 => ?_) (fun h123 => ?_)
            ·
              refine ab_aload_n X 3 d_MO_readAll_134 rfl rfl ?_
              refine ab_iload_n X 2 d_MO_readAll_135 rfl rfl ?_
              refine ab_callV (as := [ab_I (nI q)]) X (fun h => by cases h) (t_MO_at u1 q t ht et1 P1.1 (by omega)) lk_MO_145 d_MO_readAll_136 rfl rfl (by first | assumption | decide | (show _ < 124; omega) | (show _ < 61; omega) | (show _ < 20; omega)) ⟨by first | exact Nat.le_of_ble_eq_true rfl | (simp only [ab_rm]; omega), by first | exact Nat.le_of_ble_eq_true rfl | (simp only [ab_rm]; omega)⟩ ⟨by first | exact Nat.le_of_ble_eq_true rfl | (simp only [ab_rm]; omega), by first | exact Nat.le_of_ble_eq_true rfl | (simp only [ab_rm]; omega)⟩ (Nat.le_of_ble_eq_true rfl) (fun u136 r136 h136 => ?_)
              obtain ⟨e136, rfl⟩ := h136
              subst u136
              refine ab_bipush (v := 41) X d_MO_readAll_139 (by decide) ?_
              refine ab_icmp_ne X 168 d_MO_readAll_141 rfl (fun h141 => ?_) (fun h141 => ?_)
              ·
                refine ab_iload_n X 2 d_MO_readAll_168 rfl rfl ?_
                exact ab_reti X hr0 hlk d_MO_readAll_169 ⟨P1, _, fun z => absurd z (nI_pos (by omega)), rfl⟩
              ·
                have hlt : q < t := Classical.byContradiction (fun z => absurd h141 (by unfold atv; rw [if_neg z]; decide))
                refine ab_aload_n X 3 d_MO_readAll_144 rfl rfl ?_
                refine ab_iload_n X 0 d_MO_readAll_145 rfl rfl ?_
                refine ab_callV (as := [ab_I (nI (op (O - 1)))]) X (fun h => by cases h) (t_MO_mayEnd u1 (op (O - 1)) _ _ _ P1.1 (by omega) y1 y3 y2 k7 c4 r9) lk_MO_185 d_MO_readAll_146 rfl rfl (by first | assumption | decide | (show _ < 124; omega) | (show _ < 61; omega) | (show _ < 20; omega)) ⟨by first | exact Nat.le_of_ble_eq_true rfl | (simp only [ab_rm]; omega), by first | exact Nat.le_of_ble_eq_true rfl | (simp only [ab_rm]; omega)⟩ ⟨by first | exact Nat.le_of_ble_eq_true rfl | (simp only [ab_rm]; omega), by first | exact Nat.le_of_ble_eq_true rfl | (simp only [ab_rm]; omega)⟩ (Nat.le_of_ble_eq_true rfl) (fun u146 r146 h146 => ?_)
                obtain ⟨e146, b146, hb146, rfl⟩ := h146
                subst u146
                refine ab_if_eq X 168 d_MO_readAll_149 rfl (fun h149 => ?_) (fun h149 => ?_)
                ·
                  refine ab_iload_n X 2 d_MO_readAll_168 rfl rfl ?_
                  exact ab_reti X hr0 hlk d_MO_readAll_169 ⟨P1, _, fun z => absurd z (nI_pos (by omega)), rfl⟩
                ·
                  obtain ⟨-, g1, g2, g3⟩ := hb146.resolve_left h149
                  refine ab_iinc3 X 2 0 1 3 d_MO_readAll_152 rfl (by decide) rfl rfl rfl rfl rfl rfl ?_
                  refine ab_aload_n X 3 d_MO_readAll_155 rfl rfl ?_
                  refine ab_dup X d_MO_readAll_156 rfl ?_
                  refine ab_gI X fl_MO_129 d_MO_readAll_157 (by first | assumption | decide | (show _ < 124; omega) | (show _ < 61; omega) | (show _ < 20; omega)) (eO) ?_
                  refine ab_iconst (v := 1) X d_MO_readAll_160 (by decide) ?_
                  refine ab_isub X d_MO_readAll_161 ?_
                  refine ab_top (nI_m1 hO) ?_
                  refine ab_putI X fp_MO_129 d_MO_readAll_162 (by first | assumption | decide | (show _ < 124; omega) | (show _ < 61; omega) | (show _ < 20; omega)) rfl rfl ?_
                  refine ab_gen (fun u162 e162 => ?_)
                  have P162 : gP [5, 6, 39, 101, 102, 103, 104, 120] u u162 := by rw [e162]; exact P1.ui rfl (by decide)
                  refine ab_goto X 170 d_MO_readAll_165 rfl ?_
                  refine ab_goto X 34 d_MO_readAll_170 rfl ?_
                  refine ab_lv (List.forall_mem_cons.mpr ⟨List.mem_of_getElem? (i := 2) rfl, List.forall_mem_cons.mpr ⟨List.mem_of_getElem? (i := 0) rfl, List.forall_mem_cons.mpr ⟨List.mem_of_getElem? (i := 3) rfl, fun _ h => absurd h List.not_mem_nil⟩⟩⟩) ?_
                  rw [show nI q + Int32.ofInt 1 = nI (q + 1) from nI_1 q]
                  first | exact ih (100 - q) (by omega) (q + 1) M O kd ar cn en cl op ch _ _ (by omega) P162 ⟨⟨eM, eL, eO, eS, eop⟩, R, hL, by omega, by omega, h0, hA⟩ hM1 (Or.inr ⟨rfl, hO, g1, g2⟩) | exact ih (100 - q) (by omega) (q + 1) M (O - 1) kd ar cn _ _ op ch _ _ (by omega) P162 ⟨⟨by rw [e162]; simpa [ab_up] using eM, by rw [e162]; simpa [ab_up] using eL, by rw [e162]; simp [ab_up], fun p hp => by rw [e162]; simpa [ab_up] using eS p hp, fun j hj => by rw [e162]; simpa [ab_up] using eop j (by omega)⟩, rt.close R hO (h0 hO) ⟨g1, g2, fun z => ⟨(hA _ t1 z).1, g3 z⟩⟩, hL, by omega, by omega, fun _ => h0 hO, hA⟩ hM1 (Or.inl hb1)
            ·
              obtain ⟨-, g1, g2⟩ := hb120.resolve_left h123
              refine ab_iinc3 X 2 0 1 3 d_MO_readAll_126 rfl (by decide) rfl rfl rfl rfl rfl rfl ?_
              refine ab_iconst (v := 0) X d_MO_readAll_129 (by decide) ?_
              refine ab_istore_n3 X 0 1 3 d_MO_readAll_130 rfl (by decide) rfl rfl rfl rfl rfl rfl ?_
              refine ab_goto X 170 d_MO_readAll_131 rfl ?_
              refine ab_goto X 34 d_MO_readAll_170 rfl ?_
              refine ab_lv (List.forall_mem_cons.mpr ⟨List.mem_of_getElem? (i := 0) rfl, List.forall_mem_cons.mpr ⟨List.mem_of_getElem? (i := 1) rfl, List.forall_mem_cons.mpr ⟨List.mem_of_getElem? (i := 3) rfl, fun _ h => absurd h List.not_mem_nil⟩⟩⟩) ?_
              rw [show nI q + Int32.ofInt 1 = nI (q + 1) from nI_1 q]
              first | exact ih (100 - q) (by omega) (q + 1) M O kd ar cn en cl op ch _ _ (by omega) P1 ⟨⟨eM, eL, eO, eS, eop⟩, R, hL, by omega, by omega, h0, hA⟩ hM1 (Or.inr ⟨rfl, hO, g1, g2⟩) | exact ih (100 - q) (by omega) (q + 1) M (O - 1) kd ar cn _ _ op ch _ _ (by omega) P1 ⟨⟨by rw [e162]; simpa [ab_up] using eM, by rw [e162]; simpa [ab_up] using eL, by rw [e162]; simp [ab_up], fun p hp => by rw [e162]; simpa [ab_up] using eS p hp, fun j hj => by rw [e162]; simpa [ab_up] using eop j (by omega)⟩, rt.close R hO (h0 hO) ⟨g1, g2, fun z => ⟨(hA _ t1 z).1, g3 z⟩⟩, hL, by omega, by omega, fun _ => h0 hO, hA⟩ hM1 (Or.inl hb1)
        ·
          have hR : rR O kd cn op := by rcases hb with z | z; (exact absurd (z.symm.trans h75) (by decide)); exact z.2
          refine ab_aload_n X 3 d_MO_readAll_78 rfl rfl ?_
          refine ab_gI X fl_MO_129 d_MO_readAll_79 (by first | assumption | decide | (show _ < 124; omega) | (show _ < 61; omega) | (show _ < 20; omega)) (eO) ?_
          refine ab_istore4 X 0 1 2 3 d_MO_readAll_82 (by decide) rfl rfl rfl rfl rfl rfl rfl rfl ?_
          refine ab_aload_n X 4 d_MO_readAll_84 rfl rfl ?_
          refine ab_iload_n X 3 d_MO_readAll_85 rfl rfl ?_
          refine ab_callV (as := [ab_I (nI q)]) X (fun h => by cases h) (s_MO_begin u1 q t ht et1 M O kd ar cn en cl op ch P1.1 I (Or.inr hR)) lk_MO_178 d_MO_readAll_86 rfl rfl (by first | assumption | decide | (show _ < 124; omega) | (show _ < 61; omega) | (show _ < 20; omega)) ⟨by first | exact Nat.le_of_ble_eq_true rfl | (simp only [ab_rm]; omega), by first | exact Nat.le_of_ble_eq_true rfl | (simp only [ab_rm]; omega)⟩ ⟨by first | exact Nat.le_of_ble_eq_true rfl | (simp only [ab_rm]; omega), by first | exact Nat.le_of_ble_eq_true rfl | (simp only [ab_rm]; omega)⟩ (Nat.le_of_ble_eq_true rfl) (fun u86 r86 h86 => ?_)
          obtain ⟨q86, x86, hx86, rfl⟩ := h86
          have P86 := P1.trans q86 (by decide)
          refine ab_lv (List.forall_mem_cons.mpr ⟨List.mem_of_getElem? (i := 0) rfl, List.forall_mem_cons.mpr ⟨List.mem_of_getElem? (i := 1) rfl, List.forall_mem_cons.mpr ⟨List.mem_of_getElem? (i := 4) rfl, fun _ h => absurd h List.not_mem_nil⟩⟩⟩) ?_
          exact K89 _ _ _ P86 hR hx86
      ·
        refine ab_iload_n X 1 d_MO_readAll_60 rfl rfl ?_
        exact ab_reti X hr0 hlk d_MO_readAll_61 ⟨P1, _, fun z => absurd z (nI_pos (by omega)), rfl⟩
    ·
      have O0 : O = 0 := Nat.eq_zero_of_not_pos (fun z => h42 (nI_lt (a := 0) z (by omega)))
      refine ab_iload_n X 1 d_MO_readAll_45 rfl rfl ?_
      refine ab_aload_n X 2 d_MO_readAll_46 rfl rfl ?_
      refine ab_gI X fl_MO_17 d_MO_readAll_47 (by first | assumption | decide | (show _ < 124; omega) | (show _ < 61; omega) | (show _ < 20; omega)) (et1) ?_
      refine ab_icmp_ge X 173 d_MO_readAll_50 rfl (fun h50 => ?_) (fun h50 => ?_)
      ·
        refine ab_iload_n X 1 d_MO_readAll_173 rfl rfl ?_
        refine ab_if_ge X 183 d_MO_readAll_174 rfl (fun _ => ?_) (fun hb => absurd ((nI_pos' (by omega))) hb)
        refine ab_iconst (v := (-1)) X d_MO_readAll_183 (by decide) ?_
        exact ab_reti X hr0 hlk d_MO_readAll_184 ⟨P1, -1, fun _ => by subst O0; exact ⟨M, kd, ar, cn, _, ch, rt.done R (by omega) hL, eM, eS⟩, rfl⟩
      ·
        refine ab_aload_n X 2 d_MO_readAll_53 rfl rfl ?_
        refine ab_gI X fl_MO_129 d_MO_readAll_54 (by first | assumption | decide | (show _ < 124; omega) | (show _ < 61; omega) | (show _ < 20; omega)) (eO) ?_
        refine ab_if_ne X 62 d_MO_readAll_57 rfl (fun h57 => ?_) (fun h57 => ?_)
        ·
          have hO : 0 < O := Nat.pos_of_ne_zero (fun z => h57 (by rw [z]; rfl))
          obtain ⟨t1, t5, -, -⟩ := R.2.2.1 (O - 1) (by omega)
          obtain ⟨y1, y2, y3, -⟩ := eS _ t1
          obtain ⟨⟨k1, k7, r9⟩, -, a3, -⟩ := R.1 _ t1
          have c4 := (a3 t5).1
          refine ab_aload_n X 2 d_MO_readAll_62 rfl rfl ?_
          refine ab_gR X fl_MO_126 d_MO_readAll_63 (by first | assumption | decide | (show _ < 124; omega) | (show _ < 61; omega) | (show _ < 20; omega)) (P1.1.mo38) ?_
          refine ab_aload_n X 2 d_MO_readAll_66 rfl rfl ?_
          refine ab_gI X fl_MO_129 d_MO_readAll_67 (by first | assumption | decide | (show _ < 124; omega) | (show _ < 61; omega) | (show _ < 20; omega)) (eO) ?_
          refine ab_iconst (v := 1) X d_MO_readAll_70 (by decide) ?_
          refine ab_isub X d_MO_readAll_71 ?_
          refine ab_top (nI_m1 hO) ?_
          refine ab_iald X (O - 1) ⟨rfl, rfl⟩ d_MO_readAll_72 (by first | assumption | decide | (show _ < 124; omega) | (show _ < 61; omega) | (show _ < 20; omega)) (rfl) (show O - 1 < 40 by omega) (ab_ln_lt _ _) ?_
          refine ab_top (eop (O - 1) (by omega)) ?_
          refine ab_istore_n3 X 0 1 2 d_MO_readAll_73 rfl (by decide) rfl rfl rfl rfl rfl rfl ?_
          refine ab_iload_n X 1 d_MO_readAll_74 rfl rfl ?_
          refine ab_if_ne X 108 d_MO_readAll_75 rfl (fun h75 => ?_) (fun h75 => ?_)
          ·
            have hb1 : b = 1 := by rcases hb with z | z; exact z; exact absurd z.1 h75
            refine ab_aload_n X 3 d_MO_readAll_108 rfl rfl ?_
            refine ab_iload_n X 2 d_MO_readAll_109 rfl rfl ?_
            refine ab_callV (as := [ab_I (nI q)]) X (fun h => by cases h) (t_MO_at u1 q t ht et1 P1.1 (by omega)) lk_MO_145 d_MO_readAll_110 rfl rfl (by first | assumption | decide | (show _ < 124; omega) | (show _ < 61; omega) | (show _ < 20; omega)) ⟨by first | exact Nat.le_of_ble_eq_true rfl | (simp only [ab_rm]; omega), by first | exact Nat.le_of_ble_eq_true rfl | (simp only [ab_rm]; omega)⟩ ⟨by first | exact Nat.le_of_ble_eq_true rfl | (simp only [ab_rm]; omega), by first | exact Nat.le_of_ble_eq_true rfl | (simp only [ab_rm]; omega)⟩ (Nat.le_of_ble_eq_true rfl) (fun u110 r110 h110 => ?_)
            obtain ⟨e110, rfl⟩ := h110
            subst u110
            refine ab_bipush (v := 44) X d_MO_readAll_113 (by decide) ?_
            refine ab_icmp_ne X 134 d_MO_readAll_115 rfl (fun h115 => ?_) (fun h115 => ?_)
            ·
              refine ab_aload_n X 3 d_MO_readAll_134 rfl rfl ?_
              refine ab_iload_n X 2 d_MO_readAll_135 rfl rfl ?_
              refine ab_callV (as := [ab_I (nI q)]) X (fun h => by cases h) (t_MO_at u1 q t ht et1 P1.1 (by omega)) lk_MO_145 d_MO_readAll_136 rfl rfl (by first | assumption | decide | (show _ < 124; omega) | (show _ < 61; omega) | (show _ < 20; omega)) ⟨by first | exact Nat.le_of_ble_eq_true rfl | (simp only [ab_rm]; omega), by first | exact Nat.le_of_ble_eq_true rfl | (simp only [ab_rm]; omega)⟩ ⟨by first | exact Nat.le_of_ble_eq_true rfl | (simp only [ab_rm]; omega), by first | exact Nat.le_of_ble_eq_true rfl | (simp only [ab_rm]; omega)⟩ (Nat.le_of_ble_eq_true rfl) (fun u136 r136 h136 => ?_)
              obtain ⟨e136, rfl⟩ := h136
              subst u136
              refine ab_bipush (v := 41) X d_MO_readAll_139 (by decide) ?_
              refine ab_icmp_ne X 168 d_MO_readAll_141 rfl (fun h141 => ?_) (fun h141 => ?_)
              ·
                refine ab_iload_n X 2 d_MO_readAll_168 rfl rfl ?_
                exact ab_reti X hr0 hlk d_MO_readAll_169 ⟨P1, _, fun z => absurd z (nI_pos (by omega)), rfl⟩
              ·
                have hlt : q < t := Classical.byContradiction (fun z => absurd h141 (by unfold atv; rw [if_neg z]; decide))
                refine ab_aload_n X 3 d_MO_readAll_144 rfl rfl ?_
                refine ab_iload_n X 0 d_MO_readAll_145 rfl rfl ?_
                refine ab_callV (as := [ab_I (nI (op (O - 1)))]) X (fun h => by cases h) (t_MO_mayEnd u1 (op (O - 1)) _ _ _ P1.1 (by omega) y1 y3 y2 k7 c4 r9) lk_MO_185 d_MO_readAll_146 rfl rfl (by first | assumption | decide | (show _ < 124; omega) | (show _ < 61; omega) | (show _ < 20; omega)) ⟨by first | exact Nat.le_of_ble_eq_true rfl | (simp only [ab_rm]; omega), by first | exact Nat.le_of_ble_eq_true rfl | (simp only [ab_rm]; omega)⟩ ⟨by first | exact Nat.le_of_ble_eq_true rfl | (simp only [ab_rm]; omega), by first | exact Nat.le_of_ble_eq_true rfl | (simp only [ab_rm]; omega)⟩ (Nat.le_of_ble_eq_true rfl) (fun u146 r146 h146 => ?_)
                obtain ⟨e146, b146, hb146, rfl⟩ := h146
                subst u146
                refine ab_if_eq X 168 d_MO_readAll_149 rfl (fun h149 => ?_) (fun h149 => ?_)
                ·
                  refine ab_iload_n X 2 d_MO_readAll_168 rfl rfl ?_
                  exact ab_reti X hr0 hlk d_MO_readAll_169 ⟨P1, _, fun z => absurd z (nI_pos (by omega)), rfl⟩
                ·
                  obtain ⟨-, g1, g2, g3⟩ := hb146.resolve_left h149
                  refine ab_iinc3 X 2 0 1 3 d_MO_readAll_152 rfl (by decide) rfl rfl rfl rfl rfl rfl ?_
                  refine ab_aload_n X 3 d_MO_readAll_155 rfl rfl ?_
                  refine ab_dup X d_MO_readAll_156 rfl ?_
                  refine ab_gI X fl_MO_129 d_MO_readAll_157 (by first | assumption | decide | (show _ < 124; omega) | (show _ < 61; omega) | (show _ < 20; omega)) (eO) ?_
                  refine ab_iconst (v := 1) X d_MO_readAll_160 (by decide) ?_
                  refine ab_isub X d_MO_readAll_161 ?_
                  refine ab_top (nI_m1 hO) ?_
                  refine ab_putI X fp_MO_129 d_MO_readAll_162 (by first | assumption | decide | (show _ < 124; omega) | (show _ < 61; omega) | (show _ < 20; omega)) rfl rfl ?_
                  refine ab_gen (fun u162 e162 => ?_)
                  have P162 : gP [5, 6, 39, 101, 102, 103, 104, 120] u u162 := by rw [e162]; exact P1.ui rfl (by decide)
                  refine ab_goto X 170 d_MO_readAll_165 rfl ?_
                  refine ab_goto X 34 d_MO_readAll_170 rfl ?_
                  refine ab_lv (List.forall_mem_cons.mpr ⟨List.mem_of_getElem? (i := 2) rfl, List.forall_mem_cons.mpr ⟨List.mem_of_getElem? (i := 0) rfl, List.forall_mem_cons.mpr ⟨List.mem_of_getElem? (i := 3) rfl, fun _ h => absurd h List.not_mem_nil⟩⟩⟩) ?_
                  rw [show nI q + Int32.ofInt 1 = nI (q + 1) from nI_1 q]
                  first | exact ih (100 - q) (by omega) (q + 1) M O kd ar cn en cl op ch _ _ (by omega) P162 ⟨⟨eM, eL, eO, eS, eop⟩, R, hL, by omega, by omega, h0, hA⟩ hM1 (Or.inr ⟨rfl, hO, g1, g2⟩) | exact ih (100 - q) (by omega) (q + 1) M (O - 1) kd ar cn _ _ op ch _ _ (by omega) P162 ⟨⟨by rw [e162]; simpa [ab_up] using eM, by rw [e162]; simpa [ab_up] using eL, by rw [e162]; simp [ab_up], fun p hp => by rw [e162]; simpa [ab_up] using eS p hp, fun j hj => by rw [e162]; simpa [ab_up] using eop j (by omega)⟩, rt.close R hO (h0 hO) ⟨g1, g2, fun z => ⟨(hA _ t1 z).1, g3 z⟩⟩, hL, by omega, by omega, fun _ => h0 hO, hA⟩ hM1 (Or.inl hb1)
            ·
              have hlt : q < t := Classical.byContradiction (fun z => absurd h115 (by unfold atv; rw [if_neg z]; decide))
              refine ab_aload_n X 3 d_MO_readAll_118 rfl rfl ?_
              refine ab_iload_n X 0 d_MO_readAll_119 rfl rfl ?_
              refine ab_callV (as := [ab_I (nI (op (O - 1)))]) X (fun h => by cases h) (t_MO_mayGoOn u1 (op (O - 1)) _ _ P1.1 (by omega) y1 y3 k7 c4) lk_MO_181 d_MO_readAll_120 rfl rfl (by first | assumption | decide | (show _ < 124; omega) | (show _ < 61; omega) | (show _ < 20; omega)) ⟨by first | exact Nat.le_of_ble_eq_true rfl | (simp only [ab_rm]; omega), by first | exact Nat.le_of_ble_eq_true rfl | (simp only [ab_rm]; omega)⟩ ⟨by first | exact Nat.le_of_ble_eq_true rfl | (simp only [ab_rm]; omega), by first | exact Nat.le_of_ble_eq_true rfl | (simp only [ab_rm]; omega)⟩ (Nat.le_of_ble_eq_true rfl) (fun u120 r120 h120 => ?_)
              obtain ⟨e120, b120, hb120, rfl⟩ := h120
              subst u120
              refine ab_if_eq X 134 d_MO_readAll_123 rfl (fun h123 => ?_) (fun h123 => ?_)
              ·
                refine ab_aload_n X 3 d_MO_readAll_134 rfl rfl ?_
                refine ab_iload_n X 2 d_MO_readAll_135 rfl rfl ?_
                refine ab_callV (as := [ab_I (nI q)]) X (fun h => by cases h) (t_MO_at u1 q t ht et1 P1.1 (by omega)) lk_MO_145 d_MO_readAll_136 rfl rfl (by first | assumption | decide | (show _ < 124; omega) | (show _ < 61; omega) | (show _ < 20; omega)) ⟨by first | exact Nat.le_of_ble_eq_true rfl | (simp only [ab_rm]; omega), by first | exact Nat.le_of_ble_eq_true rfl | (simp only [ab_rm]; omega)⟩ ⟨by first | exact Nat.le_of_ble_eq_true rfl | (simp only [ab_rm]; omega), by first | exact Nat.le_of_ble_eq_true rfl | (simp only [ab_rm]; omega)⟩ (Nat.le_of_ble_eq_true rfl) (fun u136 r136 h136 => ?_)
                obtain ⟨e136, rfl⟩ := h136
                subst u136
                refine ab_bipush (v := 41) X d_MO_readAll_139 (by decide) ?_
                refine ab_icmp_ne X 168 d_MO_readAll_141 rfl (fun h141 => ?_) (fun h141 => ?_)
                ·
                  refine ab_iload_n X 2 d_MO_readAll_168 rfl rfl ?_
                  exact ab_reti X hr0 hlk d_MO_readAll_169 ⟨P1, _, fun z => absurd z (nI_pos (by omega)), rfl⟩
                ·
                  have hlt : q < t := Classical.byContradiction (fun z => absurd h141 (by unfold atv; rw [if_neg z]; decide))
                  refine ab_aload_n X 3 d_MO_readAll_144 rfl rfl ?_
                  refine ab_iload_n X 0 d_MO_readAll_145 rfl rfl ?_
                  refine ab_callV (as := [ab_I (nI (op (O - 1)))]) X (fun h => by cases h) (t_MO_mayEnd u1 (op (O - 1)) _ _ _ P1.1 (by omega) y1 y3 y2 k7 c4 r9) lk_MO_185 d_MO_readAll_146 rfl rfl (by first | assumption | decide | (show _ < 124; omega) | (show _ < 61; omega) | (show _ < 20; omega)) ⟨by first | exact Nat.le_of_ble_eq_true rfl | (simp only [ab_rm]; omega), by first | exact Nat.le_of_ble_eq_true rfl | (simp only [ab_rm]; omega)⟩ ⟨by first | exact Nat.le_of_ble_eq_true rfl | (simp only [ab_rm]; omega), by first | exact Nat.le_of_ble_eq_true rfl | (simp only [ab_rm]; omega)⟩ (Nat.le_of_ble_eq_true rfl) (fun u146 r146 h146 => ?_)
                  obtain ⟨e146, b146, hb146, rfl⟩ := h146
                  subst u146
                  refine ab_if_eq X 168 d_MO_readAll_149 rfl (fun h149 => ?_) (fun h149 => ?_)
                  ·
                    refine ab_iload_n X 2 d_MO_readAll_168 rfl rfl ?_
                    exact ab_reti X hr0 hlk d_MO_readAll_169 ⟨P1, _, fun z => absurd z (nI_pos (by omega)), rfl⟩
                  ·
                    obtain ⟨-, g1, g2, g3⟩ := hb146.resolve_left h149
                    refine ab_iinc3 X 2 0 1 3 d_MO_readAll_152 rfl (by decide) rfl rfl rfl rfl rfl rfl ?_
                    refine ab_aload_n X 3 d_MO_readAll_155 rfl rfl ?_
                    refine ab_dup X d_MO_readAll_156 rfl ?_
                    refine ab_gI X fl_MO_129 d_MO_readAll_157 (by first | assumption | decide | (show _ < 124; omega) | (show _ < 61; omega) | (show _ < 20; omega)) (eO) ?_
                    refine ab_iconst (v := 1) X d_MO_readAll_160 (by decide) ?_
                    refine ab_isub X d_MO_readAll_161 ?_
                    refine ab_top (nI_m1 hO) ?_
                    refine ab_putI X fp_MO_129 d_MO_readAll_162 (by first | assumption | decide | (show _ < 124; omega) | (show _ < 61; omega) | (show _ < 20; omega)) rfl rfl ?_
                    refine ab_gen (fun u162 e162 => ?_)
                    have P162 : gP [5, 6, 39, 101, 102, 103, 104, 120] u u162 := by rw [e162]; exact P1.ui rfl (by decide)
                    refine ab_goto X 170 d_MO_readAll_165 rfl ?_
                    refine ab_goto X 34 d_MO_readAll_170 rfl ?_
                    refine ab_lv (List.forall_mem_cons.mpr ⟨List.mem_of_getElem? (i := 2) rfl, List.forall_mem_cons.mpr ⟨List.mem_of_getElem? (i := 0) rfl, List.forall_mem_cons.mpr ⟨List.mem_of_getElem? (i := 3) rfl, fun _ h => absurd h List.not_mem_nil⟩⟩⟩) ?_
                    rw [show nI q + Int32.ofInt 1 = nI (q + 1) from nI_1 q]
                    first | exact ih (100 - q) (by omega) (q + 1) M O kd ar cn en cl op ch _ _ (by omega) P162 ⟨⟨eM, eL, eO, eS, eop⟩, R, hL, by omega, by omega, h0, hA⟩ hM1 (Or.inr ⟨rfl, hO, g1, g2⟩) | exact ih (100 - q) (by omega) (q + 1) M (O - 1) kd ar cn _ _ op ch _ _ (by omega) P162 ⟨⟨by rw [e162]; simpa [ab_up] using eM, by rw [e162]; simpa [ab_up] using eL, by rw [e162]; simp [ab_up], fun p hp => by rw [e162]; simpa [ab_up] using eS p hp, fun j hj => by rw [e162]; simpa [ab_up] using eop j (by omega)⟩, rt.close R hO (h0 hO) ⟨g1, g2, fun z => ⟨(hA _ t1 z).1, g3 z⟩⟩, hL, by omega, by omega, fun _ => h0 hO, hA⟩ hM1 (Or.inl hb1)
              ·
                obtain ⟨-, g1, g2⟩ := hb120.resolve_left h123
                refine ab_iinc3 X 2 0 1 3 d_MO_readAll_126 rfl (by decide) rfl rfl rfl rfl rfl rfl ?_
                refine ab_iconst (v := 0) X d_MO_readAll_129 (by decide) ?_
                refine ab_istore_n3 X 0 1 3 d_MO_readAll_130 rfl (by decide) rfl rfl rfl rfl rfl rfl ?_
                refine ab_goto X 170 d_MO_readAll_131 rfl ?_
                refine ab_goto X 34 d_MO_readAll_170 rfl ?_
                refine ab_lv (List.forall_mem_cons.mpr ⟨List.mem_of_getElem? (i := 0) rfl, List.forall_mem_cons.mpr ⟨List.mem_of_getElem? (i := 1) rfl, List.forall_mem_cons.mpr ⟨List.mem_of_getElem? (i := 3) rfl, fun _ h => absurd h List.not_mem_nil⟩⟩⟩) ?_
                rw [show nI q + Int32.ofInt 1 = nI (q + 1) from nI_1 q]
                first | exact ih (100 - q) (by omega) (q + 1) M O kd ar cn en cl op ch _ _ (by omega) P1 ⟨⟨eM, eL, eO, eS, eop⟩, R, hL, by omega, by omega, h0, hA⟩ hM1 (Or.inr ⟨rfl, hO, g1, g2⟩) | exact ih (100 - q) (by omega) (q + 1) M (O - 1) kd ar cn _ _ op ch _ _ (by omega) P1 ⟨⟨by rw [e162]; simpa [ab_up] using eM, by rw [e162]; simpa [ab_up] using eL, by rw [e162]; simp [ab_up], fun p hp => by rw [e162]; simpa [ab_up] using eS p hp, fun j hj => by rw [e162]; simpa [ab_up] using eop j (by omega)⟩, rt.close R hO (h0 hO) ⟨g1, g2, fun z => ⟨(hA _ t1 z).1, g3 z⟩⟩, hL, by omega, by omega, fun _ => h0 hO, hA⟩ hM1 (Or.inl hb1)
          ·
            have hR : rR O kd cn op := by rcases hb with z | z; (exact absurd (z.symm.trans h75) (by decide)); exact z.2
            refine ab_aload_n X 3 d_MO_readAll_78 rfl rfl ?_
            refine ab_gI X fl_MO_129 d_MO_readAll_79 (by first | assumption | decide | (show _ < 124; omega) | (show _ < 61; omega) | (show _ < 20; omega)) (eO) ?_
            refine ab_istore4 X 0 1 2 3 d_MO_readAll_82 (by decide) rfl rfl rfl rfl rfl rfl rfl rfl ?_
            refine ab_aload_n X 4 d_MO_readAll_84 rfl rfl ?_
            refine ab_iload_n X 3 d_MO_readAll_85 rfl rfl ?_
            refine ab_callV (as := [ab_I (nI q)]) X (fun h => by cases h) (s_MO_begin u1 q t ht et1 M O kd ar cn en cl op ch P1.1 I (Or.inr hR)) lk_MO_178 d_MO_readAll_86 rfl rfl (by first | assumption | decide | (show _ < 124; omega) | (show _ < 61; omega) | (show _ < 20; omega)) ⟨by first | exact Nat.le_of_ble_eq_true rfl | (simp only [ab_rm]; omega), by first | exact Nat.le_of_ble_eq_true rfl | (simp only [ab_rm]; omega)⟩ ⟨by first | exact Nat.le_of_ble_eq_true rfl | (simp only [ab_rm]; omega), by first | exact Nat.le_of_ble_eq_true rfl | (simp only [ab_rm]; omega)⟩ (Nat.le_of_ble_eq_true rfl) (fun u86 r86 h86 => ?_)
            obtain ⟨q86, x86, hx86, rfl⟩ := h86
            have P86 := P1.trans q86 (by decide)
            refine ab_lv (List.forall_mem_cons.mpr ⟨List.mem_of_getElem? (i := 0) rfl, List.forall_mem_cons.mpr ⟨List.mem_of_getElem? (i := 1) rfl, List.forall_mem_cons.mpr ⟨List.mem_of_getElem? (i := 4) rfl, fun _ h => absurd h List.not_mem_nil⟩⟩⟩) ?_
            exact K89 _ _ _ P86 hR hx86
        ·
          refine ab_iload_n X 1 d_MO_readAll_60 rfl rfl ?_
          exact ab_reti X hr0 hlk d_MO_readAll_61 ⟨P1, _, fun z => absurd z (nI_pos (by omega)), rfl⟩
  have I0 : ∀ u1 : ab_S, u1.1 17 0 5 = nI 0 → u1.1 17 0 6 = nI 0 → u1.1 17 0 39 = nI 0 → rI t 0 0 0 (fun _ => 0) (fun _ => 0) (fun _ => 0) (fun _ => 0) (fun _ => 0) (fun _ => 0) (fun _ _ => 0) u1 := fun u1 a b d => ⟨⟨a, b, d, fun p hp => absurd hp (by omega), fun j hj => absurd hj (by omega)⟩, ⟨fun p hp => absurd hp (by omega), fun p hp => absurd hp (by omega), fun j hj => absurd hj (by omega), fun z => absurd z (by omega), fun _ z => absurd z (by omega)⟩, by decide, by omega, by omega, fun z => absurd z (by omega), fun p hp => absurd hp (by omega)⟩
  have K20 : ∀ (u2 : ab_S) (x : Int32), gP [5, 6, 39, 101, 102, 103, 104, 120] u u2 → (x < 0 ∨ ∃ (q' O' : Nat) (kd' ar' cn' en' cl' op' : Nat → Nat) (ch' : Nat → Nat → Nat), x = nI q' ∧ 0 + 3 ≤ q' ∧ rI t q' (0 + 1) O' kd' ar' cn' en' cl' op' ch' u2 ∧ (O' = 0 ∨ (O' = 0 + 1 ∧ rR O' kd' cn' op'))) → ab_J p l e (ab_rm 3 0 0) s m args below meth c (MQ below (ab_Q D ca ad ab_nQ s.heap.size (fun u' v => gP [5, 6, 39, 101, 102, 103, 104, 120] u u' ∧ ∃ x : Int32, (x < 0 → ∃ (M : Nat) (kd ar cn lf : Nat → Nat) (ch : Nat → Nat → Nat), tW M kd ar cn lf ch ∧ tR M kd ar cn ch u') ∧ v = some (ab_I x))) args s 0 0 (ab_A ad ab_nQ s.heap.size)) D ca (ab_A ad ab_nQ s.heap.size) s.heap 5 0 0 ad ab_nQ u2 20 [(0, ab_O 17 0)] [ab_I x] := by
    intro u2 x P2 hx
    rcases hx with hx | ⟨q', O', kd', ar', cn', en', cl', op', ch', rfl, hq', I', hO'⟩
    ·
      refine ab_istore_n1 X 0 d_MO_readAll_20 rfl (by decide) rfl rfl ?_
      refine ab_aload_n X 1 d_MO_readAll_21 rfl rfl ?_
      refine ab_gI X fl_MO_129 d_MO_readAll_22 (by first | assumption | decide | (show _ < 124; omega) | (show _ < 61; omega) | (show _ < 20; omega)) (rfl) ?_
      refine ab_if_ne X 32 d_MO_readAll_25 rfl (fun h25 => ?_) (fun h25 => ?_)
      ·
        refine ab_iconst (v := 0) X d_MO_readAll_32 (by decide) ?_
        refine ab_istore_n2 X 0 1 d_MO_readAll_33 rfl (by decide) rfl rfl rfl rfl ?_
        exact neg34 _ _ _ hx P2
      ·
        refine ab_iconst (v := 1) X d_MO_readAll_28 (by decide) ?_
        refine ab_goto X 33 d_MO_readAll_29 rfl ?_
        refine ab_istore_n2 X 0 1 d_MO_readAll_33 rfl (by decide) rfl rfl rfl rfl ?_
        exact neg34 _ _ _ hx P2
    · have eO' := I'.1.2.2.1
      rcases hO' with rfl | ⟨rfl, hR'⟩
      ·
        refine ab_istore_n1 X 0 d_MO_readAll_20 rfl (by decide) rfl rfl ?_
        refine ab_aload_n X 1 d_MO_readAll_21 rfl rfl ?_
        refine ab_gI X fl_MO_129 d_MO_readAll_22 (by first | assumption | decide | (show _ < 124; omega) | (show _ < 61; omega) | (show _ < 20; omega)) (eO') ?_
        refine ab_if_ne X 32 d_MO_readAll_25 rfl (fun hb => absurd (rfl) hb) (fun _ => ?_)
        refine ab_iconst (v := 1) X d_MO_readAll_28 (by decide) ?_
        refine ab_goto X 33 d_MO_readAll_29 rfl ?_
        refine ab_istore_n2 X 0 1 d_MO_readAll_33 rfl (by decide) rfl rfl rfl rfl ?_
        exact loop (101 - q') q' _ _ _ _ _ _ _ _ _ _ _ (by have := I'.2.2.2.2.1; omega) P2 I' (by omega) (Or.inl rfl)
      ·
        refine ab_istore_n1 X 0 d_MO_readAll_20 rfl (by decide) rfl rfl ?_
        refine ab_aload_n X 1 d_MO_readAll_21 rfl rfl ?_
        refine ab_gI X fl_MO_129 d_MO_readAll_22 (by first | assumption | decide | (show _ < 124; omega) | (show _ < 61; omega) | (show _ < 20; omega)) (eO') ?_
        refine ab_if_ne X 32 d_MO_readAll_25 rfl (fun _ => ?_) (fun hb => absurd hb ((by decide)))
        refine ab_iconst (v := 0) X d_MO_readAll_32 (by decide) ?_
        refine ab_istore_n2 X 0 1 d_MO_readAll_33 rfl (by decide) rfl rfl rfl rfl ?_
        exact loop (101 - q') q' _ _ _ _ _ _ _ _ _ _ _ (by have := I'.2.2.2.2.1; omega) P2 I' (by omega) (Or.inr ⟨rfl, hR'⟩)
  refine ab_aload_n X 0 d_MO_readAll_0 rfl rfl ?_
  refine ab_iconst (v := 0) X d_MO_readAll_1 (by decide) ?_
  refine ab_putI X fp_MO_27 d_MO_readAll_2 (by first | assumption | decide | (show _ < 124; omega) | (show _ < 61; omega) | (show _ < 20; omega)) rfl rfl ?_
  refine ab_gen (fun u2 e2 => ?_)
  have P2 : gP [5, 6, 39, 101, 102, 103, 104, 120] u u2 := by rw [e2]; exact P0.ui rfl (by decide)
  refine ab_aload_n X 0 d_MO_readAll_5 rfl rfl ?_
  refine ab_iconst (v := 0) X d_MO_readAll_6 (by decide) ?_
  refine ab_putI X fp_MO_30 d_MO_readAll_7 (by first | assumption | decide | (show _ < 124; omega) | (show _ < 61; omega) | (show _ < 20; omega)) rfl rfl ?_
  refine ab_gen (fun u7 e7 => ?_)
  have P7 : gP [5, 6, 39, 101, 102, 103, 104, 120] u u7 := by rw [e7]; exact P2.ui rfl (by decide)
  refine ab_aload_n X 0 d_MO_readAll_10 rfl rfl ?_
  refine ab_iconst (v := 0) X d_MO_readAll_11 (by decide) ?_
  refine ab_putI X fp_MO_129 d_MO_readAll_12 (by first | assumption | decide | (show _ < 124; omega) | (show _ < 61; omega) | (show _ < 20; omega)) rfl rfl ?_
  refine ab_gen (fun u12 e12 => ?_)
  have P12 : gP [5, 6, 39, 101, 102, 103, 104, 120] u u12 := by rw [e12]; exact P7.ui rfl (by decide)
  refine ab_aload_n X 0 d_MO_readAll_15 rfl rfl ?_
  refine ab_iconst (v := 0) X d_MO_readAll_16 (by decide) ?_
  refine ab_callV (as := [ab_I (nI 0)]) X (fun h => by cases h) (s_MO_begin u12 0 t ht (P12.fi (by decide) et) 0 0 _ _ _ _ _ _ _ P12.1 (I0 _ (by rw [e12, e7, e2]; simp [ab_up]; rfl) (by rw [e12, e7]; simp [ab_up]; rfl) (by rw [e12]; simp [ab_up]; rfl)) (Or.inl ⟨rfl, rfl⟩)) lk_MO_178 d_MO_readAll_17 rfl rfl (by first | assumption | decide | (show _ < 124; omega) | (show _ < 61; omega) | (show _ < 20; omega)) ⟨by first | exact Nat.le_of_ble_eq_true rfl | (simp only [ab_rm]; omega), by first | exact Nat.le_of_ble_eq_true rfl | (simp only [ab_rm]; omega)⟩ ⟨by first | exact Nat.le_of_ble_eq_true rfl | (simp only [ab_rm]; omega), by first | exact Nat.le_of_ble_eq_true rfl | (simp only [ab_rm]; omega)⟩ (Nat.le_of_ble_eq_true rfl) (fun u17 r17 h17 => ?_)
  obtain ⟨q17, x17, hx17, rfl⟩ := h17
  have P17 := P12.trans q17 (by decide)
  exact K20 _ _ P17 hx17
/-- what holds of the reference between calls -/
def MI (u : ab_S) : Prop := mR u.2.1 ∧ (∃ n, n ≤ 100 ∧ u.1 17 0 2 = nI n) ∧ (∃ n, n ≤ 40 ∧ u.1 17 0 32 = nI n) ∧ (u.1 17 0 4 = 0 ∨ (u.1 17 0 4 = 1 ∧ ∃ (P : Nat) (kd ar cn lf : Nat → Nat) (ch : Nat → Nat → Nat), tW P kd ar cn lf ch ∧ tR P kd ar cn ch u ∧ fV P kd lf 0 u))
abbrev b_MO_read : ByteArray := prog_10_method_57_code
def y_MO_read : MethodName := ⟨"PolicyForgeModel", "read", "()I"⟩
theorem d_MO_read_0 : decode b_MO_read 0 = .ok (.aload_n 0, 1) := by decide +kernel
theorem d_MO_read_1 : decode b_MO_read 1 = .ok (.aload_n 0, 1) := by decide +kernel
theorem d_MO_read_2 : decode b_MO_read 2 = .ok (.invokevirtual 313, 3) := by decide +kernel
theorem d_MO_read_5 : decode b_MO_read 5 = .ok (.putfield 20, 3) := by decide +kernel
theorem d_MO_read_8 : decode b_MO_read 8 = .ok (.aload_n 0, 1) := by decide +kernel
theorem d_MO_read_9 : decode b_MO_read 9 = .ok (.iconst 0, 1) := by decide +kernel
theorem d_MO_read_10 : decode b_MO_read 10 = .ok (.putfield 17, 3) := by decide +kernel
theorem d_MO_read_13 : decode b_MO_read 13 = .ok (.aload_n 0, 1) := by decide +kernel
theorem d_MO_read_14 : decode b_MO_read 14 = .ok (.aload_n 0, 1) := by decide +kernel
theorem d_MO_read_15 : decode b_MO_read 15 = .ok (.getfield 20, 3) := by decide +kernel
theorem d_MO_read_18 : decode b_MO_read 18 = .ok (.ifCond .ge 7, 3) := by decide +kernel
theorem d_MO_read_21 : decode b_MO_read 21 = .ok (.iconst 1, 1) := by decide +kernel
theorem d_MO_read_22 : decode b_MO_read 22 = .ok (.goto 4, 3) := by decide +kernel
theorem d_MO_read_25 : decode b_MO_read 25 = .ok (.iconst 0, 1) := by decide +kernel
theorem d_MO_read_26 : decode b_MO_read 26 = .ok (.putfield 23, 3) := by decide +kernel
theorem d_MO_read_29 : decode b_MO_read 29 = .ok (.aload_n 0, 1) := by decide +kernel
theorem d_MO_read_30 : decode b_MO_read 30 = .ok (.aload_n 0, 1) := by decide +kernel
theorem d_MO_read_31 : decode b_MO_read 31 = .ok (.getfield 23, 3) := by decide +kernel
theorem d_MO_read_34 : decode b_MO_read 34 = .ok (.ifCond .eq 7, 3) := by decide +kernel
theorem d_MO_read_37 : decode b_MO_read 37 = .ok (.iconst 0, 1) := by decide +kernel
theorem d_MO_read_38 : decode b_MO_read 38 = .ok (.goto 4, 3) := by decide +kernel
theorem d_MO_read_41 : decode b_MO_read 41 = .ok (.iconst 1, 1) := by decide +kernel
theorem d_MO_read_42 : decode b_MO_read 42 = .ok (.putfield 7, 3) := by decide +kernel
theorem d_MO_read_45 : decode b_MO_read 45 = .ok (.aload_n 0, 1) := by decide +kernel
theorem d_MO_read_46 : decode b_MO_read 46 = .ok (.getfield 23, 3) := by decide +kernel
theorem d_MO_read_49 : decode b_MO_read 49 = .ok (.ifCond .ne 5, 3) := by decide +kernel
theorem d_MO_read_52 : decode b_MO_read 52 = .ok (.iconst 0, 1) := by decide +kernel
theorem d_MO_read_53 : decode b_MO_read 53 = .ok (.ireturn, 1) := by decide +kernel
theorem d_MO_read_54 : decode b_MO_read 54 = .ok (.aload_n 0, 1) := by decide +kernel
theorem d_MO_read_55 : decode b_MO_read 55 = .ok (.getfield 27, 3) := by decide +kernel
theorem d_MO_read_58 : decode b_MO_read 58 = .ok (.iconst 1, 1) := by decide +kernel
theorem d_MO_read_59 : decode b_MO_read 59 = .ok (.isub, 1) := by decide +kernel
theorem d_MO_read_60 : decode b_MO_read 60 = .ok (.istore_n 1, 1) := by decide +kernel
theorem d_MO_read_61 : decode b_MO_read 61 = .ok (.iload_n 1, 1) := by decide +kernel
theorem d_MO_read_62 : decode b_MO_read 62 = .ok (.ifCond .lt 14, 3) := by decide +kernel
theorem d_MO_read_65 : decode b_MO_read 65 = .ok (.aload_n 0, 1) := by decide +kernel
theorem d_MO_read_66 : decode b_MO_read 66 = .ok (.iload_n 1, 1) := by decide +kernel
theorem d_MO_read_67 : decode b_MO_read 67 = .ok (.invokevirtual 316, 3) := by decide +kernel
theorem d_MO_read_70 : decode b_MO_read 70 = .ok (.iinc 1 (-1), 3) := by decide +kernel
theorem d_MO_read_73 : decode b_MO_read 73 = .ok (.goto (-12), 3) := by decide +kernel
theorem d_MO_read_76 : decode b_MO_read 76 = .ok (.aload_n 0, 1) := by decide +kernel
theorem d_MO_read_77 : decode b_MO_read 77 = .ok (.getfield 48, 3) := by decide +kernel
theorem d_MO_read_80 : decode b_MO_read 80 = .ok (.iconst 0, 1) := by decide +kernel
theorem d_MO_read_81 : decode b_MO_read 81 = .ok (.iaload, 1) := by decide +kernel
theorem d_MO_read_82 : decode b_MO_read 82 = .ok (.ireturn, 1) := by decide +kernel
theorem lk_MO_313 : ab_lk "PolicyForgeModel" 313 y_MO_readAll b_MO_readAll 5 (some FieldType.int) 0 17 := ⟨⟨rfl, T_MO, 44, rfl⟩, List.forall_mem_cons.mpr ⟨(ab_in 1072 (by decide +kernel) (by decide +kernel)), List.forall_mem_cons.mpr ⟨(ab_in 1074 (by decide +kernel) (by decide +kernel)), List.forall_mem_cons.mpr ⟨(ab_in 46 (by decide +kernel) (by decide +kernel)), List.forall_mem_cons.mpr ⟨(ab_in 100 (by decide +kernel) (by decide +kernel)), List.forall_mem_cons.mpr ⟨(ab_in 1075 (by decide +kernel) (by decide +kernel)), fun _ h => absurd h List.not_mem_nil⟩⟩⟩⟩⟩, ⟨by decide +kernel, by decide +kernel, by decide +kernel⟩, by decide⟩
theorem lk_MO_316 : ab_lk "PolicyForgeModel" 316 y_MO_forms b_MO_forms 6 none 1 17 := ⟨⟨rfl, T_MO, 44, rfl⟩, List.forall_mem_cons.mpr ⟨(ab_in 1113 (by decide +kernel) (by decide +kernel)), List.forall_mem_cons.mpr ⟨(ab_in 1115 (by decide +kernel) (by decide +kernel)), List.forall_mem_cons.mpr ⟨(ab_in 53 (by decide +kernel) (by decide +kernel)), List.forall_mem_cons.mpr ⟨(ab_in 100 (by decide +kernel) (by decide +kernel)), List.forall_mem_cons.mpr ⟨(ab_in 1116 (by decide +kernel) (by decide +kernel)), fun _ h => absurd h List.not_mem_nil⟩⟩⟩⟩⟩, ⟨by decide +kernel, by decide +kernel, by decide +kernel⟩, by decide⟩
set_option maxRecDepth 100000 in
set_option maxHeartbeats 4000000 in
theorem s_MO_read (u : ab_S) (h : MI u) : ab_C false l D ca y_MO_read b_MO_read 2 (some FieldType.int) 6 ab_nQ u [ab_O 17 0] (fun u' v => (MI u' ∧ gP [0, 2, 3, 4, 5, 6, 16, 17, 18, 19, 39, 101, 102, 103, 104, 105, 106, 107, 108, 109, 120] u u' ∧ u'.1 17 0 2 = nI 0) ∧ ∃ x : Int32, v = some (ab_I x)) := by
  refine ab_C.of (by decide) (Nat.le_of_ble_eq_true rfl) ?_
  intro p e s m args below meth c ad X hZ hr0 hlk
  obtain ⟨hm, ⟨t, ht, et⟩, ⟨ni, hi, ei⟩, -⟩ := h
  have P0 : gP [0, 2, 3, 4, 5, 6, 16, 17, 18, 19, 39, 101, 102, 103, 104, 105, 106, 107, 108, 109, 120] u u := gP.rf hm
  have loop : ∀ (M : Nat) (kd ar cn lf : Nat → Nat) (ch : Nat → Nat → Nat), tW M kd ar cn lf ch → ∀ (j : Nat) (u1 : ab_S), j ≤ M → gP [0, 2, 3, 4, 5, 6, 16, 17, 18, 19, 39, 101, 102, 103, 104, 105, 106, 107, 108, 109, 120] u u1 → tR M kd ar cn ch u1 → fV M kd lf j u1 → u1.1 17 0 4 = 1 → u1.1 17 0 2 = nI 0 → ab_J p l e (ab_rm 6 0 0) s m args below meth c (MQ below (ab_Q D ca ad ab_nQ s.heap.size (fun u' v => (MI u' ∧ gP [0, 2, 3, 4, 5, 6, 16, 17, 18, 19, 39, 101, 102, 103, 104, 105, 106, 107, 108, 109, 120] u u' ∧ u'.1 17 0 2 = nI 0) ∧ ∃ x : Int32, v = some (ab_I x))) args s 0 0 (ab_A ad ab_nQ s.heap.size)) D ca (ab_A ad ab_nQ s.heap.size) s.heap 2 0 0 ad ab_nQ u1 61 [(1, ab_I (nI j - 1)), (0, ab_O 17 0)] [] := by
    intro M kd ar cn lf ch W j
    have hP19 := W.2.1
    induction j with
    | zero =>
      intro u1 hj P1 T V a4 a2
      refine ab_iload_n X 0 d_MO_read_61 rfl rfl ?_
      refine ab_if_lt X 76 d_MO_read_62 rfl (fun _ => ?_) (fun hb => absurd ((by decide)) hb)
      refine ab_aload_n X 1 d_MO_read_76 rfl rfl ?_
      refine ab_gR X fl_MO_48 d_MO_read_77 (by first | assumption | decide | (show _ < 124; omega) | (show _ < 61; omega) | (show _ < 20; omega)) (P1.1.mo12) ?_
      refine ab_iconst (v := 0) X d_MO_read_80 (by decide) ?_
      refine ab_iald X (0) ⟨rfl, rfl⟩ d_MO_read_81 (by first | assumption | decide | (show _ < 124; omega) | (show _ < 61; omega) | (show _ < 20; omega)) (rfl) (show 0 < 72 by decide) (ab_ln_lt _ _) ?_
      exact ab_reti X hr0 hlk d_MO_read_82 ⟨⟨⟨P1.1, ⟨0, by decide, a2⟩, ⟨ni, hi, P1.fi (by decide) ei⟩, Or.inr ⟨a4, M, kd, ar, cn, lf, ch, W, T, V⟩⟩, P1, a2⟩, _, rfl⟩
    | succ j ih =>
      intro u1 hj P1 T V a4 a2
      rw [nI_m1 (by omega), show j + 1 - 1 = j by omega]
      refine ab_iload_n X 0 d_MO_read_61 rfl rfl ?_
      refine ab_if_lt X 76 d_MO_read_62 rfl (fun hb => absurd hb ((nI_pos (by omega)))) (fun _ => ?_)
      refine ab_aload_n X 1 d_MO_read_65 rfl rfl ?_
      refine ab_iload_n X 0 d_MO_read_66 rfl rfl ?_
      refine ab_callV (as := [ab_I (nI j)]) X (fun h => by cases h) (s_MO_forms u1 M kd ar cn lf ch W T j P1.1 (by omega) V) lk_MO_316 d_MO_read_67 rfl rfl (by first | assumption | decide | (show _ < 124; omega) | (show _ < 61; omega) | (show _ < 20; omega)) ⟨by first | exact Nat.le_of_ble_eq_true rfl | (simp only [ab_rm]; omega), by first | exact Nat.le_of_ble_eq_true rfl | (simp only [ab_rm]; omega)⟩ ⟨by first | exact Nat.le_of_ble_eq_true rfl | (simp only [ab_rm]; omega), by first | exact Nat.le_of_ble_eq_true rfl | (simp only [ab_rm]; omega)⟩ (Nat.le_of_ble_eq_true rfl) (fun u67 r67 h67 => ?_)
      obtain ⟨⟨n67, v67⟩, rfl⟩ := h67
      have q67 := n67.1
      have P67 := P1.trans q67 (by decide)
      refine ab_iinc1 X 0 1 d_MO_read_70 rfl (by decide) rfl rfl ?_
      refine ab_goto X 61 d_MO_read_73 rfl ?_
      rw [show nI j + Int32.ofInt (-1) = nI j - 1 from by rw [Int32.sub_eq_add_neg]; rfl]
      exact ih _ (by omega) P67 (T.fr n67.1 (by decide) (by decide) (by decide) (by decide) (by decide)) v67 (n67.1.fi (by decide) a4) (n67.1.fi (by decide) a2)
  have K5 : ∀ (u2 : ab_S) (x : Int32), gP [0, 2, 3, 4, 5, 6, 16, 17, 18, 19, 39, 101, 102, 103, 104, 105, 106, 107, 108, 109, 120] u u2 → (x < 0 → ∃ (M : Nat) (kd ar cn lf : Nat → Nat) (ch : Nat → Nat → Nat), tW M kd ar cn lf ch ∧ tR M kd ar cn ch u2) → ab_J p l e (ab_rm 6 0 0) s m args below meth c (MQ below (ab_Q D ca ad ab_nQ s.heap.size (fun u' v => (MI u' ∧ gP [0, 2, 3, 4, 5, 6, 16, 17, 18, 19, 39, 101, 102, 103, 104, 105, 106, 107, 108, 109, 120] u u' ∧ u'.1 17 0 2 = nI 0) ∧ ∃ x : Int32, v = some (ab_I x))) args s 0 0 (ab_A ad ab_nQ s.heap.size)) D ca (ab_A ad ab_nQ s.heap.size) s.heap 2 0 0 ad ab_nQ u2 5 [(0, ab_O 17 0)] [ab_I x, ab_O 17 0] := by
    intro u2 x P2 hx
    by_cases hn : x < 0
    · obtain ⟨M, kd, ar, cn, lf, ch, W, T⟩ := hx hn
      refine ab_putI X fp_MO_20 d_MO_read_5 (by first | assumption | decide | (show _ < 124; omega) | (show _ < 61; omega) | (show _ < 20; omega)) rfl rfl ?_
      refine ab_gen (fun u5 e5 => ?_)
      have P5 : gP [0, 2, 3, 4, 5, 6, 16, 17, 18, 19, 39, 101, 102, 103, 104, 105, 106, 107, 108, 109, 120] u u5 := by rw [e5]; exact P2.ui rfl (by decide)
      refine ab_aload_n X 0 d_MO_read_8 rfl rfl ?_
      refine ab_iconst (v := 0) X d_MO_read_9 (by decide) ?_
      refine ab_putI X fp_MO_17 d_MO_read_10 (by first | assumption | decide | (show _ < 124; omega) | (show _ < 61; omega) | (show _ < 20; omega)) rfl rfl ?_
      refine ab_gen (fun u10 e10 => ?_)
      have P10 : gP [0, 2, 3, 4, 5, 6, 16, 17, 18, 19, 39, 101, 102, 103, 104, 105, 106, 107, 108, 109, 120] u u10 := by rw [e10]; exact P5.ui rfl (by decide)
      refine ab_aload_n X 0 d_MO_read_13 rfl rfl ?_
      refine ab_aload_n X 0 d_MO_read_14 rfl rfl ?_
      refine ab_gI X fl_MO_20 d_MO_read_15 (by first | assumption | decide | (show _ < 124; omega) | (show _ < 61; omega) | (show _ < 20; omega)) ((show _ = x by rw [e10, e5]; simp [ab_up])) ?_
      refine ab_if_ge X 25 d_MO_read_18 rfl (fun hb => absurd hb ((Int32.not_le.mpr hn))) (fun _ => ?_)
      refine ab_iconst (v := 1) X d_MO_read_21 (by decide) ?_
      refine ab_goto X 26 d_MO_read_22 rfl ?_
      refine ab_putI X fp_MO_23 d_MO_read_26 (by first | assumption | decide | (show _ < 124; omega) | (show _ < 61; omega) | (show _ < 20; omega)) rfl rfl ?_
      refine ab_gen (fun u26 e26 => ?_)
      have P26 : gP [0, 2, 3, 4, 5, 6, 16, 17, 18, 19, 39, 101, 102, 103, 104, 105, 106, 107, 108, 109, 120] u u26 := by rw [e26]; exact P10.ui rfl (by decide)
      refine ab_aload_n X 0 d_MO_read_29 rfl rfl ?_
      refine ab_aload_n X 0 d_MO_read_30 rfl rfl ?_
      refine ab_gI X fl_MO_23 d_MO_read_31 (by first | assumption | decide | (show _ < 124; omega) | (show _ < 61; omega) | (show _ < 20; omega)) ((show _ = (1 : Int32) by rw [e26]; simp [ab_up])) ?_
      refine ab_if_eq X 41 d_MO_read_34 rfl (fun hb => absurd hb ((by decide))) (fun _ => ?_)
      refine ab_iconst (v := 0) X d_MO_read_37 (by decide) ?_
      refine ab_goto X 42 d_MO_read_38 rfl ?_
      refine ab_putI X fp_MO_7 d_MO_read_42 (by first | assumption | decide | (show _ < 124; omega) | (show _ < 61; omega) | (show _ < 20; omega)) rfl rfl ?_
      refine ab_gen (fun u42 e42 => ?_)
      have P42 : gP [0, 2, 3, 4, 5, 6, 16, 17, 18, 19, 39, 101, 102, 103, 104, 105, 106, 107, 108, 109, 120] u u42 := by rw [e42]; exact P26.ui rfl (by decide)
      have w42 : gP [0, 2, 3, 4] u2 u42 := by rw [e42, e26, e10, e5]; exact ((((gP.rf P2.1 : gP [0, 2, 3, 4] u2 u2).ui rfl trivial).ui rfl trivial).ui rfl trivial).ui rfl trivial
      have T42 := T.fr w42 (by decide) (by decide) (by decide) (by decide) (by decide)
      refine ab_aload_n X 0 d_MO_read_45 rfl rfl ?_
      refine ab_gI X fl_MO_23 d_MO_read_46 (by first | assumption | decide | (show _ < 124; omega) | (show _ < 61; omega) | (show _ < 20; omega)) ((show _ = (1 : Int32) by rw [e42, e26]; simp [ab_up])) ?_
      refine ab_if_ne X 54 d_MO_read_49 rfl (fun _ => ?_) (fun hb => absurd hb ((by decide)))
      refine ab_aload_n X 0 d_MO_read_54 rfl rfl ?_
      refine ab_gI X fl_MO_27 d_MO_read_55 (by first | assumption | decide | (show _ < 124; omega) | (show _ < 61; omega) | (show _ < 20; omega)) (T42.1) ?_
      refine ab_iconst (v := 1) X d_MO_read_58 (by decide) ?_
      refine ab_isub X d_MO_read_59 ?_
      refine ab_istore_n1 X 0 d_MO_read_60 rfl (by decide) rfl rfl ?_
      exact loop M kd ar cn lf ch W M _ (Nat.le_refl _) P42 T42 (fun p a b => absurd b (by omega)) (by rw [e42, e26]; simp [ab_up]) (by rw [e42, e26, e10]; simp [ab_up]; rfl)
    ·
      refine ab_putI X fp_MO_20 d_MO_read_5 (by first | assumption | decide | (show _ < 124; omega) | (show _ < 61; omega) | (show _ < 20; omega)) rfl rfl ?_
      refine ab_gen (fun u5 e5 => ?_)
      have P5 : gP [0, 2, 3, 4, 5, 6, 16, 17, 18, 19, 39, 101, 102, 103, 104, 105, 106, 107, 108, 109, 120] u u5 := by rw [e5]; exact P2.ui rfl (by decide)
      refine ab_aload_n X 0 d_MO_read_8 rfl rfl ?_
      refine ab_iconst (v := 0) X d_MO_read_9 (by decide) ?_
      refine ab_putI X fp_MO_17 d_MO_read_10 (by first | assumption | decide | (show _ < 124; omega) | (show _ < 61; omega) | (show _ < 20; omega)) rfl rfl ?_
      refine ab_gen (fun u10 e10 => ?_)
      have P10 : gP [0, 2, 3, 4, 5, 6, 16, 17, 18, 19, 39, 101, 102, 103, 104, 105, 106, 107, 108, 109, 120] u u10 := by rw [e10]; exact P5.ui rfl (by decide)
      refine ab_aload_n X 0 d_MO_read_13 rfl rfl ?_
      refine ab_aload_n X 0 d_MO_read_14 rfl rfl ?_
      refine ab_gI X fl_MO_20 d_MO_read_15 (by first | assumption | decide | (show _ < 124; omega) | (show _ < 61; omega) | (show _ < 20; omega)) ((show _ = x by rw [e10, e5]; simp [ab_up])) ?_
      refine ab_if_ge X 25 d_MO_read_18 rfl (fun _ => ?_) (fun hb => absurd ((Int32.not_lt.mp hn)) hb)
      refine ab_iconst (v := 0) X d_MO_read_25 (by decide) ?_
      refine ab_putI X fp_MO_23 d_MO_read_26 (by first | assumption | decide | (show _ < 124; omega) | (show _ < 61; omega) | (show _ < 20; omega)) rfl rfl ?_
      refine ab_gen (fun u26 e26 => ?_)
      have P26 : gP [0, 2, 3, 4, 5, 6, 16, 17, 18, 19, 39, 101, 102, 103, 104, 105, 106, 107, 108, 109, 120] u u26 := by rw [e26]; exact P10.ui rfl (by decide)
      refine ab_aload_n X 0 d_MO_read_29 rfl rfl ?_
      refine ab_aload_n X 0 d_MO_read_30 rfl rfl ?_
      refine ab_gI X fl_MO_23 d_MO_read_31 (by first | assumption | decide | (show _ < 124; omega) | (show _ < 61; omega) | (show _ < 20; omega)) ((show _ = (0 : Int32) by rw [e26]; simp [ab_up])) ?_
      refine ab_if_eq X 41 d_MO_read_34 rfl (fun _ => ?_) (fun hb => absurd (rfl) hb)
      refine ab_iconst (v := 1) X d_MO_read_41 (by decide) ?_
      refine ab_putI X fp_MO_7 d_MO_read_42 (by first | assumption | decide | (show _ < 124; omega) | (show _ < 61; omega) | (show _ < 20; omega)) rfl rfl ?_
      refine ab_gen (fun u42 e42 => ?_)
      have P42 : gP [0, 2, 3, 4, 5, 6, 16, 17, 18, 19, 39, 101, 102, 103, 104, 105, 106, 107, 108, 109, 120] u u42 := by rw [e42]; exact P26.ui rfl (by decide)
      refine ab_aload_n X 0 d_MO_read_45 rfl rfl ?_
      refine ab_gI X fl_MO_23 d_MO_read_46 (by first | assumption | decide | (show _ < 124; omega) | (show _ < 61; omega) | (show _ < 20; omega)) ((show _ = (0 : Int32) by rw [e42, e26]; simp [ab_up])) ?_
      refine ab_if_ne X 54 d_MO_read_49 rfl (fun hb => absurd (rfl) hb) (fun _ => ?_)
      refine ab_iconst (v := 0) X d_MO_read_52 (by decide) ?_
      exact ab_reti X hr0 hlk d_MO_read_53 ⟨⟨⟨P42.1, ⟨0, by decide, by rw [e42, e26, e10]; simp [ab_up]; rfl⟩, ⟨ni, hi, P42.fi (by decide) ei⟩, Or.inl (by rw [e42, e26]; simp [ab_up])⟩, P42, by rw [e42, e26, e10]; simp [ab_up]; rfl⟩, _, rfl⟩
  refine ab_aload_n X 0 d_MO_read_0 rfl rfl ?_
  refine ab_aload_n X 0 d_MO_read_1 rfl rfl ?_
  refine ab_callV (as := []) X (fun h => by cases h) (s_MO_readAll u t ht et hm) lk_MO_313 d_MO_read_2 rfl rfl (by first | assumption | decide | (show _ < 124; omega) | (show _ < 61; omega) | (show _ < 20; omega)) ⟨by first | exact Nat.le_of_ble_eq_true rfl | (simp only [ab_rm]; omega), by first | exact Nat.le_of_ble_eq_true rfl | (simp only [ab_rm]; omega)⟩ ⟨by first | exact Nat.le_of_ble_eq_true rfl | (simp only [ab_rm]; omega), by first | exact Nat.le_of_ble_eq_true rfl | (simp only [ab_rm]; omega)⟩ (Nat.le_of_ble_eq_true rfl) (fun u2 r2 h2 => ?_)
  obtain ⟨q2, x2, hx2, rfl⟩ := h2
  have P2 := P0.trans q2 (by decide)
  exact K5 _ _ P2 hx2
end SaMRead

