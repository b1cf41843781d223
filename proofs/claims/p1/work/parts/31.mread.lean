/-! The reference's read of an empty text. -/
theorem mr_and (x : Int32) : ¬ (-1 : Int32) = x &&& 255 := fun h => by
  have h1 := congrArg (fun z : Int32 => z.toBitVec.getLsbD 31) h
  have h2 : (x &&& 255).toBitVec.getLsbD 31 = false := by
    show (x.toBitVec &&& (255 : Int32).toBitVec).getLsbD 31 = false
    rw [BitVec.getLsbD_and, show (255 : Int32).toBitVec.getLsbD 31 = false by decide, Bool.and_false]
  have h3 : (-1 : Int32).toBitVec.getLsbD 31 = true := by decide
  exact absurd (h3.symm.trans (h1.trans h2)) (by decide)
section AbMR
variable {l : Launch} {D : va_G} {ca : Nat → ClassId} {N : Nat → Nat}
abbrev b_MO_at : ByteArray := prog_10_method_2_code
def y_MO_at : MethodName := ⟨"PolicyForgeModel", "at", "(I)I"⟩
theorem d_MO_at_0 : decode b_MO_at 0 = .ok (.iload_n 1, 1) := by decide +kernel
theorem d_MO_at_1 : decode b_MO_at 1 = .ok (.aload_n 0, 1) := by decide +kernel
theorem d_MO_at_2 : decode b_MO_at 2 = .ok (.getfield 17, 3) := by decide +kernel
theorem d_MO_at_5 : decode b_MO_at 5 = .ok (.if_icmp .ge 12, 3) := by decide +kernel
theorem d_MO_at_8 : decode b_MO_at 8 = .ok (.aload_n 0, 1) := by decide +kernel
theorem d_MO_at_9 : decode b_MO_at 9 = .ok (.getfield 13, 3) := by decide +kernel
theorem d_MO_at_12 : decode b_MO_at 12 = .ok (.iload_n 1, 1) := by decide +kernel
theorem d_MO_at_13 : decode b_MO_at 13 = .ok (.iaload, 1) := by decide +kernel
theorem d_MO_at_14 : decode b_MO_at 14 = .ok (.goto 4, 3) := by decide +kernel
theorem d_MO_at_17 : decode b_MO_at 17 = .ok (.iconst (-1), 1) := by decide +kernel
theorem d_MO_at_18 : decode b_MO_at 18 = .ok (.ireturn, 1) := by decide +kernel
theorem c_MO_at0 (u : ab_S) (h17 : 0 < N 17) (et : u.1 17 0 2 = 0) : ab_C false l D ca y_MO_at b_MO_at 2 (some .int) 0 N u [ab_O 17 0, ab_I 0] (fun u' v => u' = u ∧ v = some (ab_I (-1))) := by
  refine ab_C.of (by decide) (Nat.le_of_ble_eq_true rfl) ?_
  intro p e s m args below meth c ad X hZ hr0 hlk
  refine ab_iload_n X 1 d_MO_at_0 rfl rfl ?_
  refine ab_aload_n X 0 d_MO_at_1 rfl rfl ?_
  refine ab_gI X fl_MO_17 d_MO_at_2 (by first | assumption | decide) (et) ?_
  refine ab_icmp_ge X 17 d_MO_at_5 rfl (fun _ => ?_) (fun hb => absurd ((by decide)) hb)
  refine ab_iconst (v := (-1)) X d_MO_at_17 (by decide) ?_
  exact ab_reti X hr0 hlk d_MO_at_18 ⟨rfl, rfl⟩
def mr_w (k : Nat) : Int64 := ([1801812264, 448311552040, 107092667363880, 122511331521064, 1634624552, 7303720, 1953002024] : List Int64).getD k 0
def mr_n (k : Nat) : Int32 := ([4, 5, 6, 6, 4, 3, 4] : List Int32).getD k 0
theorem mr_n0 {k : Nat} (h : k < 7) : ¬ (0 : Int32) = mr_n k := by
  have h' : k = 0 ∨ k = 1 ∨ k = 2 ∨ k = 3 ∨ k = 4 ∨ k = 5 ∨ k = 6 := by omega
  rcases h' with rfl | rfl | rfl | rfl | rfl | rfl | rfl <;> decide
abbrev b_MO_wordOf : ByteArray := prog_10_method_4_code
def y_MO_wordOf : MethodName := ⟨"PolicyForgeModel", "wordOf", "(I)J"⟩
theorem d_MO_wordOf_0 : decode b_MO_wordOf 0 = .ok (.iload_n 0, 1) := by decide +kernel
theorem d_MO_wordOf_1 : decode b_MO_wordOf 1 = .ok (.tableswitch 63 1 6 #[39, 43, 47, 51, 55, 59], 39) := by decide +kernel
theorem d_MO_wordOf_40 : decode b_MO_wordOf 40 = .ok (.ldc2_w 149, 3) := by decide +kernel
theorem d_MO_wordOf_43 : decode b_MO_wordOf 43 = .ok (.lreturn, 1) := by decide +kernel
theorem d_MO_wordOf_44 : decode b_MO_wordOf 44 = .ok (.ldc2_w 151, 3) := by decide +kernel
theorem d_MO_wordOf_47 : decode b_MO_wordOf 47 = .ok (.lreturn, 1) := by decide +kernel
theorem d_MO_wordOf_48 : decode b_MO_wordOf 48 = .ok (.ldc2_w 153, 3) := by decide +kernel
theorem d_MO_wordOf_51 : decode b_MO_wordOf 51 = .ok (.lreturn, 1) := by decide +kernel
theorem d_MO_wordOf_52 : decode b_MO_wordOf 52 = .ok (.ldc2_w 155, 3) := by decide +kernel
theorem d_MO_wordOf_55 : decode b_MO_wordOf 55 = .ok (.lreturn, 1) := by decide +kernel
theorem d_MO_wordOf_56 : decode b_MO_wordOf 56 = .ok (.ldc2_w 157, 3) := by decide +kernel
theorem d_MO_wordOf_59 : decode b_MO_wordOf 59 = .ok (.lreturn, 1) := by decide +kernel
theorem d_MO_wordOf_60 : decode b_MO_wordOf 60 = .ok (.ldc2_w 159, 3) := by decide +kernel
theorem d_MO_wordOf_63 : decode b_MO_wordOf 63 = .ok (.lreturn, 1) := by decide +kernel
theorem d_MO_wordOf_64 : decode b_MO_wordOf 64 = .ok (.ldc2_w 161, 3) := by decide +kernel
theorem d_MO_wordOf_67 : decode b_MO_wordOf 67 = .ok (.lreturn, 1) := by decide +kernel
theorem c_MO_wordOf (u : ab_S) (k : Nat) (hk : k < 7) : ab_C false l D ca y_MO_wordOf b_MO_wordOf 1 (some .long) 0 N u [ab_I (nI (k + 1))] (fun u' v => u' = u ∧ v = some (ab_L (mr_w k))) := by
  refine ab_C.of (by decide) (Nat.le_of_ble_eq_true rfl) ?_
  intro p e s m args below meth c ad X hZ hr0 hlk
  have h' : k = 0 ∨ k = 1 ∨ k = 2 ∨ k = 3 ∨ k = 4 ∨ k = 5 ∨ k = 6 := by omega
  rcases h' with rfl | rfl | rfl | rfl | rfl | rfl | rfl
  ·
    refine ab_iload_n X 0 d_MO_wordOf_0 rfl rfl ?_
    refine ab_tableIn X 40 d_MO_wordOf_1 (by decide) (by decide) (off := 39) (by decide) (by decide) ?_
    refine ab_ldc2 X (v := 1801812264) (ab_in 1087 (by decide +kernel) (by decide +kernel)) d_MO_wordOf_40 ?_
    exact ab_retl X hr0 hlk d_MO_wordOf_43 ⟨rfl, rfl⟩
  ·
    refine ab_iload_n X 0 d_MO_wordOf_0 rfl rfl ?_
    refine ab_tableIn X 44 d_MO_wordOf_1 (by decide) (by decide) (off := 43) (by decide) (by decide) ?_
    refine ab_ldc2 X (v := 448311552040) (ab_in 1088 (by decide +kernel) (by decide +kernel)) d_MO_wordOf_44 ?_
    exact ab_retl X hr0 hlk d_MO_wordOf_47 ⟨rfl, rfl⟩
  ·
    refine ab_iload_n X 0 d_MO_wordOf_0 rfl rfl ?_
    refine ab_tableIn X 48 d_MO_wordOf_1 (by decide) (by decide) (off := 47) (by decide) (by decide) ?_
    refine ab_ldc2 X (v := 107092667363880) (ab_in 1089 (by decide +kernel) (by decide +kernel)) d_MO_wordOf_48 ?_
    exact ab_retl X hr0 hlk d_MO_wordOf_51 ⟨rfl, rfl⟩
  ·
    refine ab_iload_n X 0 d_MO_wordOf_0 rfl rfl ?_
    refine ab_tableIn X 52 d_MO_wordOf_1 (by decide) (by decide) (off := 51) (by decide) (by decide) ?_
    refine ab_ldc2 X (v := 122511331521064) (ab_in 1090 (by decide +kernel) (by decide +kernel)) d_MO_wordOf_52 ?_
    exact ab_retl X hr0 hlk d_MO_wordOf_55 ⟨rfl, rfl⟩
  ·
    refine ab_iload_n X 0 d_MO_wordOf_0 rfl rfl ?_
    refine ab_tableIn X 56 d_MO_wordOf_1 (by decide) (by decide) (off := 55) (by decide) (by decide) ?_
    refine ab_ldc2 X (v := 1634624552) (ab_in 1091 (by decide +kernel) (by decide +kernel)) d_MO_wordOf_56 ?_
    exact ab_retl X hr0 hlk d_MO_wordOf_59 ⟨rfl, rfl⟩
  ·
    refine ab_iload_n X 0 d_MO_wordOf_0 rfl rfl ?_
    refine ab_tableIn X 60 d_MO_wordOf_1 (by decide) (by decide) (off := 59) (by decide) (by decide) ?_
    refine ab_ldc2 X (v := 7303720) (ab_in 1092 (by decide +kernel) (by decide +kernel)) d_MO_wordOf_60 ?_
    exact ab_retl X hr0 hlk d_MO_wordOf_63 ⟨rfl, rfl⟩
  ·
    refine ab_iload_n X 0 d_MO_wordOf_0 rfl rfl ?_
    refine ab_tableOut X 64 d_MO_wordOf_1 (by decide) (by decide) ?_
    refine ab_ldc2 X (v := 1953002024) (ab_in 1093 (by decide +kernel) (by decide +kernel)) d_MO_wordOf_64 ?_
    exact ab_retl X hr0 hlk d_MO_wordOf_67 ⟨rfl, rfl⟩
abbrev b_MO_lettersOf : ByteArray := prog_10_method_5_code
def y_MO_lettersOf : MethodName := ⟨"PolicyForgeModel", "lettersOf", "(I)I"⟩
theorem d_MO_lettersOf_0 : decode b_MO_lettersOf 0 = .ok (.iload_n 0, 1) := by decide +kernel
theorem d_MO_lettersOf_1 : decode b_MO_lettersOf 1 = .ok (.bipush 6, 2) := by decide +kernel
theorem d_MO_lettersOf_3 : decode b_MO_lettersOf 3 = .ok (.if_icmp .ne 7, 3) := by decide +kernel
theorem d_MO_lettersOf_6 : decode b_MO_lettersOf 6 = .ok (.iconst 3, 1) := by decide +kernel
theorem d_MO_lettersOf_7 : decode b_MO_lettersOf 7 = .ok (.goto 34, 3) := by decide +kernel
theorem d_MO_lettersOf_10 : decode b_MO_lettersOf 10 = .ok (.iload_n 0, 1) := by decide +kernel
theorem d_MO_lettersOf_11 : decode b_MO_lettersOf 11 = .ok (.iconst 1, 1) := by decide +kernel
theorem d_MO_lettersOf_12 : decode b_MO_lettersOf 12 = .ok (.if_icmp .eq 14, 3) := by decide +kernel
theorem d_MO_lettersOf_15 : decode b_MO_lettersOf 15 = .ok (.iload_n 0, 1) := by decide +kernel
theorem d_MO_lettersOf_16 : decode b_MO_lettersOf 16 = .ok (.iconst 5, 1) := by decide +kernel
theorem d_MO_lettersOf_17 : decode b_MO_lettersOf 17 = .ok (.if_icmp .eq 9, 3) := by decide +kernel
theorem d_MO_lettersOf_20 : decode b_MO_lettersOf 20 = .ok (.iload_n 0, 1) := by decide +kernel
theorem d_MO_lettersOf_21 : decode b_MO_lettersOf 21 = .ok (.bipush 7, 2) := by decide +kernel
theorem d_MO_lettersOf_23 : decode b_MO_lettersOf 23 = .ok (.if_icmp .ne 7, 3) := by decide +kernel
theorem d_MO_lettersOf_26 : decode b_MO_lettersOf 26 = .ok (.iconst 4, 1) := by decide +kernel
theorem d_MO_lettersOf_27 : decode b_MO_lettersOf 27 = .ok (.goto 14, 3) := by decide +kernel
theorem d_MO_lettersOf_30 : decode b_MO_lettersOf 30 = .ok (.iload_n 0, 1) := by decide +kernel
theorem d_MO_lettersOf_31 : decode b_MO_lettersOf 31 = .ok (.iconst 2, 1) := by decide +kernel
theorem d_MO_lettersOf_32 : decode b_MO_lettersOf 32 = .ok (.if_icmp .ne 7, 3) := by decide +kernel
theorem d_MO_lettersOf_35 : decode b_MO_lettersOf 35 = .ok (.iconst 5, 1) := by decide +kernel
theorem d_MO_lettersOf_36 : decode b_MO_lettersOf 36 = .ok (.goto 5, 3) := by decide +kernel
theorem d_MO_lettersOf_39 : decode b_MO_lettersOf 39 = .ok (.bipush 6, 2) := by decide +kernel
theorem d_MO_lettersOf_41 : decode b_MO_lettersOf 41 = .ok (.ireturn, 1) := by decide +kernel
theorem c_MO_lettersOf (u : ab_S) (k : Nat) (hk : k < 7) : ab_C false l D ca y_MO_lettersOf b_MO_lettersOf 1 (some .int) 0 N u [ab_I (nI (k + 1))] (fun u' v => u' = u ∧ v = some (ab_I (mr_n k))) := by
  refine ab_C.of (by decide) (Nat.le_of_ble_eq_true rfl) ?_
  intro p e s m args below meth c ad X hZ hr0 hlk
  have h' : k = 0 ∨ k = 1 ∨ k = 2 ∨ k = 3 ∨ k = 4 ∨ k = 5 ∨ k = 6 := by omega
  rcases h' with rfl | rfl | rfl | rfl | rfl | rfl | rfl
  ·
    refine ab_iload_n X 0 d_MO_lettersOf_0 rfl rfl ?_
    refine ab_bipush (v := 6) X d_MO_lettersOf_1 (by decide) ?_
    refine ab_icmp_ne X 10 d_MO_lettersOf_3 rfl (fun _ => ?_) (fun hb => absurd hb ((by decide)))
    refine ab_iload_n X 0 d_MO_lettersOf_10 rfl rfl ?_
    refine ab_iconst (v := 1) X d_MO_lettersOf_11 (by decide) ?_
    refine ab_icmp_eq X 26 d_MO_lettersOf_12 rfl (fun _ => ?_) (fun hb => absurd ((by decide)) hb)
    refine ab_iconst (v := 4) X d_MO_lettersOf_26 (by decide) ?_
    refine ab_goto X 41 d_MO_lettersOf_27 rfl ?_
    exact ab_reti X hr0 hlk d_MO_lettersOf_41 ⟨rfl, rfl⟩
  ·
    refine ab_iload_n X 0 d_MO_lettersOf_0 rfl rfl ?_
    refine ab_bipush (v := 6) X d_MO_lettersOf_1 (by decide) ?_
    refine ab_icmp_ne X 10 d_MO_lettersOf_3 rfl (fun _ => ?_) (fun hb => absurd hb ((by decide)))
    refine ab_iload_n X 0 d_MO_lettersOf_10 rfl rfl ?_
    refine ab_iconst (v := 1) X d_MO_lettersOf_11 (by decide) ?_
    refine ab_icmp_eq X 26 d_MO_lettersOf_12 rfl (fun hb => absurd hb ((by decide))) (fun _ => ?_)
    refine ab_iload_n X 0 d_MO_lettersOf_15 rfl rfl ?_
    refine ab_iconst (v := 5) X d_MO_lettersOf_16 (by decide) ?_
    refine ab_icmp_eq X 26 d_MO_lettersOf_17 rfl (fun hb => absurd hb ((by decide))) (fun _ => ?_)
    refine ab_iload_n X 0 d_MO_lettersOf_20 rfl rfl ?_
    refine ab_bipush (v := 7) X d_MO_lettersOf_21 (by decide) ?_
    refine ab_icmp_ne X 30 d_MO_lettersOf_23 rfl (fun _ => ?_) (fun hb => absurd hb ((by decide)))
    refine ab_iload_n X 0 d_MO_lettersOf_30 rfl rfl ?_
    refine ab_iconst (v := 2) X d_MO_lettersOf_31 (by decide) ?_
    refine ab_icmp_ne X 39 d_MO_lettersOf_32 rfl (fun hb => absurd ((by decide)) hb) (fun _ => ?_)
    refine ab_iconst (v := 5) X d_MO_lettersOf_35 (by decide) ?_
    refine ab_goto X 41 d_MO_lettersOf_36 rfl ?_
    exact ab_reti X hr0 hlk d_MO_lettersOf_41 ⟨rfl, rfl⟩
  ·
    refine ab_iload_n X 0 d_MO_lettersOf_0 rfl rfl ?_
    refine ab_bipush (v := 6) X d_MO_lettersOf_1 (by decide) ?_
    refine ab_icmp_ne X 10 d_MO_lettersOf_3 rfl (fun _ => ?_) (fun hb => absurd hb ((by decide)))
    refine ab_iload_n X 0 d_MO_lettersOf_10 rfl rfl ?_
    refine ab_iconst (v := 1) X d_MO_lettersOf_11 (by decide) ?_
    refine ab_icmp_eq X 26 d_MO_lettersOf_12 rfl (fun hb => absurd hb ((by decide))) (fun _ => ?_)
    refine ab_iload_n X 0 d_MO_lettersOf_15 rfl rfl ?_
    refine ab_iconst (v := 5) X d_MO_lettersOf_16 (by decide) ?_
    refine ab_icmp_eq X 26 d_MO_lettersOf_17 rfl (fun hb => absurd hb ((by decide))) (fun _ => ?_)
    refine ab_iload_n X 0 d_MO_lettersOf_20 rfl rfl ?_
    refine ab_bipush (v := 7) X d_MO_lettersOf_21 (by decide) ?_
    refine ab_icmp_ne X 30 d_MO_lettersOf_23 rfl (fun _ => ?_) (fun hb => absurd hb ((by decide)))
    refine ab_iload_n X 0 d_MO_lettersOf_30 rfl rfl ?_
    refine ab_iconst (v := 2) X d_MO_lettersOf_31 (by decide) ?_
    refine ab_icmp_ne X 39 d_MO_lettersOf_32 rfl (fun _ => ?_) (fun hb => absurd hb ((by decide)))
    refine ab_bipush (v := 6) X d_MO_lettersOf_39 (by decide) ?_
    exact ab_reti X hr0 hlk d_MO_lettersOf_41 ⟨rfl, rfl⟩
  ·
    refine ab_iload_n X 0 d_MO_lettersOf_0 rfl rfl ?_
    refine ab_bipush (v := 6) X d_MO_lettersOf_1 (by decide) ?_
    refine ab_icmp_ne X 10 d_MO_lettersOf_3 rfl (fun _ => ?_) (fun hb => absurd hb ((by decide)))
    refine ab_iload_n X 0 d_MO_lettersOf_10 rfl rfl ?_
    refine ab_iconst (v := 1) X d_MO_lettersOf_11 (by decide) ?_
    refine ab_icmp_eq X 26 d_MO_lettersOf_12 rfl (fun hb => absurd hb ((by decide))) (fun _ => ?_)
    refine ab_iload_n X 0 d_MO_lettersOf_15 rfl rfl ?_
    refine ab_iconst (v := 5) X d_MO_lettersOf_16 (by decide) ?_
    refine ab_icmp_eq X 26 d_MO_lettersOf_17 rfl (fun hb => absurd hb ((by decide))) (fun _ => ?_)
    refine ab_iload_n X 0 d_MO_lettersOf_20 rfl rfl ?_
    refine ab_bipush (v := 7) X d_MO_lettersOf_21 (by decide) ?_
    refine ab_icmp_ne X 30 d_MO_lettersOf_23 rfl (fun _ => ?_) (fun hb => absurd hb ((by decide)))
    refine ab_iload_n X 0 d_MO_lettersOf_30 rfl rfl ?_
    refine ab_iconst (v := 2) X d_MO_lettersOf_31 (by decide) ?_
    refine ab_icmp_ne X 39 d_MO_lettersOf_32 rfl (fun _ => ?_) (fun hb => absurd hb ((by decide)))
    refine ab_bipush (v := 6) X d_MO_lettersOf_39 (by decide) ?_
    exact ab_reti X hr0 hlk d_MO_lettersOf_41 ⟨rfl, rfl⟩
  ·
    refine ab_iload_n X 0 d_MO_lettersOf_0 rfl rfl ?_
    refine ab_bipush (v := 6) X d_MO_lettersOf_1 (by decide) ?_
    refine ab_icmp_ne X 10 d_MO_lettersOf_3 rfl (fun _ => ?_) (fun hb => absurd hb ((by decide)))
    refine ab_iload_n X 0 d_MO_lettersOf_10 rfl rfl ?_
    refine ab_iconst (v := 1) X d_MO_lettersOf_11 (by decide) ?_
    refine ab_icmp_eq X 26 d_MO_lettersOf_12 rfl (fun hb => absurd hb ((by decide))) (fun _ => ?_)
    refine ab_iload_n X 0 d_MO_lettersOf_15 rfl rfl ?_
    refine ab_iconst (v := 5) X d_MO_lettersOf_16 (by decide) ?_
    refine ab_icmp_eq X 26 d_MO_lettersOf_17 rfl (fun _ => ?_) (fun hb => absurd ((by decide)) hb)
    refine ab_iconst (v := 4) X d_MO_lettersOf_26 (by decide) ?_
    refine ab_goto X 41 d_MO_lettersOf_27 rfl ?_
    exact ab_reti X hr0 hlk d_MO_lettersOf_41 ⟨rfl, rfl⟩
  ·
    refine ab_iload_n X 0 d_MO_lettersOf_0 rfl rfl ?_
    refine ab_bipush (v := 6) X d_MO_lettersOf_1 (by decide) ?_
    refine ab_icmp_ne X 10 d_MO_lettersOf_3 rfl (fun hb => absurd ((by decide)) hb) (fun _ => ?_)
    refine ab_iconst (v := 3) X d_MO_lettersOf_6 (by decide) ?_
    refine ab_goto X 41 d_MO_lettersOf_7 rfl ?_
    exact ab_reti X hr0 hlk d_MO_lettersOf_41 ⟨rfl, rfl⟩
  ·
    refine ab_iload_n X 0 d_MO_lettersOf_0 rfl rfl ?_
    refine ab_bipush (v := 6) X d_MO_lettersOf_1 (by decide) ?_
    refine ab_icmp_ne X 10 d_MO_lettersOf_3 rfl (fun _ => ?_) (fun hb => absurd hb ((by decide)))
    refine ab_iload_n X 0 d_MO_lettersOf_10 rfl rfl ?_
    refine ab_iconst (v := 1) X d_MO_lettersOf_11 (by decide) ?_
    refine ab_icmp_eq X 26 d_MO_lettersOf_12 rfl (fun hb => absurd hb ((by decide))) (fun _ => ?_)
    refine ab_iload_n X 0 d_MO_lettersOf_15 rfl rfl ?_
    refine ab_iconst (v := 5) X d_MO_lettersOf_16 (by decide) ?_
    refine ab_icmp_eq X 26 d_MO_lettersOf_17 rfl (fun hb => absurd hb ((by decide))) (fun _ => ?_)
    refine ab_iload_n X 0 d_MO_lettersOf_20 rfl rfl ?_
    refine ab_bipush (v := 7) X d_MO_lettersOf_21 (by decide) ?_
    refine ab_icmp_ne X 30 d_MO_lettersOf_23 rfl (fun hb => absurd ((by decide)) hb) (fun _ => ?_)
    refine ab_iconst (v := 4) X d_MO_lettersOf_26 (by decide) ?_
    refine ab_goto X 41 d_MO_lettersOf_27 rfl ?_
    exact ab_reti X hr0 hlk d_MO_lettersOf_41 ⟨rfl, rfl⟩
abbrev b_MO_fits : ByteArray := prog_10_method_3_code
def y_MO_fits : MethodName := ⟨"PolicyForgeModel", "fits", "(IJ)I"⟩
theorem d_MO_fits_0 : decode b_MO_fits 0 = .ok (.iconst 0, 1) := by decide +kernel
theorem d_MO_fits_1 : decode b_MO_fits 1 = .ok (.istore 4, 2) := by decide +kernel
theorem d_MO_fits_3 : decode b_MO_fits 3 = .ok (.bipush 56, 2) := by decide +kernel
theorem d_MO_fits_5 : decode b_MO_fits 5 = .ok (.istore 5, 2) := by decide +kernel
theorem d_MO_fits_7 : decode b_MO_fits 7 = .ok (.iload 5, 2) := by decide +kernel
theorem d_MO_fits_9 : decode b_MO_fits 9 = .ok (.ifCond .lt 44, 3) := by decide +kernel
theorem d_MO_fits_12 : decode b_MO_fits 12 = .ok (.lload_n 2, 1) := by decide +kernel
theorem d_MO_fits_13 : decode b_MO_fits 13 = .ok (.iload 5, 2) := by decide +kernel
theorem d_MO_fits_15 : decode b_MO_fits 15 = .ok (.lshr, 1) := by decide +kernel
theorem d_MO_fits_16 : decode b_MO_fits 16 = .ok (.l2i, 1) := by decide +kernel
theorem d_MO_fits_17 : decode b_MO_fits 17 = .ok (.sipush 255, 3) := by decide +kernel
theorem d_MO_fits_20 : decode b_MO_fits 20 = .ok (.iand, 1) := by decide +kernel
theorem d_MO_fits_21 : decode b_MO_fits 21 = .ok (.istore 6, 2) := by decide +kernel
theorem d_MO_fits_23 : decode b_MO_fits 23 = .ok (.iload 6, 2) := by decide +kernel
theorem d_MO_fits_25 : decode b_MO_fits 25 = .ok (.ifCond .eq 22, 3) := by decide +kernel
theorem d_MO_fits_28 : decode b_MO_fits 28 = .ok (.aload_n 0, 1) := by decide +kernel
theorem d_MO_fits_29 : decode b_MO_fits 29 = .ok (.iload_n 1, 1) := by decide +kernel
theorem d_MO_fits_30 : decode b_MO_fits 30 = .ok (.iload 4, 2) := by decide +kernel
theorem d_MO_fits_32 : decode b_MO_fits 32 = .ok (.iadd, 1) := by decide +kernel
theorem d_MO_fits_33 : decode b_MO_fits 33 = .ok (.invokevirtual 145, 3) := by decide +kernel
theorem d_MO_fits_36 : decode b_MO_fits 36 = .ok (.iload 6, 2) := by decide +kernel
theorem d_MO_fits_38 : decode b_MO_fits 38 = .ok (.if_icmp .eq 6, 3) := by decide +kernel
theorem d_MO_fits_41 : decode b_MO_fits 41 = .ok (.iload 4, 2) := by decide +kernel
theorem d_MO_fits_43 : decode b_MO_fits 43 = .ok (.ireturn, 1) := by decide +kernel
theorem d_MO_fits_44 : decode b_MO_fits 44 = .ok (.iinc 4 1, 3) := by decide +kernel
theorem d_MO_fits_47 : decode b_MO_fits 47 = .ok (.iinc 5 (-8), 3) := by decide +kernel
theorem d_MO_fits_50 : decode b_MO_fits 50 = .ok (.goto (-43), 3) := by decide +kernel
theorem d_MO_fits_53 : decode b_MO_fits 53 = .ok (.iload 4, 2) := by decide +kernel
theorem d_MO_fits_55 : decode b_MO_fits 55 = .ok (.ireturn, 1) := by decide +kernel
theorem lk_MO_145 : ab_lk "PolicyForgeModel" 145 y_MO_at b_MO_at 2 (some FieldType.int) 1 17 := ⟨⟨rfl, T_MO, 44, rfl⟩, List.forall_mem_cons.mpr ⟨(ab_in 1098 (by decide +kernel) (by decide +kernel)), List.forall_mem_cons.mpr ⟨(ab_in 1100 (by decide +kernel) (by decide +kernel)), List.forall_mem_cons.mpr ⟨(ab_in 49 (by decide +kernel) (by decide +kernel)), List.forall_mem_cons.mpr ⟨(ab_in 100 (by decide +kernel) (by decide +kernel)), List.forall_mem_cons.mpr ⟨(ab_in 1101 (by decide +kernel) (by decide +kernel)), fun _ h => absurd h List.not_mem_nil⟩⟩⟩⟩⟩, ⟨by decide +kernel, by decide +kernel, by decide +kernel⟩, by decide⟩
set_option maxRecDepth 100000 in
set_option maxHeartbeats 1000000 in
theorem c_MO_fits0 (u : ab_S) (w : Int64) (h17 : 0 < N 17) (et : u.1 17 0 2 = 0) : ab_C false l D ca y_MO_fits b_MO_fits 7 (some .int) 1 N u [ab_O 17 0, ab_I 0, ab_L w] (fun u' v => u' = u ∧ v = some (ab_I 0)) := by
  refine ab_C.of (by decide) (Nat.le_of_ble_eq_true rfl) ?_
  intro p e s m args below meth c ad X hZ hr0 hlk
  have fin : ∀ sh : Int32, sh < 0 → ab_J p l e (ab_rm 1 0 0) s m args below meth c (MQ below (ab_Q D ca ad N s.heap.size (fun u' v => u' = u ∧ v = some (ab_I 0))) args s 0 0 (ab_A ad N s.heap.size)) D ca (ab_A ad N s.heap.size) s.heap 7 0 0 ad N u 7 [(5, ab_I sh), (4, ab_I 0), (0, ab_O 17 0), (1, ab_I 0), (2, ab_L w)] [] := by
    intro sh hs
    refine ab_iload X 0 d_MO_fits_7 rfl ?_
    refine ab_if_lt X 53 d_MO_fits_9 rfl (fun _ => ?_) (fun hb => absurd (hs) hb)
    refine ab_iload X 1 d_MO_fits_53 rfl ?_
    exact ab_reti X hr0 hlk d_MO_fits_55 ⟨rfl, rfl⟩
  have stp : ∀ sh : Int32, ¬ sh < 0 → ab_J p l e (ab_rm 1 0 0) s m args below meth c (MQ below (ab_Q D ca ad N s.heap.size (fun u' v => u' = u ∧ v = some (ab_I 0))) args s 0 0 (ab_A ad N s.heap.size)) D ca (ab_A ad N s.heap.size) s.heap 7 0 0 ad N u 7 [(5, ab_I (sh + Int32.ofInt (-8))), (4, ab_I 0), (0, ab_O 17 0), (1, ab_I 0), (2, ab_L w)] [] → ab_J p l e (ab_rm 1 0 0) s m args below meth c (MQ below (ab_Q D ca ad N s.heap.size (fun u' v => u' = u ∧ v = some (ab_I 0))) args s 0 0 (ab_A ad N s.heap.size)) D ca (ab_A ad N s.heap.size) s.heap 7 0 0 ad N u 7 [(5, ab_I sh), (4, ab_I 0), (0, ab_O 17 0), (1, ab_I 0), (2, ab_L w)] [] := by
    intro sh hs ih
    refine ab_iload X 0 d_MO_fits_7 rfl ?_
    refine ab_if_lt X 53 d_MO_fits_9 rfl (fun hb => absurd hb (hs)) (fun _ => ?_)
    refine ab_lload_n X 4 d_MO_fits_12 rfl rfl ?_
    refine ab_iload X 0 d_MO_fits_13 rfl ?_
    refine ab_lshr X d_MO_fits_15 ?_
    refine ab_l2i X d_MO_fits_16 ?_
    refine ab_sipush (v := 255) X d_MO_fits_17 (by decide) ?_
    refine ab_iand X d_MO_fits_20 ?_
    generalize hx : (w >>> (sh.toInt64 &&& 63)).toInt32 = x
    by_cases h0 : x &&& 255 = 0
    ·
      refine ab_istore5 X 0 1 2 3 4 d_MO_fits_21 (by decide) rfl rfl rfl rfl rfl rfl rfl rfl rfl rfl ?_
      refine ab_iload X 0 d_MO_fits_23 rfl ?_
      refine ab_if_eq X 47 d_MO_fits_25 rfl (fun _ => ?_) (fun hb => absurd (h0) hb)
      refine ab_iinc5 X 1 0 2 3 4 5 d_MO_fits_47 rfl (by decide) rfl rfl rfl rfl rfl rfl rfl rfl rfl rfl ?_
      refine ab_goto X 7 d_MO_fits_50 rfl ?_
      refine ab_lv (List.forall_mem_cons.mpr ⟨List.mem_of_getElem? (i := 0) rfl, List.forall_mem_cons.mpr ⟨List.mem_of_getElem? (i := 2) rfl, List.forall_mem_cons.mpr ⟨List.mem_of_getElem? (i := 3) rfl, List.forall_mem_cons.mpr ⟨List.mem_of_getElem? (i := 4) rfl, List.forall_mem_cons.mpr ⟨List.mem_of_getElem? (i := 5) rfl, fun _ h => absurd h List.not_mem_nil⟩⟩⟩⟩⟩) ?_
      exact ih
    ·
      refine ab_istore5 X 0 1 2 3 4 d_MO_fits_21 (by decide) rfl rfl rfl rfl rfl rfl rfl rfl rfl rfl ?_
      refine ab_iload X 0 d_MO_fits_23 rfl ?_
      refine ab_if_eq X 47 d_MO_fits_25 rfl (fun hb => absurd hb (h0)) (fun _ => ?_)
      refine ab_aload_n X 3 d_MO_fits_28 rfl rfl ?_
      refine ab_iload_n X 4 d_MO_fits_29 rfl rfl ?_
      refine ab_iload X 2 d_MO_fits_30 rfl ?_
      refine ab_iadd X d_MO_fits_32 ?_
      refine ab_top (show (0 : Int32) + 0 = 0 by decide) ?_
      refine ab_callV (as := [ab_I 0]) X (fun h => by cases h) (c_MO_at0 u h17 et) lk_MO_145 d_MO_fits_33 rfl rfl (by first | assumption | decide) ⟨by first | exact Nat.le_of_ble_eq_true rfl | (simp only [ab_rm]; omega), by first | exact Nat.le_of_ble_eq_true rfl | (simp only [ab_rm]; omega)⟩ ⟨by first | exact Nat.le_of_ble_eq_true rfl | (simp only [ab_rm]; omega), by first | exact Nat.le_of_ble_eq_true rfl | (simp only [ab_rm]; omega)⟩ (Nat.le_of_ble_eq_true rfl) (fun u33 r33 h33 => ?_)
      obtain ⟨e33, rfl⟩ := h33
      subst u33
      refine ab_iload X 0 d_MO_fits_36 rfl ?_
      refine ab_icmp_eq X 44 d_MO_fits_38 rfl (fun hb => absurd hb ((mr_and x))) (fun _ => ?_)
      refine ab_iload X 2 d_MO_fits_41 rfl ?_
      exact ab_reti X hr0 hlk d_MO_fits_43 ⟨rfl, rfl⟩
  refine ab_iconst (v := 0) X d_MO_fits_0 (by decide) ?_
  refine ab_istore3 X 0 1 2 d_MO_fits_1 (by decide) rfl rfl rfl rfl rfl rfl ?_
  refine ab_bipush (v := 56) X d_MO_fits_3 (by decide) ?_
  refine ab_istore4 X 0 1 2 3 d_MO_fits_5 (by decide) rfl rfl rfl rfl rfl rfl rfl rfl ?_
  refine stp 56 (by decide) ?_
  refine stp _ (by decide) ?_
  refine stp _ (by decide) ?_
  refine stp _ (by decide) ?_
  refine stp _ (by decide) ?_
  refine stp _ (by decide) ?_
  refine stp _ (by decide) ?_
  refine stp _ (by decide) ?_
  exact fin _ (by decide)
abbrev b_MO_begin : ByteArray := prog_10_method_6_code
def y_MO_begin : MethodName := ⟨"PolicyForgeModel", "begin", "(I)I"⟩
theorem d_MO_begin_0 : decode b_MO_begin 0 = .ok (.iconst 0, 1) := by decide +kernel
theorem d_MO_begin_1 : decode b_MO_begin 1 = .ok (.istore_n 2, 1) := by decide +kernel
theorem d_MO_begin_2 : decode b_MO_begin 2 = .ok (.iconst 0, 1) := by decide +kernel
theorem d_MO_begin_3 : decode b_MO_begin 3 = .ok (.istore_n 3, 1) := by decide +kernel
theorem d_MO_begin_4 : decode b_MO_begin 4 = .ok (.iconst 1, 1) := by decide +kernel
theorem d_MO_begin_5 : decode b_MO_begin 5 = .ok (.istore 4, 2) := by decide +kernel
theorem d_MO_begin_7 : decode b_MO_begin 7 = .ok (.iload 4, 2) := by decide +kernel
theorem d_MO_begin_9 : decode b_MO_begin 9 = .ok (.bipush 8, 2) := by decide +kernel
theorem d_MO_begin_11 : decode b_MO_begin 11 = .ok (.if_icmp .ge 43, 3) := by decide +kernel
theorem d_MO_begin_14 : decode b_MO_begin 14 = .ok (.aload_n 0, 1) := by decide +kernel
theorem d_MO_begin_15 : decode b_MO_begin 15 = .ok (.iload_n 1, 1) := by decide +kernel
theorem d_MO_begin_16 : decode b_MO_begin 16 = .ok (.iload 4, 2) := by decide +kernel
theorem d_MO_begin_18 : decode b_MO_begin 18 = .ok (.invokestatic 163, 3) := by decide +kernel
theorem d_MO_begin_21 : decode b_MO_begin 21 = .ok (.invokevirtual 167, 3) := by decide +kernel
theorem d_MO_begin_24 : decode b_MO_begin 24 = .ok (.istore 5, 2) := by decide +kernel
theorem d_MO_begin_26 : decode b_MO_begin 26 = .ok (.iload 5, 2) := by decide +kernel
theorem d_MO_begin_28 : decode b_MO_begin 28 = .ok (.iload_n 2, 1) := by decide +kernel
theorem d_MO_begin_29 : decode b_MO_begin 29 = .ok (.if_icmp .le 6, 3) := by decide +kernel
theorem d_MO_begin_32 : decode b_MO_begin 32 = .ok (.iload 5, 2) := by decide +kernel
theorem d_MO_begin_34 : decode b_MO_begin 34 = .ok (.istore_n 2, 1) := by decide +kernel
theorem d_MO_begin_35 : decode b_MO_begin 35 = .ok (.iload 5, 2) := by decide +kernel
theorem d_MO_begin_37 : decode b_MO_begin 37 = .ok (.iload 4, 2) := by decide +kernel
theorem d_MO_begin_39 : decode b_MO_begin 39 = .ok (.invokestatic 171, 3) := by decide +kernel
theorem d_MO_begin_42 : decode b_MO_begin 42 = .ok (.if_icmp .ne 6, 3) := by decide +kernel
theorem d_MO_begin_45 : decode b_MO_begin 45 = .ok (.iload 4, 2) := by decide +kernel
theorem d_MO_begin_47 : decode b_MO_begin 47 = .ok (.istore_n 3, 1) := by decide +kernel
theorem d_MO_begin_48 : decode b_MO_begin 48 = .ok (.iinc 4 1, 3) := by decide +kernel
theorem d_MO_begin_51 : decode b_MO_begin 51 = .ok (.goto (-44), 3) := by decide +kernel
theorem d_MO_begin_54 : decode b_MO_begin 54 = .ok (.iload_n 3, 1) := by decide +kernel
theorem d_MO_begin_55 : decode b_MO_begin 55 = .ok (.ifCond .ne 9, 3) := by decide +kernel
theorem d_MO_begin_58 : decode b_MO_begin 58 = .ok (.iconst (-1), 1) := by decide +kernel
theorem d_MO_begin_59 : decode b_MO_begin 59 = .ok (.iload_n 1, 1) := by decide +kernel
theorem d_MO_begin_60 : decode b_MO_begin 60 = .ok (.iload_n 2, 1) := by decide +kernel
theorem d_MO_begin_61 : decode b_MO_begin 61 = .ok (.iadd, 1) := by decide +kernel
theorem d_MO_begin_62 : decode b_MO_begin 62 = .ok (.isub, 1) := by decide +kernel
theorem d_MO_begin_63 : decode b_MO_begin 63 = .ok (.ireturn, 1) := by decide +kernel
theorem d_MO_begin_64 : decode b_MO_begin 64 = .ok (.iload_n 3, 1) := by decide +kernel
theorem d_MO_begin_65 : decode b_MO_begin 65 = .ok (.iconst 5, 1) := by decide +kernel
theorem d_MO_begin_66 : decode b_MO_begin 66 = .ok (.if_icmp .ge 16, 3) := by decide +kernel
theorem d_MO_begin_69 : decode b_MO_begin 69 = .ok (.aload_n 0, 1) := by decide +kernel
theorem d_MO_begin_70 : decode b_MO_begin 70 = .ok (.getfield 30, 3) := by decide +kernel
theorem d_MO_begin_73 : decode b_MO_begin 73 = .ok (.bipush 10, 2) := by decide +kernel
theorem d_MO_begin_75 : decode b_MO_begin 75 = .ok (.if_icmp .ne 7, 3) := by decide +kernel
theorem d_MO_begin_78 : decode b_MO_begin 78 = .ok (.iconst (-1), 1) := by decide +kernel
theorem d_MO_begin_79 : decode b_MO_begin 79 = .ok (.iload_n 1, 1) := by decide +kernel
theorem d_MO_begin_80 : decode b_MO_begin 80 = .ok (.isub, 1) := by decide +kernel
theorem d_MO_begin_81 : decode b_MO_begin 81 = .ok (.ireturn, 1) := by decide +kernel
theorem d_MO_begin_82 : decode b_MO_begin 82 = .ok (.aload_n 0, 1) := by decide +kernel
theorem d_MO_begin_83 : decode b_MO_begin 83 = .ok (.getfield 129, 3) := by decide +kernel
theorem d_MO_begin_86 : decode b_MO_begin 86 = .ok (.ifCond .le 53, 3) := by decide +kernel
theorem d_MO_begin_89 : decode b_MO_begin 89 = .ok (.aload_n 0, 1) := by decide +kernel
theorem d_MO_begin_90 : decode b_MO_begin 90 = .ok (.getfield 126, 3) := by decide +kernel
theorem d_MO_begin_93 : decode b_MO_begin 93 = .ok (.aload_n 0, 1) := by decide +kernel
theorem d_MO_begin_94 : decode b_MO_begin 94 = .ok (.getfield 129, 3) := by decide +kernel
theorem d_MO_begin_97 : decode b_MO_begin 97 = .ok (.iconst 1, 1) := by decide +kernel
theorem d_MO_begin_98 : decode b_MO_begin 98 = .ok (.isub, 1) := by decide +kernel
theorem d_MO_begin_99 : decode b_MO_begin 99 = .ok (.iaload, 1) := by decide +kernel
theorem d_MO_begin_100 : decode b_MO_begin 100 = .ok (.istore 4, 2) := by decide +kernel
theorem d_MO_begin_102 : decode b_MO_begin 102 = .ok (.aload_n 0, 1) := by decide +kernel
theorem d_MO_begin_103 : decode b_MO_begin 103 = .ok (.getfield 42, 3) := by decide +kernel
theorem d_MO_begin_106 : decode b_MO_begin 106 = .ok (.iconst 4, 1) := by decide +kernel
theorem d_MO_begin_107 : decode b_MO_begin 107 = .ok (.iload 4, 2) := by decide +kernel
theorem d_MO_begin_109 : decode b_MO_begin 109 = .ok (.imul, 1) := by decide +kernel
theorem d_MO_begin_110 : decode b_MO_begin 110 = .ok (.aload_n 0, 1) := by decide +kernel
theorem d_MO_begin_111 : decode b_MO_begin 111 = .ok (.getfield 39, 3) := by decide +kernel
theorem d_MO_begin_114 : decode b_MO_begin 114 = .ok (.iload 4, 2) := by decide +kernel
theorem d_MO_begin_116 : decode b_MO_begin 116 = .ok (.iaload, 1) := by decide +kernel
theorem d_MO_begin_117 : decode b_MO_begin 117 = .ok (.iadd, 1) := by decide +kernel
theorem d_MO_begin_118 : decode b_MO_begin 118 = .ok (.aload_n 0, 1) := by decide +kernel
theorem d_MO_begin_119 : decode b_MO_begin 119 = .ok (.getfield 27, 3) := by decide +kernel
theorem d_MO_begin_122 : decode b_MO_begin 122 = .ok (.iastore, 1) := by decide +kernel
theorem d_MO_begin_123 : decode b_MO_begin 123 = .ok (.aload_n 0, 1) := by decide +kernel
theorem d_MO_begin_124 : decode b_MO_begin 124 = .ok (.getfield 39, 3) := by decide +kernel
theorem d_MO_begin_127 : decode b_MO_begin 127 = .ok (.iload 4, 2) := by decide +kernel
theorem d_MO_begin_129 : decode b_MO_begin 129 = .ok (.aload_n 0, 1) := by decide +kernel
theorem d_MO_begin_130 : decode b_MO_begin 130 = .ok (.getfield 39, 3) := by decide +kernel
theorem d_MO_begin_133 : decode b_MO_begin 133 = .ok (.iload 4, 2) := by decide +kernel
theorem d_MO_begin_135 : decode b_MO_begin 135 = .ok (.iaload, 1) := by decide +kernel
theorem d_MO_begin_136 : decode b_MO_begin 136 = .ok (.iconst 1, 1) := by decide +kernel
theorem d_MO_begin_137 : decode b_MO_begin 137 = .ok (.iadd, 1) := by decide +kernel
theorem d_MO_begin_138 : decode b_MO_begin 138 = .ok (.iastore, 1) := by decide +kernel
theorem d_MO_begin_139 : decode b_MO_begin 139 = .ok (.aload_n 0, 1) := by decide +kernel
theorem d_MO_begin_140 : decode b_MO_begin 140 = .ok (.getfield 33, 3) := by decide +kernel
theorem d_MO_begin_143 : decode b_MO_begin 143 = .ok (.aload_n 0, 1) := by decide +kernel
theorem d_MO_begin_144 : decode b_MO_begin 144 = .ok (.getfield 27, 3) := by decide +kernel
theorem d_MO_begin_147 : decode b_MO_begin 147 = .ok (.iload_n 3, 1) := by decide +kernel
theorem d_MO_begin_148 : decode b_MO_begin 148 = .ok (.iastore, 1) := by decide +kernel
theorem d_MO_begin_149 : decode b_MO_begin 149 = .ok (.aload_n 0, 1) := by decide +kernel
theorem d_MO_begin_150 : decode b_MO_begin 150 = .ok (.getfield 39, 3) := by decide +kernel
theorem d_MO_begin_153 : decode b_MO_begin 153 = .ok (.aload_n 0, 1) := by decide +kernel
theorem d_MO_begin_154 : decode b_MO_begin 154 = .ok (.getfield 27, 3) := by decide +kernel
theorem d_MO_begin_157 : decode b_MO_begin 157 = .ok (.iconst 0, 1) := by decide +kernel
theorem d_MO_begin_158 : decode b_MO_begin 158 = .ok (.iastore, 1) := by decide +kernel
theorem d_MO_begin_159 : decode b_MO_begin 159 = .ok (.aload_n 0, 1) := by decide +kernel
theorem d_MO_begin_160 : decode b_MO_begin 160 = .ok (.getfield 36, 3) := by decide +kernel
theorem d_MO_begin_163 : decode b_MO_begin 163 = .ok (.aload_n 0, 1) := by decide +kernel
theorem d_MO_begin_164 : decode b_MO_begin 164 = .ok (.getfield 27, 3) := by decide +kernel
theorem d_MO_begin_167 : decode b_MO_begin 167 = .ok (.iconst 0, 1) := by decide +kernel
theorem d_MO_begin_168 : decode b_MO_begin 168 = .ok (.iastore, 1) := by decide +kernel
theorem d_MO_begin_169 : decode b_MO_begin 169 = .ok (.iload_n 1, 1) := by decide +kernel
theorem d_MO_begin_170 : decode b_MO_begin 170 = .ok (.iload_n 3, 1) := by decide +kernel
theorem d_MO_begin_171 : decode b_MO_begin 171 = .ok (.invokestatic 171, 3) := by decide +kernel
theorem d_MO_begin_174 : decode b_MO_begin 174 = .ok (.iadd, 1) := by decide +kernel
theorem d_MO_begin_175 : decode b_MO_begin 175 = .ok (.istore 4, 2) := by decide +kernel
theorem d_MO_begin_177 : decode b_MO_begin 177 = .ok (.aload_n 0, 1) := by decide +kernel
theorem d_MO_begin_178 : decode b_MO_begin 178 = .ok (.dup, 1) := by decide +kernel
theorem d_MO_begin_179 : decode b_MO_begin 179 = .ok (.getfield 27, 3) := by decide +kernel
theorem d_MO_begin_182 : decode b_MO_begin 182 = .ok (.iconst 1, 1) := by decide +kernel
theorem d_MO_begin_183 : decode b_MO_begin 183 = .ok (.iadd, 1) := by decide +kernel
theorem d_MO_begin_184 : decode b_MO_begin 184 = .ok (.putfield 27, 3) := by decide +kernel
theorem d_MO_begin_187 : decode b_MO_begin 187 = .ok (.iload_n 3, 1) := by decide +kernel
theorem d_MO_begin_188 : decode b_MO_begin 188 = .ok (.iconst 5, 1) := by decide +kernel
theorem d_MO_begin_189 : decode b_MO_begin 189 = .ok (.if_icmp .ge 16, 3) := by decide +kernel
theorem d_MO_begin_192 : decode b_MO_begin 192 = .ok (.aload_n 0, 1) := by decide +kernel
theorem d_MO_begin_193 : decode b_MO_begin 193 = .ok (.aload_n 0, 1) := by decide +kernel
theorem d_MO_begin_194 : decode b_MO_begin 194 = .ok (.getfield 27, 3) := by decide +kernel
theorem d_MO_begin_197 : decode b_MO_begin 197 = .ok (.iconst 1, 1) := by decide +kernel
theorem d_MO_begin_198 : decode b_MO_begin 198 = .ok (.isub, 1) := by decide +kernel
theorem d_MO_begin_199 : decode b_MO_begin 199 = .ok (.iload 4, 2) := by decide +kernel
theorem d_MO_begin_201 : decode b_MO_begin 201 = .ok (.invokevirtual 174, 3) := by decide +kernel
theorem d_MO_begin_204 : decode b_MO_begin 204 = .ok (.ireturn, 1) := by decide +kernel
theorem d_MO_begin_205 : decode b_MO_begin 205 = .ok (.aload_n 0, 1) := by decide +kernel
theorem d_MO_begin_206 : decode b_MO_begin 206 = .ok (.getfield 126, 3) := by decide +kernel
theorem d_MO_begin_209 : decode b_MO_begin 209 = .ok (.aload_n 0, 1) := by decide +kernel
theorem d_MO_begin_210 : decode b_MO_begin 210 = .ok (.getfield 129, 3) := by decide +kernel
theorem d_MO_begin_213 : decode b_MO_begin 213 = .ok (.aload_n 0, 1) := by decide +kernel
theorem d_MO_begin_214 : decode b_MO_begin 214 = .ok (.getfield 27, 3) := by decide +kernel
theorem d_MO_begin_217 : decode b_MO_begin 217 = .ok (.iconst 1, 1) := by decide +kernel
theorem d_MO_begin_218 : decode b_MO_begin 218 = .ok (.isub, 1) := by decide +kernel
theorem d_MO_begin_219 : decode b_MO_begin 219 = .ok (.iastore, 1) := by decide +kernel
theorem d_MO_begin_220 : decode b_MO_begin 220 = .ok (.aload_n 0, 1) := by decide +kernel
theorem d_MO_begin_221 : decode b_MO_begin 221 = .ok (.dup, 1) := by decide +kernel
theorem d_MO_begin_222 : decode b_MO_begin 222 = .ok (.getfield 129, 3) := by decide +kernel
theorem d_MO_begin_225 : decode b_MO_begin 225 = .ok (.iconst 1, 1) := by decide +kernel
theorem d_MO_begin_226 : decode b_MO_begin 226 = .ok (.iadd, 1) := by decide +kernel
theorem d_MO_begin_227 : decode b_MO_begin 227 = .ok (.putfield 129, 3) := by decide +kernel
theorem d_MO_begin_230 : decode b_MO_begin 230 = .ok (.iload_n 3, 1) := by decide +kernel
theorem d_MO_begin_231 : decode b_MO_begin 231 = .ok (.bipush 7, 2) := by decide +kernel
theorem d_MO_begin_233 : decode b_MO_begin 233 = .ok (.if_icmp .ge 6, 3) := by decide +kernel
theorem d_MO_begin_236 : decode b_MO_begin 236 = .ok (.iload 4, 2) := by decide +kernel
theorem d_MO_begin_238 : decode b_MO_begin 238 = .ok (.ireturn, 1) := by decide +kernel
theorem d_MO_begin_239 : decode b_MO_begin 239 = .ok (.aload_n 0, 1) := by decide +kernel
theorem d_MO_begin_240 : decode b_MO_begin 240 = .ok (.iload 4, 2) := by decide +kernel
theorem d_MO_begin_242 : decode b_MO_begin 242 = .ok (.invokevirtual 145, 3) := by decide +kernel
theorem d_MO_begin_245 : decode b_MO_begin 245 = .ok (.istore 5, 2) := by decide +kernel
theorem d_MO_begin_247 : decode b_MO_begin 247 = .ok (.iload 5, 2) := by decide +kernel
theorem d_MO_begin_249 : decode b_MO_begin 249 = .ok (.bipush 49, 2) := by decide +kernel
theorem d_MO_begin_251 : decode b_MO_begin 251 = .ok (.if_icmp .lt 10, 3) := by decide +kernel
theorem d_MO_begin_254 : decode b_MO_begin 254 = .ok (.iload 5, 2) := by decide +kernel
theorem d_MO_begin_256 : decode b_MO_begin 256 = .ok (.bipush 52, 2) := by decide +kernel
theorem d_MO_begin_258 : decode b_MO_begin 258 = .ok (.if_icmp .le 8, 3) := by decide +kernel
theorem d_MO_begin_261 : decode b_MO_begin 261 = .ok (.iconst (-1), 1) := by decide +kernel
theorem d_MO_begin_262 : decode b_MO_begin 262 = .ok (.iload 4, 2) := by decide +kernel
theorem d_MO_begin_264 : decode b_MO_begin 264 = .ok (.isub, 1) := by decide +kernel
theorem d_MO_begin_265 : decode b_MO_begin 265 = .ok (.ireturn, 1) := by decide +kernel
theorem d_MO_begin_266 : decode b_MO_begin 266 = .ok (.aload_n 0, 1) := by decide +kernel
theorem d_MO_begin_267 : decode b_MO_begin 267 = .ok (.getfield 36, 3) := by decide +kernel
theorem d_MO_begin_270 : decode b_MO_begin 270 = .ok (.aload_n 0, 1) := by decide +kernel
theorem d_MO_begin_271 : decode b_MO_begin 271 = .ok (.getfield 27, 3) := by decide +kernel
theorem d_MO_begin_274 : decode b_MO_begin 274 = .ok (.iconst 1, 1) := by decide +kernel
theorem d_MO_begin_275 : decode b_MO_begin 275 = .ok (.isub, 1) := by decide +kernel
theorem d_MO_begin_276 : decode b_MO_begin 276 = .ok (.iload 5, 2) := by decide +kernel
theorem d_MO_begin_278 : decode b_MO_begin 278 = .ok (.bipush 48, 2) := by decide +kernel
theorem d_MO_begin_280 : decode b_MO_begin 280 = .ok (.isub, 1) := by decide +kernel
theorem d_MO_begin_281 : decode b_MO_begin 281 = .ok (.iastore, 1) := by decide +kernel
theorem d_MO_begin_282 : decode b_MO_begin 282 = .ok (.aload_n 0, 1) := by decide +kernel
theorem d_MO_begin_283 : decode b_MO_begin 283 = .ok (.iload 4, 2) := by decide +kernel
theorem d_MO_begin_285 : decode b_MO_begin 285 = .ok (.iconst 1, 1) := by decide +kernel
theorem d_MO_begin_286 : decode b_MO_begin 286 = .ok (.iadd, 1) := by decide +kernel
theorem d_MO_begin_287 : decode b_MO_begin 287 = .ok (.invokevirtual 145, 3) := by decide +kernel
theorem d_MO_begin_290 : decode b_MO_begin 290 = .ok (.bipush 44, 2) := by decide +kernel
theorem d_MO_begin_292 : decode b_MO_begin 292 = .ok (.if_icmp .ne 10, 3) := by decide +kernel
theorem d_MO_begin_295 : decode b_MO_begin 295 = .ok (.iload 4, 2) := by decide +kernel
theorem d_MO_begin_297 : decode b_MO_begin 297 = .ok (.iconst 2, 1) := by decide +kernel
theorem d_MO_begin_298 : decode b_MO_begin 298 = .ok (.iadd, 1) := by decide +kernel
theorem d_MO_begin_299 : decode b_MO_begin 299 = .ok (.goto 9, 3) := by decide +kernel
theorem d_MO_begin_302 : decode b_MO_begin 302 = .ok (.iconst (-1), 1) := by decide +kernel
theorem d_MO_begin_303 : decode b_MO_begin 303 = .ok (.iload 4, 2) := by decide +kernel
theorem d_MO_begin_305 : decode b_MO_begin 305 = .ok (.iconst 1, 1) := by decide +kernel
theorem d_MO_begin_306 : decode b_MO_begin 306 = .ok (.iadd, 1) := by decide +kernel
theorem d_MO_begin_307 : decode b_MO_begin 307 = .ok (.isub, 1) := by decide +kernel
theorem d_MO_begin_308 : decode b_MO_begin 308 = .ok (.ireturn, 1) := by decide +kernel
theorem ls_MO_163 : ab_ls "PolicyForgeModel" 163 y_MO_wordOf b_MO_wordOf 1 (some FieldType.long) 1 := ⟨List.forall_mem_cons.mpr ⟨(ab_in 1084 (by decide +kernel) (by decide +kernel)), List.forall_mem_cons.mpr ⟨(ab_in 1085 (by decide +kernel) (by decide +kernel)), List.forall_mem_cons.mpr ⟨(ab_in 100 (by decide +kernel) (by decide +kernel)), List.forall_mem_cons.mpr ⟨(ab_in 1086 (by decide +kernel) (by decide +kernel)), fun _ h => absurd h List.not_mem_nil⟩⟩⟩⟩, ⟨by decide +kernel, by decide +kernel, by decide +kernel⟩, by decide⟩
theorem lk_MO_167 : ab_lk "PolicyForgeModel" 167 y_MO_fits b_MO_fits 7 (some FieldType.int) 2 17 := ⟨⟨rfl, T_MO, 44, rfl⟩, List.forall_mem_cons.mpr ⟨(ab_in 1094 (by decide +kernel) (by decide +kernel)), List.forall_mem_cons.mpr ⟨(ab_in 1096 (by decide +kernel) (by decide +kernel)), List.forall_mem_cons.mpr ⟨(ab_in 48 (by decide +kernel) (by decide +kernel)), List.forall_mem_cons.mpr ⟨(ab_in 100 (by decide +kernel) (by decide +kernel)), List.forall_mem_cons.mpr ⟨(ab_in 1097 (by decide +kernel) (by decide +kernel)), fun _ h => absurd h List.not_mem_nil⟩⟩⟩⟩⟩, ⟨by decide +kernel, by decide +kernel, by decide +kernel⟩, by decide⟩
theorem ls_MO_171 : ab_ls "PolicyForgeModel" 171 y_MO_lettersOf b_MO_lettersOf 1 (some FieldType.int) 1 := ⟨List.forall_mem_cons.mpr ⟨(ab_in 1102 (by decide +kernel) (by decide +kernel)), List.forall_mem_cons.mpr ⟨(ab_in 1103 (by decide +kernel) (by decide +kernel)), List.forall_mem_cons.mpr ⟨(ab_in 100 (by decide +kernel) (by decide +kernel)), List.forall_mem_cons.mpr ⟨(ab_in 1104 (by decide +kernel) (by decide +kernel)), fun _ h => absurd h List.not_mem_nil⟩⟩⟩⟩, ⟨by decide +kernel, by decide +kernel, by decide +kernel⟩, by decide⟩
theorem fl_MO_129 : ab_fl "PolicyForgeModel" 129 17 39 0 := ⟨rfl, R_MO, T_MO, 44, rfl, uw_MO, by decide, rfl, (ab_in 965 (by decide +kernel) (by decide +kernel))⟩
theorem fl_MO_126 : ab_fl "PolicyForgeModel" 126 17 38 1 := ⟨rfl, R_MO, T_MO, 44, rfl, uw_MO, by decide, rfl, (ab_in 964 (by decide +kernel) (by decide +kernel))⟩
abbrev b_MO_leaf : ByteArray := prog_10_method_7_code
def y_MO_leaf : MethodName := ⟨"PolicyForgeModel", "leaf", "(II)I"⟩
theorem lk_MO_174 : ab_lk "PolicyForgeModel" 174 y_MO_leaf b_MO_leaf 6 (some FieldType.int) 2 17 := ⟨⟨rfl, T_MO, 44, rfl⟩, List.forall_mem_cons.mpr ⟨(ab_in 1105 (by decide +kernel) (by decide +kernel)), List.forall_mem_cons.mpr ⟨(ab_in 1107 (by decide +kernel) (by decide +kernel)), List.forall_mem_cons.mpr ⟨(ab_in 50 (by decide +kernel) (by decide +kernel)), List.forall_mem_cons.mpr ⟨(ab_in 100 (by decide +kernel) (by decide +kernel)), List.forall_mem_cons.mpr ⟨(ab_in 1108 (by decide +kernel) (by decide +kernel)), fun _ h => absurd h List.not_mem_nil⟩⟩⟩⟩⟩, ⟨by decide +kernel, by decide +kernel, by decide +kernel⟩, by decide⟩
set_option maxRecDepth 100000 in
set_option maxHeartbeats 1000000 in
theorem c_MO_begin0 (u : ab_S) (h17 : 0 < N 17) (et : u.1 17 0 2 = 0) : ab_C false l D ca y_MO_begin b_MO_begin 6 (some .int) 2 N u [ab_O 17 0, ab_I 0] (fun u' v => u' = u ∧ v = some (ab_I (-1))) := by
  refine ab_C.of (by decide) (Nat.le_of_ble_eq_true rfl) ?_
  intro p e s m args below meth c ad X hZ hr0 hlk
  have loop : ∀ (n j : Nat), j + n = 7 → ab_J p l e (ab_rm 2 0 0) s m args below meth c (MQ below (ab_Q D ca ad N s.heap.size (fun u' v => u' = u ∧ v = some (ab_I (-1)))) args s 0 0 (ab_A ad N s.heap.size)) D ca (ab_A ad N s.heap.size) s.heap 6 0 0 ad N u 7 [(4, ab_I (nI (j + 1))), (3, ab_I 0), (2, ab_I 0), (0, ab_O 17 0), (1, ab_I 0)] [] := by
    intro n
    induction n with
    | zero =>
      intro j hj
      obtain rfl : j = 7 := by omega
      refine ab_iload X 0 d_MO_begin_7 rfl ?_
      refine ab_bipush (v := 8) X d_MO_begin_9 (by decide) ?_
      refine ab_icmp_ge X 54 d_MO_begin_11 rfl (fun _ => ?_) (fun hb => absurd ((by decide)) hb)
      refine ab_iload_n X 1 d_MO_begin_54 rfl rfl ?_
      refine ab_if_ne X 64 d_MO_begin_55 rfl (fun hb => absurd (rfl) hb) (fun _ => ?_)
      refine ab_iconst (v := (-1)) X d_MO_begin_58 (by decide) ?_
      refine ab_iload_n X 4 d_MO_begin_59 rfl rfl ?_
      refine ab_iload_n X 2 d_MO_begin_60 rfl rfl ?_
      refine ab_iadd X d_MO_begin_61 ?_
      refine ab_isub X d_MO_begin_62 ?_
      exact ab_reti X hr0 hlk d_MO_begin_63 ⟨rfl, rfl⟩
    | succ n ih =>
      intro j hj
      have hj7 : j < 7 := by omega
      refine ab_iload X 0 d_MO_begin_7 rfl ?_
      refine ab_bipush (v := 8) X d_MO_begin_9 (by decide) ?_
      refine ab_icmp_ge X 54 d_MO_begin_11 rfl (fun hb => absurd hb ((nI_ge (b := 8) (show j + 1 < 8 by omega) (by decide)))) (fun _ => ?_)
      refine ab_aload_n X 3 d_MO_begin_14 rfl rfl ?_
      refine ab_iload_n X 4 d_MO_begin_15 rfl rfl ?_
      refine ab_iload X 0 d_MO_begin_16 rfl ?_
      refine ab_callS (as := [ab_I (nI (j + 1))]) X (fun h => by cases h) (c_MO_wordOf u j hj7) ls_MO_163 d_MO_begin_18 rfl rfl ⟨by first | exact Nat.le_of_ble_eq_true rfl | (simp only [ab_rm]; omega), by first | exact Nat.le_of_ble_eq_true rfl | (simp only [ab_rm]; omega)⟩ ⟨by first | exact Nat.le_of_ble_eq_true rfl | (simp only [ab_rm]; omega), by first | exact Nat.le_of_ble_eq_true rfl | (simp only [ab_rm]; omega)⟩ (Nat.le_of_ble_eq_true rfl) (fun u18 r18 h18 => ?_)
      obtain ⟨e18, rfl⟩ := h18
      subst u18
      refine ab_callV (as := [ab_I 0, ab_L (mr_w j)]) X (fun h => by cases h) (c_MO_fits0 u (mr_w j) h17 et) lk_MO_167 d_MO_begin_21 rfl rfl (by first | assumption | decide) ⟨by first | exact Nat.le_of_ble_eq_true rfl | (simp only [ab_rm]; omega), by first | exact Nat.le_of_ble_eq_true rfl | (simp only [ab_rm]; omega)⟩ ⟨by first | exact Nat.le_of_ble_eq_true rfl | (simp only [ab_rm]; omega), by first | exact Nat.le_of_ble_eq_true rfl | (simp only [ab_rm]; omega)⟩ (Nat.le_of_ble_eq_true rfl) (fun u21 r21 h21 => ?_)
      obtain ⟨e21, rfl⟩ := h21
      subst u21
      refine ab_istore5 X 0 1 2 3 4 d_MO_begin_24 (by decide) rfl rfl rfl rfl rfl rfl rfl rfl rfl rfl ?_
      refine ab_iload X 0 d_MO_begin_26 rfl ?_
      refine ab_iload_n X 3 d_MO_begin_28 rfl rfl ?_
      refine ab_icmp_le X 35 d_MO_begin_29 rfl (fun _ => ?_) (fun hb => absurd ((by decide)) hb)
      refine ab_iload X 0 d_MO_begin_35 rfl ?_
      refine ab_iload X 1 d_MO_begin_37 rfl ?_
      refine ab_callS (as := [ab_I (nI (j + 1))]) X (fun h => by cases h) (c_MO_lettersOf u j hj7) ls_MO_171 d_MO_begin_39 rfl rfl ⟨by first | exact Nat.le_of_ble_eq_true rfl | (simp only [ab_rm]; omega), by first | exact Nat.le_of_ble_eq_true rfl | (simp only [ab_rm]; omega)⟩ ⟨by first | exact Nat.le_of_ble_eq_true rfl | (simp only [ab_rm]; omega), by first | exact Nat.le_of_ble_eq_true rfl | (simp only [ab_rm]; omega)⟩ (Nat.le_of_ble_eq_true rfl) (fun u39 r39 h39 => ?_)
      obtain ⟨e39, rfl⟩ := h39
      subst u39
      refine ab_icmp_ne X 48 d_MO_begin_42 rfl (fun _ => ?_) (fun hb => absurd hb ((mr_n0 hj7)))
      refine ab_iinc5 X 1 0 2 3 4 5 d_MO_begin_48 rfl (by decide) rfl rfl rfl rfl rfl rfl rfl rfl rfl rfl ?_
      refine ab_goto X 7 d_MO_begin_51 rfl ?_
      refine ab_lv (List.forall_mem_cons.mpr ⟨List.mem_of_getElem? (i := 0) rfl, List.forall_mem_cons.mpr ⟨List.mem_of_getElem? (i := 2) rfl, List.forall_mem_cons.mpr ⟨List.mem_of_getElem? (i := 3) rfl, List.forall_mem_cons.mpr ⟨List.mem_of_getElem? (i := 4) rfl, List.forall_mem_cons.mpr ⟨List.mem_of_getElem? (i := 5) rfl, fun _ h => absurd h List.not_mem_nil⟩⟩⟩⟩⟩) ?_
      rw [show nI (j + 1) + Int32.ofInt 1 = nI (j + 1 + 1) from nI_1 (j + 1)]
      exact ih (j + 1) (by omega)
  refine ab_iconst (v := 0) X d_MO_begin_0 (by decide) ?_
  refine ab_istore_n2 X 0 1 d_MO_begin_1 rfl (by decide) rfl rfl rfl rfl ?_
  refine ab_iconst (v := 0) X d_MO_begin_2 (by decide) ?_
  refine ab_istore_n3 X 0 1 2 d_MO_begin_3 rfl (by decide) rfl rfl rfl rfl rfl rfl ?_
  refine ab_iconst (v := 1) X d_MO_begin_4 (by decide) ?_
  refine ab_istore4 X 0 1 2 3 d_MO_begin_5 (by decide) rfl rfl rfl rfl rfl rfl rfl rfl ?_
  exact loop 7 0 rfl
abbrev b_MO_readAll : ByteArray := prog_10_method_10_code
def y_MO_readAll : MethodName := ⟨"PolicyForgeModel", "readAll", "()I"⟩
theorem d_MO_readAll_0 : decode b_MO_readAll 0 = .ok (.aload_n 0, 1) := by decide +kernel
theorem d_MO_readAll_1 : decode b_MO_readAll 1 = .ok (.iconst 0, 1) := by decide +kernel
theorem d_MO_readAll_2 : decode b_MO_readAll 2 = .ok (.putfield 27, 3) := by decide +kernel
theorem d_MO_readAll_5 : decode b_MO_readAll 5 = .ok (.aload_n 0, 1) := by decide +kernel
theorem d_MO_readAll_6 : decode b_MO_readAll 6 = .ok (.iconst 0, 1) := by decide +kernel
theorem d_MO_readAll_7 : decode b_MO_readAll 7 = .ok (.putfield 30, 3) := by decide +kernel
theorem d_MO_readAll_10 : decode b_MO_readAll 10 = .ok (.aload_n 0, 1) := by decide +kernel
theorem d_MO_readAll_11 : decode b_MO_readAll 11 = .ok (.iconst 0, 1) := by decide +kernel
theorem d_MO_readAll_12 : decode b_MO_readAll 12 = .ok (.putfield 129, 3) := by decide +kernel
theorem d_MO_readAll_15 : decode b_MO_readAll 15 = .ok (.aload_n 0, 1) := by decide +kernel
theorem d_MO_readAll_16 : decode b_MO_readAll 16 = .ok (.iconst 0, 1) := by decide +kernel
theorem d_MO_readAll_17 : decode b_MO_readAll 17 = .ok (.invokevirtual 178, 3) := by decide +kernel
theorem d_MO_readAll_20 : decode b_MO_readAll 20 = .ok (.istore_n 1, 1) := by decide +kernel
theorem d_MO_readAll_21 : decode b_MO_readAll 21 = .ok (.aload_n 0, 1) := by decide +kernel
theorem d_MO_readAll_22 : decode b_MO_readAll 22 = .ok (.getfield 129, 3) := by decide +kernel
theorem d_MO_readAll_25 : decode b_MO_readAll 25 = .ok (.ifCond .ne 7, 3) := by decide +kernel
theorem d_MO_readAll_28 : decode b_MO_readAll 28 = .ok (.iconst 1, 1) := by decide +kernel
theorem d_MO_readAll_29 : decode b_MO_readAll 29 = .ok (.goto 4, 3) := by decide +kernel
theorem d_MO_readAll_32 : decode b_MO_readAll 32 = .ok (.iconst 0, 1) := by decide +kernel
theorem d_MO_readAll_33 : decode b_MO_readAll 33 = .ok (.istore_n 2, 1) := by decide +kernel
theorem d_MO_readAll_34 : decode b_MO_readAll 34 = .ok (.iload_n 1, 1) := by decide +kernel
theorem d_MO_readAll_35 : decode b_MO_readAll 35 = .ok (.ifCond .lt 138, 3) := by decide +kernel
theorem d_MO_readAll_38 : decode b_MO_readAll 38 = .ok (.aload_n 0, 1) := by decide +kernel
theorem d_MO_readAll_39 : decode b_MO_readAll 39 = .ok (.getfield 129, 3) := by decide +kernel
theorem d_MO_readAll_42 : decode b_MO_readAll 42 = .ok (.ifCond .gt 11, 3) := by decide +kernel
theorem d_MO_readAll_45 : decode b_MO_readAll 45 = .ok (.iload_n 1, 1) := by decide +kernel
theorem d_MO_readAll_46 : decode b_MO_readAll 46 = .ok (.aload_n 0, 1) := by decide +kernel
theorem d_MO_readAll_47 : decode b_MO_readAll 47 = .ok (.getfield 17, 3) := by decide +kernel
theorem d_MO_readAll_50 : decode b_MO_readAll 50 = .ok (.if_icmp .ge 123, 3) := by decide +kernel
theorem d_MO_readAll_53 : decode b_MO_readAll 53 = .ok (.aload_n 0, 1) := by decide +kernel
theorem d_MO_readAll_54 : decode b_MO_readAll 54 = .ok (.getfield 129, 3) := by decide +kernel
theorem d_MO_readAll_57 : decode b_MO_readAll 57 = .ok (.ifCond .ne 5, 3) := by decide +kernel
theorem d_MO_readAll_60 : decode b_MO_readAll 60 = .ok (.iload_n 1, 1) := by decide +kernel
theorem d_MO_readAll_61 : decode b_MO_readAll 61 = .ok (.ireturn, 1) := by decide +kernel
theorem d_MO_readAll_62 : decode b_MO_readAll 62 = .ok (.aload_n 0, 1) := by decide +kernel
theorem d_MO_readAll_63 : decode b_MO_readAll 63 = .ok (.getfield 126, 3) := by decide +kernel
theorem d_MO_readAll_66 : decode b_MO_readAll 66 = .ok (.aload_n 0, 1) := by decide +kernel
theorem d_MO_readAll_67 : decode b_MO_readAll 67 = .ok (.getfield 129, 3) := by decide +kernel
theorem d_MO_readAll_70 : decode b_MO_readAll 70 = .ok (.iconst 1, 1) := by decide +kernel
theorem d_MO_readAll_71 : decode b_MO_readAll 71 = .ok (.isub, 1) := by decide +kernel
theorem d_MO_readAll_72 : decode b_MO_readAll 72 = .ok (.iaload, 1) := by decide +kernel
theorem d_MO_readAll_73 : decode b_MO_readAll 73 = .ok (.istore_n 3, 1) := by decide +kernel
theorem d_MO_readAll_74 : decode b_MO_readAll 74 = .ok (.iload_n 2, 1) := by decide +kernel
theorem d_MO_readAll_75 : decode b_MO_readAll 75 = .ok (.ifCond .ne 33, 3) := by decide +kernel
theorem d_MO_readAll_78 : decode b_MO_readAll 78 = .ok (.aload_n 0, 1) := by decide +kernel
theorem d_MO_readAll_79 : decode b_MO_readAll 79 = .ok (.getfield 129, 3) := by decide +kernel
theorem d_MO_readAll_82 : decode b_MO_readAll 82 = .ok (.istore 4, 2) := by decide +kernel
theorem d_MO_readAll_84 : decode b_MO_readAll 84 = .ok (.aload_n 0, 1) := by decide +kernel
theorem d_MO_readAll_85 : decode b_MO_readAll 85 = .ok (.iload_n 1, 1) := by decide +kernel
theorem d_MO_readAll_86 : decode b_MO_readAll 86 = .ok (.invokevirtual 178, 3) := by decide +kernel
theorem d_MO_readAll_89 : decode b_MO_readAll 89 = .ok (.istore_n 1, 1) := by decide +kernel
theorem d_MO_readAll_90 : decode b_MO_readAll 90 = .ok (.aload_n 0, 1) := by decide +kernel
theorem d_MO_readAll_91 : decode b_MO_readAll 91 = .ok (.getfield 129, 3) := by decide +kernel
theorem d_MO_readAll_94 : decode b_MO_readAll 94 = .ok (.iload 4, 2) := by decide +kernel
theorem d_MO_readAll_96 : decode b_MO_readAll 96 = .ok (.if_icmp .ne 7, 3) := by decide +kernel
theorem d_MO_readAll_99 : decode b_MO_readAll 99 = .ok (.iconst 1, 1) := by decide +kernel
theorem d_MO_readAll_100 : decode b_MO_readAll 100 = .ok (.goto 4, 3) := by decide +kernel
theorem d_MO_readAll_103 : decode b_MO_readAll 103 = .ok (.iconst 0, 1) := by decide +kernel
theorem d_MO_readAll_104 : decode b_MO_readAll 104 = .ok (.istore_n 2, 1) := by decide +kernel
theorem d_MO_readAll_105 : decode b_MO_readAll 105 = .ok (.goto 65, 3) := by decide +kernel
theorem d_MO_readAll_108 : decode b_MO_readAll 108 = .ok (.aload_n 0, 1) := by decide +kernel
theorem d_MO_readAll_109 : decode b_MO_readAll 109 = .ok (.iload_n 1, 1) := by decide +kernel
theorem d_MO_readAll_110 : decode b_MO_readAll 110 = .ok (.invokevirtual 145, 3) := by decide +kernel
theorem d_MO_readAll_113 : decode b_MO_readAll 113 = .ok (.bipush 44, 2) := by decide +kernel
theorem d_MO_readAll_115 : decode b_MO_readAll 115 = .ok (.if_icmp .ne 19, 3) := by decide +kernel
theorem d_MO_readAll_118 : decode b_MO_readAll 118 = .ok (.aload_n 0, 1) := by decide +kernel
theorem d_MO_readAll_119 : decode b_MO_readAll 119 = .ok (.iload_n 3, 1) := by decide +kernel
theorem d_MO_readAll_120 : decode b_MO_readAll 120 = .ok (.invokevirtual 181, 3) := by decide +kernel
theorem d_MO_readAll_123 : decode b_MO_readAll 123 = .ok (.ifCond .eq 11, 3) := by decide +kernel
theorem d_MO_readAll_126 : decode b_MO_readAll 126 = .ok (.iinc 1 1, 3) := by decide +kernel
theorem d_MO_readAll_129 : decode b_MO_readAll 129 = .ok (.iconst 0, 1) := by decide +kernel
theorem d_MO_readAll_130 : decode b_MO_readAll 130 = .ok (.istore_n 2, 1) := by decide +kernel
theorem d_MO_readAll_131 : decode b_MO_readAll 131 = .ok (.goto 39, 3) := by decide +kernel
theorem d_MO_readAll_134 : decode b_MO_readAll 134 = .ok (.aload_n 0, 1) := by decide +kernel
theorem d_MO_readAll_135 : decode b_MO_readAll 135 = .ok (.iload_n 1, 1) := by decide +kernel
theorem d_MO_readAll_136 : decode b_MO_readAll 136 = .ok (.invokevirtual 145, 3) := by decide +kernel
theorem d_MO_readAll_139 : decode b_MO_readAll 139 = .ok (.bipush 41, 2) := by decide +kernel
theorem d_MO_readAll_141 : decode b_MO_readAll 141 = .ok (.if_icmp .ne 27, 3) := by decide +kernel
theorem d_MO_readAll_144 : decode b_MO_readAll 144 = .ok (.aload_n 0, 1) := by decide +kernel
theorem d_MO_readAll_145 : decode b_MO_readAll 145 = .ok (.iload_n 3, 1) := by decide +kernel
theorem d_MO_readAll_146 : decode b_MO_readAll 146 = .ok (.invokevirtual 185, 3) := by decide +kernel
theorem d_MO_readAll_149 : decode b_MO_readAll 149 = .ok (.ifCond .eq 19, 3) := by decide +kernel
theorem d_MO_readAll_152 : decode b_MO_readAll 152 = .ok (.iinc 1 1, 3) := by decide +kernel
theorem d_MO_readAll_155 : decode b_MO_readAll 155 = .ok (.aload_n 0, 1) := by decide +kernel
theorem d_MO_readAll_156 : decode b_MO_readAll 156 = .ok (.dup, 1) := by decide +kernel
theorem d_MO_readAll_157 : decode b_MO_readAll 157 = .ok (.getfield 129, 3) := by decide +kernel
theorem d_MO_readAll_160 : decode b_MO_readAll 160 = .ok (.iconst 1, 1) := by decide +kernel
theorem d_MO_readAll_161 : decode b_MO_readAll 161 = .ok (.isub, 1) := by decide +kernel
theorem d_MO_readAll_162 : decode b_MO_readAll 162 = .ok (.putfield 129, 3) := by decide +kernel
theorem d_MO_readAll_165 : decode b_MO_readAll 165 = .ok (.goto 5, 3) := by decide +kernel
theorem d_MO_readAll_168 : decode b_MO_readAll 168 = .ok (.iload_n 1, 1) := by decide +kernel
theorem d_MO_readAll_169 : decode b_MO_readAll 169 = .ok (.ireturn, 1) := by decide +kernel
theorem d_MO_readAll_170 : decode b_MO_readAll 170 = .ok (.goto (-136), 3) := by decide +kernel
theorem d_MO_readAll_173 : decode b_MO_readAll 173 = .ok (.iload_n 1, 1) := by decide +kernel
theorem d_MO_readAll_174 : decode b_MO_readAll 174 = .ok (.ifCond .ge 9, 3) := by decide +kernel
theorem d_MO_readAll_177 : decode b_MO_readAll 177 = .ok (.iconst (-1), 1) := by decide +kernel
theorem d_MO_readAll_178 : decode b_MO_readAll 178 = .ok (.iload_n 1, 1) := by decide +kernel
theorem d_MO_readAll_179 : decode b_MO_readAll 179 = .ok (.isub, 1) := by decide +kernel
theorem d_MO_readAll_180 : decode b_MO_readAll 180 = .ok (.goto 4, 3) := by decide +kernel
theorem d_MO_readAll_183 : decode b_MO_readAll 183 = .ok (.iconst (-1), 1) := by decide +kernel
theorem d_MO_readAll_184 : decode b_MO_readAll 184 = .ok (.ireturn, 1) := by decide +kernel
theorem lk_MO_178 : ab_lk "PolicyForgeModel" 178 y_MO_begin b_MO_begin 6 (some FieldType.int) 1 17 := ⟨⟨rfl, T_MO, 44, rfl⟩, List.forall_mem_cons.mpr ⟨(ab_in 1080 (by decide +kernel) (by decide +kernel)), List.forall_mem_cons.mpr ⟨(ab_in 1082 (by decide +kernel) (by decide +kernel)), List.forall_mem_cons.mpr ⟨(ab_in 47 (by decide +kernel) (by decide +kernel)), List.forall_mem_cons.mpr ⟨(ab_in 100 (by decide +kernel) (by decide +kernel)), List.forall_mem_cons.mpr ⟨(ab_in 1083 (by decide +kernel) (by decide +kernel)), fun _ h => absurd h List.not_mem_nil⟩⟩⟩⟩⟩, ⟨by decide +kernel, by decide +kernel, by decide +kernel⟩, by decide⟩
abbrev b_MO_mayGoOn : ByteArray := prog_10_method_8_code
def y_MO_mayGoOn : MethodName := ⟨"PolicyForgeModel", "mayGoOn", "(I)Z"⟩
theorem lk_MO_181 : ab_lk "PolicyForgeModel" 181 y_MO_mayGoOn b_MO_mayGoOn 2 (some FieldType.boolean) 1 17 := ⟨⟨rfl, T_MO, 44, rfl⟩, List.forall_mem_cons.mpr ⟨(ab_in 1109 (by decide +kernel) (by decide +kernel)), List.forall_mem_cons.mpr ⟨(ab_in 1111 (by decide +kernel) (by decide +kernel)), List.forall_mem_cons.mpr ⟨(ab_in 51 (by decide +kernel) (by decide +kernel)), List.forall_mem_cons.mpr ⟨(ab_in 100 (by decide +kernel) (by decide +kernel)), List.forall_mem_cons.mpr ⟨(ab_in 1112 (by decide +kernel) (by decide +kernel)), fun _ h => absurd h List.not_mem_nil⟩⟩⟩⟩⟩, ⟨by decide +kernel, by decide +kernel, by decide +kernel⟩, by decide⟩
abbrev b_MO_mayEnd : ByteArray := prog_10_method_9_code
def y_MO_mayEnd : MethodName := ⟨"PolicyForgeModel", "mayEnd", "(I)Z"⟩
theorem lk_MO_185 : ab_lk "PolicyForgeModel" 185 y_MO_mayEnd b_MO_mayEnd 2 (some FieldType.boolean) 1 17 := ⟨⟨rfl, T_MO, 44, rfl⟩, List.forall_mem_cons.mpr ⟨(ab_in 1113 (by decide +kernel) (by decide +kernel)), List.forall_mem_cons.mpr ⟨(ab_in 1115 (by decide +kernel) (by decide +kernel)), List.forall_mem_cons.mpr ⟨(ab_in 52 (by decide +kernel) (by decide +kernel)), List.forall_mem_cons.mpr ⟨(ab_in 100 (by decide +kernel) (by decide +kernel)), List.forall_mem_cons.mpr ⟨(ab_in 1116 (by decide +kernel) (by decide +kernel)), fun _ h => absurd h List.not_mem_nil⟩⟩⟩⟩⟩, ⟨by decide +kernel, by decide +kernel, by decide +kernel⟩, by decide⟩
theorem c_MO_readAll0 (u : ab_S) (h17 : 0 < N 17) (et : u.1 17 0 2 = 0) : ab_C false l D ca y_MO_readAll b_MO_readAll 5 (some .int) 3 N u [ab_O 17 0] (fun u' v => u' = (ab_ui (ab_ui (ab_ui u 17 0 5 0) 17 0 6 0) 17 0 39 0) ∧ v = some (ab_I 0)) := by
  refine ab_C.of (by decide) (Nat.le_of_ble_eq_true rfl) ?_
  intro p e s m args below meth c ad X hZ hr0 hlk
  refine ab_aload_n X 0 d_MO_readAll_0 rfl rfl ?_
  refine ab_iconst (v := 0) X d_MO_readAll_1 (by decide) ?_
  refine ab_putI X fp_MO_27 d_MO_readAll_2 (by first | assumption | decide) rfl rfl ?_
  refine ab_aload_n X 0 d_MO_readAll_5 rfl rfl ?_
  refine ab_iconst (v := 0) X d_MO_readAll_6 (by decide) ?_
  refine ab_putI X fp_MO_30 d_MO_readAll_7 (by first | assumption | decide) rfl rfl ?_
  refine ab_aload_n X 0 d_MO_readAll_10 rfl rfl ?_
  refine ab_iconst (v := 0) X d_MO_readAll_11 (by decide) ?_
  refine ab_putI X fp_MO_129 d_MO_readAll_12 (by first | assumption | decide) rfl rfl ?_
  refine ab_aload_n X 0 d_MO_readAll_15 rfl rfl ?_
  refine ab_iconst (v := 0) X d_MO_readAll_16 (by decide) ?_
  refine ab_callV (as := [ab_I 0]) X (fun h => by cases h) (c_MO_begin0 (ab_ui (ab_ui (ab_ui u 17 0 5 0) 17 0 6 0) 17 0 39 0) h17 (by simpa [ab_up] using et)) lk_MO_178 d_MO_readAll_17 rfl rfl (by first | assumption | decide) ⟨by first | exact Nat.le_of_ble_eq_true rfl | (simp only [ab_rm]; omega), by first | exact Nat.le_of_ble_eq_true rfl | (simp only [ab_rm]; omega)⟩ ⟨by first | exact Nat.le_of_ble_eq_true rfl | (simp only [ab_rm]; omega), by first | exact Nat.le_of_ble_eq_true rfl | (simp only [ab_rm]; omega)⟩ (Nat.le_of_ble_eq_true rfl) (fun u17 r17 h17 => ?_)
  obtain ⟨e17, rfl⟩ := h17
  subst u17
  refine ab_istore_n1 X 0 d_MO_readAll_20 rfl (by decide) rfl rfl ?_
  refine ab_aload_n X 1 d_MO_readAll_21 rfl rfl ?_
  refine ab_gI X fl_MO_129 d_MO_readAll_22 (by first | assumption | decide) ((show _ = (0 : Int32) by simp [ab_up])) ?_
  refine ab_if_ne X 32 d_MO_readAll_25 rfl (fun hb => absurd (rfl) hb) (fun _ => ?_)
  refine ab_iconst (v := 1) X d_MO_readAll_28 (by decide) ?_
  refine ab_goto X 33 d_MO_readAll_29 rfl ?_
  refine ab_istore_n2 X 0 1 d_MO_readAll_33 rfl (by decide) rfl rfl rfl rfl ?_
  refine ab_iload_n X 1 d_MO_readAll_34 rfl rfl ?_
  refine ab_if_lt X 173 d_MO_readAll_35 rfl (fun _ => ?_) (fun hb => absurd ((by decide)) hb)
  refine ab_iload_n X 1 d_MO_readAll_173 rfl rfl ?_
  refine ab_if_ge X 183 d_MO_readAll_174 rfl (fun hb => absurd hb ((by decide))) (fun _ => ?_)
  refine ab_iconst (v := (-1)) X d_MO_readAll_177 (by decide) ?_
  refine ab_iload_n X 1 d_MO_readAll_178 rfl rfl ?_
  refine ab_isub X d_MO_readAll_179 ?_
  refine ab_goto X 184 d_MO_readAll_180 rfl ?_
  exact ab_reti X hr0 hlk d_MO_readAll_184 ⟨rfl, rfl⟩
abbrev b_MO_read : ByteArray := prog_10_method_57_code
def y_MO_read : MethodName := ⟨"PolicyForgeModel", "read", "()I"⟩
theorem d_MO_read_0 : decode b_MO_read 0 = .ok (.aload_n 0, 1) := by decide +kernel
theorem d_MO_read_1 : decode b_MO_read 1 = .ok (.aload_n 0, 1) := by decide +kernel
theorem d_MO_read_2 : decode b_MO_read 2 = .ok (.invokevirtual 313, 3) := by decide +kernel
theorem d_MO_read_5 : decode b_MO_read 5 = .ok (.putfield 20, 3) := by decide +kernel
theorem d_MO_read_8 : decode b_MO_read 8 = .ok (.aload_n 0, 1) := by decide +kernel
theorem d_MO_read_9 : decode b_MO_read 9 = .ok (.iconst 0, 1) := by decide +kernel
theorem d_MO_read_10 : decode b_MO_read 10 = .ok (.putfield 17, 3) := by decide +kernel
theorem d_MO_read_13 : decode b_MO_read 13 = .ok (.aload_n 0, 1) := by decide +kernel
theorem d_MO_read_14 : decode b_MO_read 14 = .ok (.aload_n 0, 1) := by decide +kernel
theorem d_MO_read_15 : decode b_MO_read 15 = .ok (.getfield 20, 3) := by decide +kernel
theorem d_MO_read_18 : decode b_MO_read 18 = .ok (.ifCond .ge 7, 3) := by decide +kernel
theorem d_MO_read_21 : decode b_MO_read 21 = .ok (.iconst 1, 1) := by decide +kernel
theorem d_MO_read_22 : decode b_MO_read 22 = .ok (.goto 4, 3) := by decide +kernel
theorem d_MO_read_25 : decode b_MO_read 25 = .ok (.iconst 0, 1) := by decide +kernel
theorem d_MO_read_26 : decode b_MO_read 26 = .ok (.putfield 23, 3) := by decide +kernel
theorem d_MO_read_29 : decode b_MO_read 29 = .ok (.aload_n 0, 1) := by decide +kernel
theorem d_MO_read_30 : decode b_MO_read 30 = .ok (.aload_n 0, 1) := by decide +kernel
theorem d_MO_read_31 : decode b_MO_read 31 = .ok (.getfield 23, 3) := by decide +kernel
theorem d_MO_read_34 : decode b_MO_read 34 = .ok (.ifCond .eq 7, 3) := by decide +kernel
theorem d_MO_read_37 : decode b_MO_read 37 = .ok (.iconst 0, 1) := by decide +kernel
theorem d_MO_read_38 : decode b_MO_read 38 = .ok (.goto 4, 3) := by decide +kernel
theorem d_MO_read_41 : decode b_MO_read 41 = .ok (.iconst 1, 1) := by decide +kernel
theorem d_MO_read_42 : decode b_MO_read 42 = .ok (.putfield 7, 3) := by decide +kernel
theorem d_MO_read_45 : decode b_MO_read 45 = .ok (.aload_n 0, 1) := by decide +kernel
theorem d_MO_read_46 : decode b_MO_read 46 = .ok (.getfield 23, 3) := by decide +kernel
theorem d_MO_read_49 : decode b_MO_read 49 = .ok (.ifCond .ne 5, 3) := by decide +kernel
theorem d_MO_read_52 : decode b_MO_read 52 = .ok (.iconst 0, 1) := by decide +kernel
theorem d_MO_read_53 : decode b_MO_read 53 = .ok (.ireturn, 1) := by decide +kernel
theorem d_MO_read_54 : decode b_MO_read 54 = .ok (.aload_n 0, 1) := by decide +kernel
theorem d_MO_read_55 : decode b_MO_read 55 = .ok (.getfield 27, 3) := by decide +kernel
theorem d_MO_read_58 : decode b_MO_read 58 = .ok (.iconst 1, 1) := by decide +kernel
theorem d_MO_read_59 : decode b_MO_read 59 = .ok (.isub, 1) := by decide +kernel
theorem d_MO_read_60 : decode b_MO_read 60 = .ok (.istore_n 1, 1) := by decide +kernel
theorem d_MO_read_61 : decode b_MO_read 61 = .ok (.iload_n 1, 1) := by decide +kernel
theorem d_MO_read_62 : decode b_MO_read 62 = .ok (.ifCond .lt 14, 3) := by decide +kernel
theorem d_MO_read_65 : decode b_MO_read 65 = .ok (.aload_n 0, 1) := by decide +kernel
theorem d_MO_read_66 : decode b_MO_read 66 = .ok (.iload_n 1, 1) := by decide +kernel
theorem d_MO_read_67 : decode b_MO_read 67 = .ok (.invokevirtual 316, 3) := by decide +kernel
theorem d_MO_read_70 : decode b_MO_read 70 = .ok (.iinc 1 (-1), 3) := by decide +kernel
theorem d_MO_read_73 : decode b_MO_read 73 = .ok (.goto (-12), 3) := by decide +kernel
theorem d_MO_read_76 : decode b_MO_read 76 = .ok (.aload_n 0, 1) := by decide +kernel
theorem d_MO_read_77 : decode b_MO_read 77 = .ok (.getfield 48, 3) := by decide +kernel
theorem d_MO_read_80 : decode b_MO_read 80 = .ok (.iconst 0, 1) := by decide +kernel
theorem d_MO_read_81 : decode b_MO_read 81 = .ok (.iaload, 1) := by decide +kernel
theorem d_MO_read_82 : decode b_MO_read 82 = .ok (.ireturn, 1) := by decide +kernel
theorem lk_MO_313 : ab_lk "PolicyForgeModel" 313 y_MO_readAll b_MO_readAll 5 (some FieldType.int) 0 17 := ⟨⟨rfl, T_MO, 44, rfl⟩, List.forall_mem_cons.mpr ⟨(ab_in 1076 (by decide +kernel) (by decide +kernel)), List.forall_mem_cons.mpr ⟨(ab_in 1078 (by decide +kernel) (by decide +kernel)), List.forall_mem_cons.mpr ⟨(ab_in 46 (by decide +kernel) (by decide +kernel)), List.forall_mem_cons.mpr ⟨(ab_in 100 (by decide +kernel) (by decide +kernel)), List.forall_mem_cons.mpr ⟨(ab_in 1079 (by decide +kernel) (by decide +kernel)), fun _ h => absurd h List.not_mem_nil⟩⟩⟩⟩⟩, ⟨by decide +kernel, by decide +kernel, by decide +kernel⟩, by decide⟩
abbrev b_MO_forms : ByteArray := prog_10_method_25_code
def y_MO_forms : MethodName := ⟨"PolicyForgeModel", "forms", "(I)V"⟩
theorem lk_MO_316 : ab_lk "PolicyForgeModel" 316 y_MO_forms b_MO_forms 6 none 1 17 := ⟨⟨rfl, T_MO, 44, rfl⟩, List.forall_mem_cons.mpr ⟨(ab_in 1117 (by decide +kernel) (by decide +kernel)), List.forall_mem_cons.mpr ⟨(ab_in 1119 (by decide +kernel) (by decide +kernel)), List.forall_mem_cons.mpr ⟨(ab_in 53 (by decide +kernel) (by decide +kernel)), List.forall_mem_cons.mpr ⟨(ab_in 100 (by decide +kernel) (by decide +kernel)), List.forall_mem_cons.mpr ⟨(ab_in 1120 (by decide +kernel) (by decide +kernel)), fun _ h => absurd h List.not_mem_nil⟩⟩⟩⟩⟩, ⟨by decide +kernel, by decide +kernel, by decide +kernel⟩, by decide⟩
set_option maxRecDepth 100000 in
set_option maxHeartbeats 1000000 in
theorem c_MO_read0 (u : ab_S) (h17 : 0 < N 17) (et : u.1 17 0 2 = 0) : ab_C false l D ca y_MO_read b_MO_read 2 (some .int) 4 N u [ab_O 17 0] (fun u' v => u' = (ab_ui (ab_ui (ab_ui (ab_ui (ab_ui (ab_ui (ab_ui u 17 0 5 0) 17 0 6 0) 17 0 39 0) 17 0 3 0) 17 0 2 0) 17 0 4 0) 17 0 0 1) ∧ v = some (ab_I 0)) := by
  refine ab_C.of (by decide) (Nat.le_of_ble_eq_true rfl) ?_
  intro p e s m args below meth c ad X hZ hr0 hlk
  refine ab_aload_n X 0 d_MO_read_0 rfl rfl ?_
  refine ab_aload_n X 0 d_MO_read_1 rfl rfl ?_
  refine ab_callV (as := []) X (fun h => by cases h) (c_MO_readAll0 u h17 et) lk_MO_313 d_MO_read_2 rfl rfl (by first | assumption | decide) ⟨by first | exact Nat.le_of_ble_eq_true rfl | (simp only [ab_rm]; omega), by first | exact Nat.le_of_ble_eq_true rfl | (simp only [ab_rm]; omega)⟩ ⟨by first | exact Nat.le_of_ble_eq_true rfl | (simp only [ab_rm]; omega), by first | exact Nat.le_of_ble_eq_true rfl | (simp only [ab_rm]; omega)⟩ (Nat.le_of_ble_eq_true rfl) (fun u2 r2 h2 => ?_)
  obtain ⟨e2, rfl⟩ := h2
  subst u2
  refine ab_putI X fp_MO_20 d_MO_read_5 (by first | assumption | decide) rfl rfl ?_
  refine ab_aload_n X 0 d_MO_read_8 rfl rfl ?_
  refine ab_iconst (v := 0) X d_MO_read_9 (by decide) ?_
  refine ab_putI X fp_MO_17 d_MO_read_10 (by first | assumption | decide) rfl rfl ?_
  refine ab_aload_n X 0 d_MO_read_13 rfl rfl ?_
  refine ab_aload_n X 0 d_MO_read_14 rfl rfl ?_
  refine ab_gI X fl_MO_20 d_MO_read_15 (by first | assumption | decide) ((show _ = (0 : Int32) by simp [ab_up])) ?_
  refine ab_if_ge X 25 d_MO_read_18 rfl (fun _ => ?_) (fun hb => absurd ((by decide)) hb)
  refine ab_iconst (v := 0) X d_MO_read_25 (by decide) ?_
  refine ab_putI X fp_MO_23 d_MO_read_26 (by first | assumption | decide) rfl rfl ?_
  refine ab_aload_n X 0 d_MO_read_29 rfl rfl ?_
  refine ab_aload_n X 0 d_MO_read_30 rfl rfl ?_
  refine ab_gI X fl_MO_23 d_MO_read_31 (by first | assumption | decide) ((show _ = (0 : Int32) by simp [ab_up])) ?_
  refine ab_if_eq X 41 d_MO_read_34 rfl (fun _ => ?_) (fun hb => absurd (rfl) hb)
  refine ab_iconst (v := 1) X d_MO_read_41 (by decide) ?_
  refine ab_putI X fp_MO_7 d_MO_read_42 (by first | assumption | decide) rfl rfl ?_
  refine ab_aload_n X 0 d_MO_read_45 rfl rfl ?_
  refine ab_gI X fl_MO_23 d_MO_read_46 (by first | assumption | decide) ((show _ = (0 : Int32) by simp [ab_up])) ?_
  refine ab_if_ne X 54 d_MO_read_49 rfl (fun hb => absurd (rfl) hb) (fun _ => ?_)
  refine ab_iconst (v := 0) X d_MO_read_52 (by decide) ?_
  exact ab_reti X hr0 hlk d_MO_read_53 ⟨rfl, rfl⟩
end AbMR

