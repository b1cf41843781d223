/-! The reference's names. -/
theorem mr_and (x : Int32) : ¬ (-1 : Int32) = x &&& 255 := fun h => by
  have h1 := congrArg (fun z : Int32 => z.toBitVec.getLsbD 31) h
  have h2 : (x &&& 255).toBitVec.getLsbD 31 = false := by
    show (x.toBitVec &&& (255 : Int32).toBitVec).getLsbD 31 = false
    rw [BitVec.getLsbD_and, show (255 : Int32).toBitVec.getLsbD 31 = false by decide, Bool.and_false]
  have h3 : (-1 : Int32).toBitVec.getLsbD 31 = true := by decide
  exact absurd (h3.symm.trans (h1.trans h2)) (by decide)
section AbMW
variable {l : Launch} {D : va_G} {ca : Nat → ClassId} {N : Nat → Nat}
def mr_w (k : Nat) : Int64 := ([1801812264, 448311552040, 107092667363880, 122511331521064, 1634624552, 7303720, 1953002024] : List Int64).getD k 0
def mr_n (k : Nat) : Int32 := ([4, 5, 6, 6, 4, 3, 4] : List Int32).getD k 0
theorem mr_n0 {k : Nat} (h : k < 7) : ¬ (0 : Int32) = mr_n k := by
  have h' : k = 0 ∨ k = 1 ∨ k = 2 ∨ k = 3 ∨ k = 4 ∨ k = 5 ∨ k = 6 := by omega
  rcases h' with rfl | rfl | rfl | rfl | rfl | rfl | rfl <;> decide
abbrev b_MO_wordOf : ByteArray := prog_10_method_4_code
def y_MO_wordOf : MethodName := ⟨"PolicyForgeModel", "wordOf", "(I)J"⟩
theorem d_MO_wordOf_0 : decode b_MO_wordOf 0 = .ok (.iload_n 0, 1) := by decide +kernel
theorem d_MO_wordOf_1 : decode b_MO_wordOf 1 = .ok (.tableswitch 63 1 6 #[39, 43, 47, 51, 55, 59], 39) := by decide +kernel
theorem d_MO_wordOf_40 : decode b_MO_wordOf 40 = .ok (.ldc2_w 149, 3) := by decide +kernel
theorem d_MO_wordOf_43 : decode b_MO_wordOf 43 = .ok (.lreturn, 1) := by decide +kernel
theorem d_MO_wordOf_44 : decode b_MO_wordOf 44 = .ok (.ldc2_w 151, 3) := by decide +kernel
theorem d_MO_wordOf_47 : decode b_MO_wordOf 47 = .ok (.lreturn, 1) := by decide +kernel
theorem d_MO_wordOf_48 : decode b_MO_wordOf 48 = .ok (.ldc2_w 153, 3) := by decide +kernel
theorem d_MO_wordOf_51 : decode b_MO_wordOf 51 = .ok (.lreturn, 1) := by decide +kernel
theorem d_MO_wordOf_52 : decode b_MO_wordOf 52 = .ok (.ldc2_w 155, 3) := by decide +kernel
theorem d_MO_wordOf_55 : decode b_MO_wordOf 55 = .ok (.lreturn, 1) := by decide +kernel
theorem d_MO_wordOf_56 : decode b_MO_wordOf 56 = .ok (.ldc2_w 157, 3) := by decide +kernel
theorem d_MO_wordOf_59 : decode b_MO_wordOf 59 = .ok (.lreturn, 1) := by decide +kernel
theorem d_MO_wordOf_60 : decode b_MO_wordOf 60 = .ok (.ldc2_w 159, 3) := by decide +kernel
theorem d_MO_wordOf_63 : decode b_MO_wordOf 63 = .ok (.lreturn, 1) := by decide +kernel
theorem d_MO_wordOf_64 : decode b_MO_wordOf 64 = .ok (.ldc2_w 161, 3) := by decide +kernel
theorem d_MO_wordOf_67 : decode b_MO_wordOf 67 = .ok (.lreturn, 1) := by decide +kernel
theorem c_MO_wordOf (u : ab_S) (k : Nat) (hk : k < 7) : ab_C false l D ca y_MO_wordOf b_MO_wordOf 1 (some .long) 0 N u [ab_I (nI (k + 1))] (fun u' v => u' = u ∧ v = some (ab_L (mr_w k))) := by
  refine ab_C.of (by decide) (Nat.le_of_ble_eq_true rfl) ?_
  intro p e s m args below meth c ad X hZ hr0 hlk
  have h' : k = 0 ∨ k = 1 ∨ k = 2 ∨ k = 3 ∨ k = 4 ∨ k = 5 ∨ k = 6 := by omega
  rcases h' with rfl | rfl | rfl | rfl | rfl | rfl | rfl
  ·
    refine ab_iload_n X 0 d_MO_wordOf_0 rfl rfl ?_
    refine ab_tableIn X 40 d_MO_wordOf_1 (by decide) (by decide) (off := 39) (by decide) (by decide) ?_
    refine ab_ldc2 X (v := 1801812264) (ab_in 1083 (by decide +kernel) (by decide +kernel)) d_MO_wordOf_40 ?_
    exact ab_retl X hr0 hlk d_MO_wordOf_43 ⟨rfl, rfl⟩
  ·
    refine ab_iload_n X 0 d_MO_wordOf_0 rfl rfl ?_
    refine ab_tableIn X 44 d_MO_wordOf_1 (by decide) (by decide) (off := 43) (by decide) (by decide) ?_
    refine ab_ldc2 X (v := 448311552040) (ab_in 1084 (by decide +kernel) (by decide +kernel)) d_MO_wordOf_44 ?_
    exact ab_retl X hr0 hlk d_MO_wordOf_47 ⟨rfl, rfl⟩
  ·
    refine ab_iload_n X 0 d_MO_wordOf_0 rfl rfl ?_
    refine ab_tableIn X 48 d_MO_wordOf_1 (by decide) (by decide) (off := 47) (by decide) (by decide) ?_
    refine ab_ldc2 X (v := 107092667363880) (ab_in 1085 (by decide +kernel) (by decide +kernel)) d_MO_wordOf_48 ?_
    exact ab_retl X hr0 hlk d_MO_wordOf_51 ⟨rfl, rfl⟩
  ·
    refine ab_iload_n X 0 d_MO_wordOf_0 rfl rfl ?_
    refine ab_tableIn X 52 d_MO_wordOf_1 (by decide) (by decide) (off := 51) (by decide) (by decide) ?_
    refine ab_ldc2 X (v := 122511331521064) (ab_in 1086 (by decide +kernel) (by decide +kernel)) d_MO_wordOf_52 ?_
    exact ab_retl X hr0 hlk d_MO_wordOf_55 ⟨rfl, rfl⟩
  ·
    refine ab_iload_n X 0 d_MO_wordOf_0 rfl rfl ?_
    refine ab_tableIn X 56 d_MO_wordOf_1 (by decide) (by decide) (off := 55) (by decide) (by decide) ?_
    refine ab_ldc2 X (v := 1634624552) (ab_in 1087 (by decide +kernel) (by decide +kernel)) d_MO_wordOf_56 ?_
    exact ab_retl X hr0 hlk d_MO_wordOf_59 ⟨rfl, rfl⟩
  ·
    refine ab_iload_n X 0 d_MO_wordOf_0 rfl rfl ?_
    refine ab_tableIn X 60 d_MO_wordOf_1 (by decide) (by decide) (off := 59) (by decide) (by decide) ?_
    refine ab_ldc2 X (v := 7303720) (ab_in 1088 (by decide +kernel) (by decide +kernel)) d_MO_wordOf_60 ?_
    exact ab_retl X hr0 hlk d_MO_wordOf_63 ⟨rfl, rfl⟩
  ·
    refine ab_iload_n X 0 d_MO_wordOf_0 rfl rfl ?_
    refine ab_tableOut X 64 d_MO_wordOf_1 (by decide) (by decide) ?_
    refine ab_ldc2 X (v := 1953002024) (ab_in 1089 (by decide +kernel) (by decide +kernel)) d_MO_wordOf_64 ?_
    exact ab_retl X hr0 hlk d_MO_wordOf_67 ⟨rfl, rfl⟩
abbrev b_MO_lettersOf : ByteArray := prog_10_method_5_code
def y_MO_lettersOf : MethodName := ⟨"PolicyForgeModel", "lettersOf", "(I)I"⟩
theorem d_MO_lettersOf_0 : decode b_MO_lettersOf 0 = .ok (.iload_n 0, 1) := by decide +kernel
theorem d_MO_lettersOf_1 : decode b_MO_lettersOf 1 = .ok (.bipush 6, 2) := by decide +kernel
theorem d_MO_lettersOf_3 : decode b_MO_lettersOf 3 = .ok (.if_icmp .ne 7, 3) := by decide +kernel
theorem d_MO_lettersOf_6 : decode b_MO_lettersOf 6 = .ok (.iconst 3, 1) := by decide +kernel
theorem d_MO_lettersOf_7 : decode b_MO_lettersOf 7 = .ok (.goto 34, 3) := by decide +kernel
theorem d_MO_lettersOf_10 : decode b_MO_lettersOf 10 = .ok (.iload_n 0, 1) := by decide +kernel
theorem d_MO_lettersOf_11 : decode b_MO_lettersOf 11 = .ok (.iconst 1, 1) := by decide +kernel
theorem d_MO_lettersOf_12 : decode b_MO_lettersOf 12 = .ok (.if_icmp .eq 14, 3) := by decide +kernel
theorem d_MO_lettersOf_15 : decode b_MO_lettersOf 15 = .ok (.iload_n 0, 1) := by decide +kernel
theorem d_MO_lettersOf_16 : decode b_MO_lettersOf 16 = .ok (.iconst 5, 1) := by decide +kernel
theorem d_MO_lettersOf_17 : decode b_MO_lettersOf 17 = .ok (.if_icmp .eq 9, 3) := by decide +kernel
theorem d_MO_lettersOf_20 : decode b_MO_lettersOf 20 = .ok (.iload_n 0, 1) := by decide +kernel
theorem d_MO_lettersOf_21 : decode b_MO_lettersOf 21 = .ok (.bipush 7, 2) := by decide +kernel
theorem d_MO_lettersOf_23 : decode b_MO_lettersOf 23 = .ok (.if_icmp .ne 7, 3) := by decide +kernel
theorem d_MO_lettersOf_26 : decode b_MO_lettersOf 26 = .ok (.iconst 4, 1) := by decide +kernel
theorem d_MO_lettersOf_27 : decode b_MO_lettersOf 27 = .ok (.goto 14, 3) := by decide +kernel
theorem d_MO_lettersOf_30 : decode b_MO_lettersOf 30 = .ok (.iload_n 0, 1) := by decide +kernel
theorem d_MO_lettersOf_31 : decode b_MO_lettersOf 31 = .ok (.iconst 2, 1) := by decide +kernel
theorem d_MO_lettersOf_32 : decode b_MO_lettersOf 32 = .ok (.if_icmp .ne 7, 3) := by decide +kernel
theorem d_MO_lettersOf_35 : decode b_MO_lettersOf 35 = .ok (.iconst 5, 1) := by decide +kernel
theorem d_MO_lettersOf_36 : decode b_MO_lettersOf 36 = .ok (.goto 5, 3) := by decide +kernel
theorem d_MO_lettersOf_39 : decode b_MO_lettersOf 39 = .ok (.bipush 6, 2) := by decide +kernel
theorem d_MO_lettersOf_41 : decode b_MO_lettersOf 41 = .ok (.ireturn, 1) := by decide +kernel
theorem c_MO_lettersOf (u : ab_S) (k : Nat) (hk : k < 7) : ab_C false l D ca y_MO_lettersOf b_MO_lettersOf 1 (some .int) 0 N u [ab_I (nI (k + 1))] (fun u' v => u' = u ∧ v = some (ab_I (mr_n k))) := by
  refine ab_C.of (by decide) (Nat.le_of_ble_eq_true rfl) ?_
  intro p e s m args below meth c ad X hZ hr0 hlk
  have h' : k = 0 ∨ k = 1 ∨ k = 2 ∨ k = 3 ∨ k = 4 ∨ k = 5 ∨ k = 6 := by omega
  rcases h' with rfl | rfl | rfl | rfl | rfl | rfl | rfl
  ·
    refine ab_iload_n X 0 d_MO_lettersOf_0 rfl rfl ?_
    refine ab_bipush (v := 6) X d_MO_lettersOf_1 (by decide) ?_
    refine ab_icmp_ne X 10 d_MO_lettersOf_3 rfl (fun _ => ?_) (fun hb => absurd hb ((by decide)))
    refine ab_iload_n X 0 d_MO_lettersOf_10 rfl rfl ?_
    refine ab_iconst (v := 1) X d_MO_lettersOf_11 (by decide) ?_
    refine ab_icmp_eq X 26 d_MO_lettersOf_12 rfl (fun _ => ?_) (fun hb => absurd ((by decide)) hb)
    refine ab_iconst (v := 4) X d_MO_lettersOf_26 (by decide) ?_
    refine ab_goto X 41 d_MO_lettersOf_27 rfl ?_
    exact ab_reti X hr0 hlk d_MO_lettersOf_41 ⟨rfl, rfl⟩
  ·
    refine ab_iload_n X 0 d_MO_lettersOf_0 rfl rfl ?_
    refine ab_bipush (v := 6) X d_MO_lettersOf_1 (by decide) ?_
    refine ab_icmp_ne X 10 d_MO_lettersOf_3 rfl (fun _ => ?_) (fun hb => absurd hb ((by decide)))
    refine ab_iload_n X 0 d_MO_lettersOf_10 rfl rfl ?_
    refine ab_iconst (v := 1) X d_MO_lettersOf_11 (by decide) ?_
    refine ab_icmp_eq X 26 d_MO_lettersOf_12 rfl (fun hb => absurd hb ((by decide))) (fun _ => ?_)
    refine ab_iload_n X 0 d_MO_lettersOf_15 rfl rfl ?_
    refine ab_iconst (v := 5) X d_MO_lettersOf_16 (by decide) ?_
    refine ab_icmp_eq X 26 d_MO_lettersOf_17 rfl (fun hb => absurd hb ((by decide))) (fun _ => ?_)
    refine ab_iload_n X 0 d_MO_lettersOf_20 rfl rfl ?_
    refine ab_bipush (v := 7) X d_MO_lettersOf_21 (by decide) ?_
    refine ab_icmp_ne X 30 d_MO_lettersOf_23 rfl (fun _ => ?_) (fun hb => absurd hb ((by decide)))
    refine ab_iload_n X 0 d_MO_lettersOf_30 rfl rfl ?_
    refine ab_iconst (v := 2) X d_MO_lettersOf_31 (by decide) ?_
    refine ab_icmp_ne X 39 d_MO_lettersOf_32 rfl (fun hb => absurd ((by decide)) hb) (fun _ => ?_)
    refine ab_iconst (v := 5) X d_MO_lettersOf_35 (by decide) ?_
    refine ab_goto X 41 d_MO_lettersOf_36 rfl ?_
    exact ab_reti X hr0 hlk d_MO_lettersOf_41 ⟨rfl, rfl⟩
  ·
    refine ab_iload_n X 0 d_MO_lettersOf_0 rfl rfl ?_
    refine ab_bipush (v := 6) X d_MO_lettersOf_1 (by decide) ?_
    refine ab_icmp_ne X 10 d_MO_lettersOf_3 rfl (fun _ => ?_) (fun hb => absurd hb ((by decide)))
    refine ab_iload_n X 0 d_MO_lettersOf_10 rfl rfl ?_
    refine ab_iconst (v := 1) X d_MO_lettersOf_11 (by decide) ?_
    refine ab_icmp_eq X 26 d_MO_lettersOf_12 rfl (fun hb => absurd hb ((by decide))) (fun _ => ?_)
    refine ab_iload_n X 0 d_MO_lettersOf_15 rfl rfl ?_
    refine ab_iconst (v := 5) X d_MO_lettersOf_16 (by decide) ?_
    refine ab_icmp_eq X 26 d_MO_lettersOf_17 rfl (fun hb => absurd hb ((by decide))) (fun _ => ?_)
    refine ab_iload_n X 0 d_MO_lettersOf_20 rfl rfl ?_
    refine ab_bipush (v := 7) X d_MO_lettersOf_21 (by decide) ?_
    refine ab_icmp_ne X 30 d_MO_lettersOf_23 rfl (fun _ => ?_) (fun hb => absurd hb ((by decide)))
    refine ab_iload_n X 0 d_MO_lettersOf_30 rfl rfl ?_
    refine ab_iconst (v := 2) X d_MO_lettersOf_31 (by decide) ?_
    refine ab_icmp_ne X 39 d_MO_lettersOf_32 rfl (fun _ => ?_) (fun hb => absurd hb ((by decide)))
    refine ab_bipush (v := 6) X d_MO_lettersOf_39 (by decide) ?_
    exact ab_reti X hr0 hlk d_MO_lettersOf_41 ⟨rfl, rfl⟩
  ·
    refine ab_iload_n X 0 d_MO_lettersOf_0 rfl rfl ?_
    refine ab_bipush (v := 6) X d_MO_lettersOf_1 (by decide) ?_
    refine ab_icmp_ne X 10 d_MO_lettersOf_3 rfl (fun _ => ?_) (fun hb => absurd hb ((by decide)))
    refine ab_iload_n X 0 d_MO_lettersOf_10 rfl rfl ?_
    refine ab_iconst (v := 1) X d_MO_lettersOf_11 (by decide) ?_
    refine ab_icmp_eq X 26 d_MO_lettersOf_12 rfl (fun hb => absurd hb ((by decide))) (fun _ => ?_)
    refine ab_iload_n X 0 d_MO_lettersOf_15 rfl rfl ?_
    refine ab_iconst (v := 5) X d_MO_lettersOf_16 (by decide) ?_
    refine ab_icmp_eq X 26 d_MO_lettersOf_17 rfl (fun hb => absurd hb ((by decide))) (fun _ => ?_)
    refine ab_iload_n X 0 d_MO_lettersOf_20 rfl rfl ?_
    refine ab_bipush (v := 7) X d_MO_lettersOf_21 (by decide) ?_
    refine ab_icmp_ne X 30 d_MO_lettersOf_23 rfl (fun _ => ?_) (fun hb => absurd hb ((by decide)))
    refine ab_iload_n X 0 d_MO_lettersOf_30 rfl rfl ?_
    refine ab_iconst (v := 2) X d_MO_lettersOf_31 (by decide) ?_
    refine ab_icmp_ne X 39 d_MO_lettersOf_32 rfl (fun _ => ?_) (fun hb => absurd hb ((by decide)))
    refine ab_bipush (v := 6) X d_MO_lettersOf_39 (by decide) ?_
    exact ab_reti X hr0 hlk d_MO_lettersOf_41 ⟨rfl, rfl⟩
  ·
    refine ab_iload_n X 0 d_MO_lettersOf_0 rfl rfl ?_
    refine ab_bipush (v := 6) X d_MO_lettersOf_1 (by decide) ?_
    refine ab_icmp_ne X 10 d_MO_lettersOf_3 rfl (fun _ => ?_) (fun hb => absurd hb ((by decide)))
    refine ab_iload_n X 0 d_MO_lettersOf_10 rfl rfl ?_
    refine ab_iconst (v := 1) X d_MO_lettersOf_11 (by decide) ?_
    refine ab_icmp_eq X 26 d_MO_lettersOf_12 rfl (fun hb => absurd hb ((by decide))) (fun _ => ?_)
    refine ab_iload_n X 0 d_MO_lettersOf_15 rfl rfl ?_
    refine ab_iconst (v := 5) X d_MO_lettersOf_16 (by decide) ?_
    refine ab_icmp_eq X 26 d_MO_lettersOf_17 rfl (fun _ => ?_) (fun hb => absurd ((by decide)) hb)
    refine ab_iconst (v := 4) X d_MO_lettersOf_26 (by decide) ?_
    refine ab_goto X 41 d_MO_lettersOf_27 rfl ?_
    exact ab_reti X hr0 hlk d_MO_lettersOf_41 ⟨rfl, rfl⟩
  ·
    refine ab_iload_n X 0 d_MO_lettersOf_0 rfl rfl ?_
    refine ab_bipush (v := 6) X d_MO_lettersOf_1 (by decide) ?_
    refine ab_icmp_ne X 10 d_MO_lettersOf_3 rfl (fun hb => absurd ((by decide)) hb) (fun _ => ?_)
    refine ab_iconst (v := 3) X d_MO_lettersOf_6 (by decide) ?_
    refine ab_goto X 41 d_MO_lettersOf_7 rfl ?_
    exact ab_reti X hr0 hlk d_MO_lettersOf_41 ⟨rfl, rfl⟩
  ·
    refine ab_iload_n X 0 d_MO_lettersOf_0 rfl rfl ?_
    refine ab_bipush (v := 6) X d_MO_lettersOf_1 (by decide) ?_
    refine ab_icmp_ne X 10 d_MO_lettersOf_3 rfl (fun _ => ?_) (fun hb => absurd hb ((by decide)))
    refine ab_iload_n X 0 d_MO_lettersOf_10 rfl rfl ?_
    refine ab_iconst (v := 1) X d_MO_lettersOf_11 (by decide) ?_
    refine ab_icmp_eq X 26 d_MO_lettersOf_12 rfl (fun hb => absurd hb ((by decide))) (fun _ => ?_)
    refine ab_iload_n X 0 d_MO_lettersOf_15 rfl rfl ?_
    refine ab_iconst (v := 5) X d_MO_lettersOf_16 (by decide) ?_
    refine ab_icmp_eq X 26 d_MO_lettersOf_17 rfl (fun hb => absurd hb ((by decide))) (fun _ => ?_)
    refine ab_iload_n X 0 d_MO_lettersOf_20 rfl rfl ?_
    refine ab_bipush (v := 7) X d_MO_lettersOf_21 (by decide) ?_
    refine ab_icmp_ne X 30 d_MO_lettersOf_23 rfl (fun hb => absurd ((by decide)) hb) (fun _ => ?_)
    refine ab_iconst (v := 4) X d_MO_lettersOf_26 (by decide) ?_
    refine ab_goto X 41 d_MO_lettersOf_27 rfl ?_
    exact ab_reti X hr0 hlk d_MO_lettersOf_41 ⟨rfl, rfl⟩
end AbMW

