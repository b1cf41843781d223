/-! Short methods of the class. -/
abbrev ab_IAE : String := "java/lang/IllegalArgumentException"
abbrev ab_ISE : String := "java/lang/IllegalStateException"
abbrev ab_NSE : String := "java/util/NoSuchElementException"
abbrev ab_IOB : String := "java/lang/IndexOutOfBoundsException"
abbrev ab_fl0 (l : Launch) : Prop := l.flags = pinnedFlags ++ [noTraceFlag]
section AbSimple
variable {l : Launch} {D : va_G} {ca : Nat → ClassId} {N : Nat → Nat}
abbrev b_PF_fault : ByteArray := prog_1_method_4_code
def y_PF_fault : MethodName := ⟨"PolicyForge", "fault", "()I"⟩
theorem d_PF_fault_0 : decode b_PF_fault 0 = .ok (.aload_n 0, 1) := by decide +kernel
theorem d_PF_fault_1 : decode b_PF_fault 1 = .ok (.getfield 12, 3) := by decide +kernel
theorem d_PF_fault_4 : decode b_PF_fault 4 = .ok (.getfield 104, 3) := by decide +kernel
theorem d_PF_fault_7 : decode b_PF_fault 7 = .ok (.ireturn, 1) := by decide +kernel
theorem fl_PF_12 : ab_fl "PolicyForge" 12 0 0 1 := ⟨rfl, R_PF, T_PF, 8, rfl, uw_PF, by decide, rfl, (ab_in 355 (by decide +kernel) (by decide +kernel))⟩
theorem fl_PF_104 : ab_fl "PolicyForge" 104 1 5 0 := ⟨rfl, R_RD, T_RD, 8, rfl, uw_RD, by decide, rfl, (ab_in 251 (by decide +kernel) (by decide +kernel))⟩
theorem c_PF_fault (u : ab_S) (h0 : 0 < N 0) (h1 : 0 < N 1) (e0 : u.2.1 0 0 0 = some (1, 0)) : ab_C false l D ca y_PF_fault b_PF_fault 1 (some .int) 0 N u [ab_O 0 0] (fun u' v => u' = u ∧ v = some (ab_I (u.1 1 0 5))) := by
  refine ab_C.of (by decide) (Nat.le_of_ble_eq_true rfl) ?_
  intro p e s m args below meth c ad X hZ hr0 hlk
  refine ab_aload_n X 0 d_PF_fault_0 rfl rfl ?_
  refine ab_gR X fl_PF_12 d_PF_fault_1 (by first | assumption | decide) (e0) ?_
  refine ab_gI X fl_PF_104 d_PF_fault_4 (by first | assumption | decide) (rfl) ?_
  exact ab_reti X hr0 hlk d_PF_fault_7 ⟨rfl, rfl⟩
abbrev b_PF_done : ByteArray := prog_1_method_13_code
def y_PF_done : MethodName := ⟨"PolicyForge", "done", "()I"⟩
theorem d_PF_done_0 : decode b_PF_done 0 = .ok (.aload_n 0, 1) := by decide +kernel
theorem d_PF_done_1 : decode b_PF_done 1 = .ok (.getfield 54, 3) := by decide +kernel
theorem d_PF_done_4 : decode b_PF_done 4 = .ok (.getfield 183, 3) := by decide +kernel
theorem d_PF_done_7 : decode b_PF_done 7 = .ok (.ireturn, 1) := by decide +kernel
theorem fl_PF_54 : ab_fl "PolicyForge" 54 0 6 1 := ⟨rfl, R_PF, T_PF, 8, rfl, uw_PF, by decide, rfl, (ab_in 361 (by decide +kernel) (by decide +kernel))⟩
theorem fl_PF_183 : ab_fl "PolicyForge" 183 7 5 0 := ⟨rfl, R_MA, T_MA, 7, rfl, uw_MA, by decide, rfl, (ab_in 334 (by decide +kernel) (by decide +kernel))⟩
theorem c_PF_done (u : ab_S) (h0 : 0 < N 0) (h1 : 0 < N 7) (e0 : u.2.1 0 0 6 = some (7, 0)) : ab_C false l D ca y_PF_done b_PF_done 1 (some .int) 0 N u [ab_O 0 0] (fun u' v => u' = u ∧ v = some (ab_I (u.1 7 0 5))) := by
  refine ab_C.of (by decide) (Nat.le_of_ble_eq_true rfl) ?_
  intro p e s m args below meth c ad X hZ hr0 hlk
  refine ab_aload_n X 0 d_PF_done_0 rfl rfl ?_
  refine ab_gR X fl_PF_54 d_PF_done_1 (by first | assumption | decide) (e0) ?_
  refine ab_gI X fl_PF_183 d_PF_done_4 (by first | assumption | decide) (rfl) ?_
  exact ab_reti X hr0 hlk d_PF_done_7 ⟨rfl, rfl⟩
abbrev b_PF_clear : ByteArray := prog_1_method_10_code
def y_PF_clear : MethodName := ⟨"PolicyForge", "clear", "()V"⟩
theorem d_PF_clear_0 : decode b_PF_clear 0 = .ok (.aload_n 0, 1) := by decide +kernel
theorem d_PF_clear_1 : decode b_PF_clear 1 = .ok (.getfield 48, 3) := by decide +kernel
theorem d_PF_clear_4 : decode b_PF_clear 4 = .ok (.invokevirtual 62, 3) := by decide +kernel
theorem d_PF_clear_7 : decode b_PF_clear 7 = .ok (.return_, 1) := by decide +kernel
theorem c_PF_clear (u : ab_S) (h0 : 0 < N 0) (h1 : 123 < N 4) (e0 : u.2.1 0 0 5 = some (4, 123)) : ab_C false l D ca y_PF_clear b_PF_clear 1 none 1 N u [ab_O 0 0] (fun u' v => u' = ab_ui (ab_ui (ab_ui u 4 123 1 0) 4 123 2 0) 4 123 3 1 ∧ v = none) := by
  refine ab_C.of (by decide) (Nat.le_of_ble_eq_true rfl) ?_
  intro p e s m args below meth c ad X hZ hr0 hlk
  refine ab_aload_n X 0 d_PF_clear_0 rfl rfl ?_
  refine ab_gR X fl_PF_48 d_PF_clear_1 (by first | assumption | decide) (e0) ?_
  refine ab_callV (as := []) X (fun h => by cases h) (c_RW_start u 123 h1) lk_PF_62 d_PF_clear_4 rfl rfl (by first | assumption | decide) ⟨by first | exact Nat.le_of_ble_eq_true rfl | (simp only [ab_rm]; omega), by first | exact Nat.le_of_ble_eq_true rfl | (simp only [ab_rm]; omega)⟩ ⟨by first | exact Nat.le_of_ble_eq_true rfl | (simp only [ab_rm]; omega), by first | exact Nat.le_of_ble_eq_true rfl | (simp only [ab_rm]; omega)⟩ (Nat.le_of_ble_eq_true rfl) (fun u4 r4 h4 => ?_)
  obtain ⟨rfl, rfl⟩ := h4
  exact ab_retv X hr0 hlk d_PF_clear_7 ⟨rfl, rfl⟩
/-- what may be put -/
def ab_item (x : Int32) : Prop := x = 0 ∨ x = 1 ∨ (10 ≤ x ∧ x < 18) ∨ (20 ≤ x ∧ x < 30)
abbrev b_PF_isItem : ByteArray := prog_1_method_14_code
def y_PF_isItem : MethodName := ⟨"PolicyForge", "isItem", "(I)Z"⟩
theorem d_PF_isItem_0 : decode b_PF_isItem 0 = .ok (.iload_n 0, 1) := by decide +kernel
theorem d_PF_isItem_1 : decode b_PF_isItem 1 = .ok (.ifCond .eq 32, 3) := by decide +kernel
theorem d_PF_isItem_4 : decode b_PF_isItem 4 = .ok (.iload_n 0, 1) := by decide +kernel
theorem d_PF_isItem_5 : decode b_PF_isItem 5 = .ok (.iconst 1, 1) := by decide +kernel
theorem d_PF_isItem_6 : decode b_PF_isItem 6 = .ok (.if_icmp .eq 27, 3) := by decide +kernel
theorem d_PF_isItem_9 : decode b_PF_isItem 9 = .ok (.iload_n 0, 1) := by decide +kernel
theorem d_PF_isItem_10 : decode b_PF_isItem 10 = .ok (.bipush 10, 2) := by decide +kernel
theorem d_PF_isItem_12 : decode b_PF_isItem 12 = .ok (.if_icmp .lt 9, 3) := by decide +kernel
theorem d_PF_isItem_15 : decode b_PF_isItem 15 = .ok (.iload_n 0, 1) := by decide +kernel
theorem d_PF_isItem_16 : decode b_PF_isItem 16 = .ok (.bipush 18, 2) := by decide +kernel
theorem d_PF_isItem_18 : decode b_PF_isItem 18 = .ok (.if_icmp .lt 15, 3) := by decide +kernel
theorem d_PF_isItem_21 : decode b_PF_isItem 21 = .ok (.iload_n 0, 1) := by decide +kernel
theorem d_PF_isItem_22 : decode b_PF_isItem 22 = .ok (.bipush 20, 2) := by decide +kernel
theorem d_PF_isItem_24 : decode b_PF_isItem 24 = .ok (.if_icmp .lt 13, 3) := by decide +kernel
theorem d_PF_isItem_27 : decode b_PF_isItem 27 = .ok (.iload_n 0, 1) := by decide +kernel
theorem d_PF_isItem_28 : decode b_PF_isItem 28 = .ok (.bipush 30, 2) := by decide +kernel
theorem d_PF_isItem_30 : decode b_PF_isItem 30 = .ok (.if_icmp .ge 7, 3) := by decide +kernel
theorem d_PF_isItem_33 : decode b_PF_isItem 33 = .ok (.iconst 1, 1) := by decide +kernel
theorem d_PF_isItem_34 : decode b_PF_isItem 34 = .ok (.goto 4, 3) := by decide +kernel
theorem d_PF_isItem_37 : decode b_PF_isItem 37 = .ok (.iconst 0, 1) := by decide +kernel
theorem d_PF_isItem_38 : decode b_PF_isItem 38 = .ok (.ireturn, 1) := by decide +kernel
set_option maxRecDepth 100000 in
set_option maxHeartbeats 4000000 in
theorem c_PF_isItem (u : ab_S) (x : Int32) : ab_C false l D ca y_PF_isItem b_PF_isItem 1 (some .boolean) 0 N u [ab_I x] (fun u' v => u' = u ∧ ((ab_item x ∧ v = some (ab_I 1)) ∨ (¬ ab_item x ∧ v = some (ab_I 0)))) := by
  refine ab_C.of (by decide) (Nat.le_of_ble_eq_true rfl) ?_
  intro p e s m args below meth c ad X hZ hr0 hlk
  have yes : ab_item x → ab_J p l e (ab_rm 0 0 0) s m args below meth c (MQ below (ab_Q D ca ad N s.heap.size fun u' v => u' = u ∧ ((ab_item x ∧ v = some (ab_I 1)) ∨ (¬ ab_item x ∧ v = some (ab_I 0)))) args s 0 0 (ab_A ad N s.heap.size)) D ca (ab_A ad N s.heap.size) s.heap 1 0 0 ad N u 33 [(0, ab_I x)] [] := by
    intro hi
    refine ab_iconst (v := 1) X d_PF_isItem_33 (by decide) ?_
    refine ab_goto X 38 d_PF_isItem_34 rfl ?_
    exact ab_retz X hr0 hlk (Or.inr rfl) d_PF_isItem_38 ⟨rfl, Or.inl ⟨hi, rfl⟩⟩
  have no : ¬ ab_item x → ab_J p l e (ab_rm 0 0 0) s m args below meth c (MQ below (ab_Q D ca ad N s.heap.size fun u' v => u' = u ∧ ((ab_item x ∧ v = some (ab_I 1)) ∨ (¬ ab_item x ∧ v = some (ab_I 0)))) args s 0 0 (ab_A ad N s.heap.size)) D ca (ab_A ad N s.heap.size) s.heap 1 0 0 ad N u 37 [(0, ab_I x)] [] := by
    intro hi
    refine ab_iconst (v := 0) X d_PF_isItem_37 (by decide) ?_
    exact ab_retz X hr0 hlk (Or.inl rfl) d_PF_isItem_38 ⟨rfl, Or.inr ⟨hi, rfl⟩⟩
  have lt : ∀ {a b : Int32}, ¬ a ≤ b → b < a := fun h => Int32.not_le.mp h
  have ge : ∀ {a b : Int32}, ¬ a < b → b ≤ a := fun h => Int32.not_lt.mp h
  have from21 : ¬ x = 0 → ¬ x = 1 → ¬ (10 ≤ x ∧ x < 18) → ab_J p l e (ab_rm 0 0 0) s m args below meth c (MQ below (ab_Q D ca ad N s.heap.size fun u' v => u' = u ∧ ((ab_item x ∧ v = some (ab_I 1)) ∨ (¬ ab_item x ∧ v = some (ab_I 0)))) args s 0 0 (ab_A ad N s.heap.size)) D ca (ab_A ad N s.heap.size) s.heap 1 0 0 ad N u 21 [(0, ab_I x)] [] := by
    intro a0 a1 a2
    refine ab_iload_n X 0 d_PF_isItem_21 rfl rfl ?_
    refine ab_bipush (v := 20) X d_PF_isItem_22 (by decide) ?_
    refine ab_icmp_lt X 37 d_PF_isItem_24 rfl (fun h24 => ?_) (fun h24 => ?_)
    · exact no (fun h => by
        rcases h with h | h | h | h
        · exact a0 h
        · exact a1 h
        · exact a2 h
        · exact absurd h24 (Int32.not_lt.mpr h.1))
    ·
      refine ab_iload_n X 0 d_PF_isItem_27 rfl rfl ?_
      refine ab_bipush (v := 30) X d_PF_isItem_28 (by decide) ?_
      refine ab_icmp_ge X 37 d_PF_isItem_30 rfl (fun h30 => ?_) (fun h30 => ?_)
      · exact no (fun h => by
          rcases h with h | h | h | h
          · exact a0 h
          · exact a1 h
          · exact a2 h
          · exact absurd h30 (Int32.not_le.mpr h.2))
      · exact yes (Or.inr (Or.inr (Or.inr ⟨ge h24, lt h30⟩)))
  refine ab_iload_n X 0 d_PF_isItem_0 rfl rfl ?_
  refine ab_if_eq X 33 d_PF_isItem_1 rfl (fun h1 => ?_) (fun h1 => ?_)
  · exact yes (Or.inl h1)
  ·
    refine ab_iload_n X 0 d_PF_isItem_4 rfl rfl ?_
    refine ab_iconst (v := 1) X d_PF_isItem_5 (by decide) ?_
    refine ab_icmp_eq X 33 d_PF_isItem_6 rfl (fun h6 => ?_) (fun h6 => ?_)
    · exact yes (Or.inr (Or.inl h6))
    ·
      refine ab_iload_n X 0 d_PF_isItem_9 rfl rfl ?_
      refine ab_bipush (v := 10) X d_PF_isItem_10 (by decide) ?_
      refine ab_icmp_lt X 21 d_PF_isItem_12 rfl (fun h12 => ?_) (fun h12 => ?_)
      · exact from21 h1 h6 (fun h => absurd h12 (Int32.not_lt.mpr h.1))
      ·
        refine ab_iload_n X 0 d_PF_isItem_15 rfl rfl ?_
        refine ab_bipush (v := 18) X d_PF_isItem_16 (by decide) ?_
        refine ab_icmp_lt X 33 d_PF_isItem_18 rfl (fun h18 => ?_) (fun h18 => ?_)
        · exact yes (Or.inr (Or.inr (Or.inl ⟨ge h12, h18⟩)))
        · exact from21 h1 h6 (fun h => absurd h.2 h18)
abbrev b_RW_add : ByteArray := prog_7_method_3_code
def y_RW_add : MethodName := ⟨"PolicyForge$Row", "add", "(I)V"⟩
theorem d_RW_add_0 : decode b_RW_add 0 = .ok (.aload_n 0, 1) := by decide +kernel
theorem d_RW_add_1 : decode b_RW_add 1 = .ok (.getfield 9, 3) := by decide +kernel
theorem d_RW_add_4 : decode b_RW_add 4 = .ok (.aload_n 0, 1) := by decide +kernel
theorem d_RW_add_5 : decode b_RW_add 5 = .ok (.getfield 22, 3) := by decide +kernel
theorem d_RW_add_8 : decode b_RW_add 8 = .ok (.arraylength, 1) := by decide +kernel
theorem d_RW_add_9 : decode b_RW_add 9 = .ok (.if_icmp .ge 36, 3) := by decide +kernel
theorem d_RW_add_12 : decode b_RW_add 12 = .ok (.aload_n 0, 1) := by decide +kernel
theorem d_RW_add_13 : decode b_RW_add 13 = .ok (.getfield 22, 3) := by decide +kernel
theorem d_RW_add_16 : decode b_RW_add 16 = .ok (.aload_n 0, 1) := by decide +kernel
theorem d_RW_add_17 : decode b_RW_add 17 = .ok (.getfield 9, 3) := by decide +kernel
theorem d_RW_add_20 : decode b_RW_add 20 = .ok (.iload_n 1, 1) := by decide +kernel
theorem d_RW_add_21 : decode b_RW_add 21 = .ok (.iastore, 1) := by decide +kernel
theorem d_RW_add_22 : decode b_RW_add 22 = .ok (.aload_n 0, 1) := by decide +kernel
theorem d_RW_add_23 : decode b_RW_add 23 = .ok (.dup, 1) := by decide +kernel
theorem d_RW_add_24 : decode b_RW_add 24 = .ok (.getfield 9, 3) := by decide +kernel
theorem d_RW_add_27 : decode b_RW_add 27 = .ok (.iconst 1, 1) := by decide +kernel
theorem d_RW_add_28 : decode b_RW_add 28 = .ok (.iadd, 1) := by decide +kernel
theorem d_RW_add_29 : decode b_RW_add 29 = .ok (.putfield 9, 3) := by decide +kernel
theorem d_RW_add_32 : decode b_RW_add 32 = .ok (.aload_n 0, 1) := by decide +kernel
theorem d_RW_add_33 : decode b_RW_add 33 = .ok (.dup, 1) := by decide +kernel
theorem d_RW_add_34 : decode b_RW_add 34 = .ok (.getfield 15, 3) := by decide +kernel
theorem d_RW_add_37 : decode b_RW_add 37 = .ok (.iload_n 1, 1) := by decide +kernel
theorem d_RW_add_38 : decode b_RW_add 38 = .ok (.invokestatic 26, 3) := by decide +kernel
theorem d_RW_add_41 : decode b_RW_add 41 = .ok (.iadd, 1) := by decide +kernel
theorem d_RW_add_42 : decode b_RW_add 42 = .ok (.putfield 15, 3) := by decide +kernel
theorem d_RW_add_45 : decode b_RW_add 45 = .ok (.return_, 1) := by decide +kernel
theorem fl_RW_9 : ab_fl "PolicyForge$Row" 9 4 1 0 := ⟨rfl, R_RW, T_RW, 4, rfl, uw_RW, by decide, rfl, (ab_in 153 (by decide +kernel) (by decide +kernel))⟩
theorem fl_RW_22 : ab_fl "PolicyForge$Row" 22 4 0 1 := ⟨rfl, R_RW, T_RW, 4, rfl, uw_RW, by decide, rfl, (ab_in 150 (by decide +kernel) (by decide +kernel))⟩
theorem fl_RW_15 : ab_fl "PolicyForge$Row" 15 4 2 0 := ⟨rfl, R_RW, T_RW, 4, rfl, uw_RW, by decide, rfl, (ab_in 156 (by decide +kernel) (by decide +kernel))⟩
theorem ls_RW_26 : ab_ls "PolicyForge$Row" 26 y_RW_weightOf b_RW_weightOf 1 (some FieldType.int) 1 := ⟨List.forall_mem_cons.mpr ⟨(ab_in 672 (by decide +kernel) (by decide +kernel)), List.forall_mem_cons.mpr ⟨(ab_in 629 (by decide +kernel) (by decide +kernel)), List.forall_mem_cons.mpr ⟨(ab_in 96 (by decide +kernel) (by decide +kernel)), List.forall_mem_cons.mpr ⟨(ab_in 630 (by decide +kernel) (by decide +kernel)), fun _ h => absurd h List.not_mem_nil⟩⟩⟩⟩, ⟨by decide +kernel, by decide +kernel, by decide +kernel⟩, by decide⟩
set_option maxRecDepth 100000 in
set_option maxHeartbeats 4000000 in
theorem c_RW_add (u : ab_S) (r n : Nat) (x : Int32) (hr : r < N 4) (hr8 : r < N 8) (e0 : u.2.1 4 r 0 = some (8, r)) (en : u.1 4 r 1 = nI n) (hn : n < ab_ln 8 r) : ab_C false l D ca y_RW_add b_RW_add 2 none 1 N u [ab_O 4 r, ab_I x] (fun u' v => u' = ab_ui (ab_ui (ab_ui u 8 r n x) 4 r 1 (nI (n + 1))) 4 r 2 (u.1 4 r 2 + (if 20 ≤ x then 5 else if 10 ≤ x then 9 else 1)) ∧ v = none) := by
  refine ab_C.of (by decide) (Nat.le_of_ble_eq_true rfl) ?_
  intro p e s m args below meth c ad X hZ hr0 hlk
  have hl := ab_ln_lt 8 r
  refine ab_aload_n X 0 d_RW_add_0 rfl rfl ?_
  refine ab_gI X fl_RW_9 d_RW_add_1 (by first | assumption | decide) (en) ?_
  refine ab_aload_n X 0 d_RW_add_4 rfl rfl ?_
  refine ab_gR X fl_RW_22 d_RW_add_5 (by first | assumption | decide) (e0) ?_
  refine ab_alen X ⟨by decide, _, fun _ => rfl⟩ d_RW_add_8 (by first | assumption | decide) (rfl) ?_
  refine ab_icmp_ge X 45 d_RW_add_9 rfl (fun hb => absurd hb (nI_ge hn hl)) (fun _ => ?_)
  refine ab_aload_n X 0 d_RW_add_12 rfl rfl ?_
  refine ab_gR X fl_RW_22 d_RW_add_13 (by first | assumption | decide) (e0) ?_
  refine ab_aload_n X 0 d_RW_add_16 rfl rfl ?_
  refine ab_gI X fl_RW_9 d_RW_add_17 (by first | assumption | decide) (en) ?_
  refine ab_iload_n X 1 d_RW_add_20 rfl rfl ?_
  refine ab_iast X (n) ⟨rfl, rfl⟩ d_RW_add_21 (by first | assumption | decide) (rfl) (hn) (ab_ln_lt _ _) ?_
  refine ab_aload_n X 0 d_RW_add_22 rfl rfl ?_
  refine ab_dup X d_RW_add_23 rfl ?_
  refine ab_gI X fl_RW_9 d_RW_add_24 (by first | assumption | decide) (en) ?_
  refine ab_iconst (v := 1) X d_RW_add_27 (by decide) ?_
  refine ab_iadd X d_RW_add_28 ?_
  refine ab_putI X fp_RW_9 d_RW_add_29 (by first | assumption | decide) rfl rfl ?_
  rw [show nI n + 1 = nI (n + 1) from (nI_succ n).symm]
  refine ab_aload_n X 0 d_RW_add_32 rfl rfl ?_
  refine ab_dup X d_RW_add_33 rfl ?_
  refine ab_gI X fl_RW_15 d_RW_add_34 (by first | assumption | decide) (show _ = u.1 4 r 2 by simp [ab_up]) ?_
  refine ab_iload_n X 1 d_RW_add_37 rfl rfl ?_
  refine ab_callS (as := [ab_I x]) X (fun h => by cases h) (c_RW_weightOf (N := N) _ x) ls_RW_26 d_RW_add_38 rfl rfl ⟨by first | exact Nat.le_of_ble_eq_true rfl | (simp only [ab_rm]; omega), by first | exact Nat.le_of_ble_eq_true rfl | (simp only [ab_rm]; omega)⟩ ⟨by first | exact Nat.le_of_ble_eq_true rfl | (simp only [ab_rm]; omega), by first | exact Nat.le_of_ble_eq_true rfl | (simp only [ab_rm]; omega)⟩ (Nat.le_of_ble_eq_true rfl) (fun u38 r38 h38 => ?_)
  obtain ⟨rfl, rfl⟩ := h38
  refine ab_iadd X d_RW_add_41 ?_
  refine ab_putI X fp_RW_15 d_RW_add_42 (by first | assumption | decide) rfl rfl ?_
  exact ab_retv X hr0 hlk d_RW_add_45 ⟨rfl, rfl⟩
end AbSimple

