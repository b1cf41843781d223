/-! The script and the machine: every call comes to its end. -/
section SaScript
variable {l : Launch} {D : va_G} {ca : Nat → ClassId}
abbrev b_SC_start : ByteArray := prog_8_method_2_code
def y_SC_start : MethodName := ⟨"PolicyForge$Script", "start", "()V"⟩
theorem d_SC_start_0 : decode b_SC_start 0 = .ok (.aload_n 0, 1) := by decide +kernel
theorem d_SC_start_1 : decode b_SC_start 1 = .ok (.iconst 0, 1) := by decide +kernel
theorem d_SC_start_2 : decode b_SC_start 2 = .ok (.putfield 21, 3) := by decide +kernel
theorem d_SC_start_5 : decode b_SC_start 5 = .ok (.aload_n 0, 1) := by decide +kernel
theorem d_SC_start_6 : decode b_SC_start 6 = .ok (.iconst 0, 1) := by decide +kernel
theorem d_SC_start_7 : decode b_SC_start 7 = .ok (.putfield 25, 3) := by decide +kernel
theorem d_SC_start_10 : decode b_SC_start 10 = .ok (.return_, 1) := by decide +kernel
set_option maxRecDepth 100000 in
set_option maxHeartbeats 1000000 in
theorem s_SC_start (u : ab_S) (h : CI u) : ab_C false l D ca y_SC_start b_SC_start 1 none 0 ab_nQ u [ab_O 5 0] (fun u' v => cP [5, 13, 14] u u' ∧ v = none) := by
  refine ab_C.of (by decide) (Nat.le_of_ble_eq_true rfl) ?_
  intro p e s m args below meth c ad X hZ hr0 hlk
  have P0 : cP [5, 13, 14] u u := cQ.rf h
  refine ab_aload_n X 0 d_SC_start_0 rfl rfl ?_
  refine ab_iconst (v := 0) X d_SC_start_1 (by decide) ?_
  refine ab_putI X fp_SC_21 d_SC_start_2 (by first | assumption | decide | (show _ < 124; omega) | (show _ < 61; omega) | (show _ < 20; omega)) rfl rfl ?_
  refine ab_gen (fun u2 e2 => ?_)
  have P2 : cP [5, 13, 14] u u2 := by rw [e2]; exact P0.sc (by decide) (n := 0) (by omega)
  refine ab_aload_n X 0 d_SC_start_5 rfl rfl ?_
  refine ab_iconst (v := 0) X d_SC_start_6 (by decide) ?_
  refine ab_putI X fp_SC_25 d_SC_start_7 (by first | assumption | decide | (show _ < 124; omega) | (show _ < 61; omega) | (show _ < 20; omega)) rfl rfl ?_
  refine ab_gen (fun u7 e7 => ?_)
  have P7 : cP [5, 13, 14] u u7 := by rw [e7]; exact P2.sf (by decide) (n := 0) (by omega) (fun j hj => absurd hj (by omega))
  exact ab_retv X hr0 hlk d_SC_start_10 ⟨P7, rfl⟩
abbrev b_SC_addWord : ByteArray := prog_8_method_9_code
def y_SC_addWord : MethodName := ⟨"PolicyForge$Script", "addWord", "(I)V"⟩
theorem d_SC_addWord_0 : decode b_SC_addWord 0 = .ok (.aload_n 0, 1) := by decide +kernel
theorem d_SC_addWord_1 : decode b_SC_addWord 1 = .ok (.getfield 21, 3) := by decide +kernel
theorem d_SC_addWord_4 : decode b_SC_addWord 4 = .ok (.sipush 128, 3) := by decide +kernel
theorem d_SC_addWord_7 : decode b_SC_addWord 7 = .ok (.if_icmp .ge 23, 3) := by decide +kernel
theorem d_SC_addWord_10 : decode b_SC_addWord 10 = .ok (.aload_n 0, 1) := by decide +kernel
theorem d_SC_addWord_11 : decode b_SC_addWord 11 = .ok (.getfield 9, 3) := by decide +kernel
theorem d_SC_addWord_14 : decode b_SC_addWord 14 = .ok (.aload_n 0, 1) := by decide +kernel
theorem d_SC_addWord_15 : decode b_SC_addWord 15 = .ok (.getfield 21, 3) := by decide +kernel
theorem d_SC_addWord_18 : decode b_SC_addWord 18 = .ok (.iload_n 1, 1) := by decide +kernel
theorem d_SC_addWord_19 : decode b_SC_addWord 19 = .ok (.iastore, 1) := by decide +kernel
theorem d_SC_addWord_20 : decode b_SC_addWord 20 = .ok (.aload_n 0, 1) := by decide +kernel
theorem d_SC_addWord_21 : decode b_SC_addWord 21 = .ok (.dup, 1) := by decide +kernel
theorem d_SC_addWord_22 : decode b_SC_addWord 22 = .ok (.getfield 21, 3) := by decide +kernel
theorem d_SC_addWord_25 : decode b_SC_addWord 25 = .ok (.iconst 1, 1) := by decide +kernel
theorem d_SC_addWord_26 : decode b_SC_addWord 26 = .ok (.iadd, 1) := by decide +kernel
theorem d_SC_addWord_27 : decode b_SC_addWord 27 = .ok (.putfield 21, 3) := by decide +kernel
theorem d_SC_addWord_30 : decode b_SC_addWord 30 = .ok (.return_, 1) := by decide +kernel
theorem fl_SC_21 : ab_fl "PolicyForge$Script" 21 5 2 0 := ⟨rfl, R_SC, T_SC, 4, rfl, uw_SC, by decide, rfl, (ab_in 289 (by decide +kernel) (by decide +kernel))⟩
theorem fl_SC_9 : ab_fl "PolicyForge$Script" 9 5 0 1 := ⟨rfl, R_SC, T_SC, 4, rfl, uw_SC, by decide, rfl, (ab_in 284 (by decide +kernel) (by decide +kernel))⟩
set_option maxRecDepth 100000 in
set_option maxHeartbeats 1000000 in
theorem s_SC_addWord (u : ab_S) (x : Int32) (h : CI u) : ab_C false l D ca y_SC_addWord b_SC_addWord 2 none 0 ab_nQ u [ab_O 5 0, ab_I x] (fun u' v => cP [5, 13, 14] u u' ∧ v = none) := by
  refine ab_C.of (by decide) (Nat.le_of_ble_eq_true rfl) ?_
  intro p e s m args below meth c ad X hZ hr0 hlk
  have P0 : cP [5, 13, 14] u u := cQ.rf h
  obtain ⟨⟨n, hn, en⟩, -⟩ := h.scr
  refine ab_aload_n X 0 d_SC_addWord_0 rfl rfl ?_
  refine ab_gI X fl_SC_21 d_SC_addWord_1 (by first | assumption | decide | (show _ < 124; omega) | (show _ < 61; omega) | (show _ < 20; omega)) (en) ?_
  refine ab_sipush (v := 128) X d_SC_addWord_4 (by decide) ?_
  refine ab_icmp_ge X 30 d_SC_addWord_7 rfl (fun h7 => ?_) (fun h7 => ?_)
  ·
    exact ab_retv X hr0 hlk d_SC_addWord_30 ⟨P0, rfl⟩
  ·
    have hn1 : n < 128 := nI_lt_of h7 (by omega)
    refine ab_aload_n X 0 d_SC_addWord_10 rfl rfl ?_
    refine ab_gR X fl_SC_9 d_SC_addWord_11 (by first | assumption | decide | (show _ < 124; omega) | (show _ < 61; omega) | (show _ < 20; omega)) (P0.1.sc0) ?_
    refine ab_aload_n X 0 d_SC_addWord_14 rfl rfl ?_
    refine ab_gI X fl_SC_21 d_SC_addWord_15 (by first | assumption | decide | (show _ < 124; omega) | (show _ < 61; omega) | (show _ < 20; omega)) (en) ?_
    refine ab_iload_n X 1 d_SC_addWord_18 rfl rfl ?_
    refine ab_iast X (n) ⟨rfl, rfl⟩ d_SC_addWord_19 (by first | assumption | decide | (show _ < 124; omega) | (show _ < 61; omega) | (show _ < 20; omega)) (rfl) (hn1) (ab_ln_lt _ _) ?_
    refine ab_gen (fun u19 e19 => ?_)
    have P19 : cP [5, 13, 14] u u19 := by rw [e19]; exact P0.ui rfl (by decide)
    refine ab_aload_n X 0 d_SC_addWord_20 rfl rfl ?_
    refine ab_dup X d_SC_addWord_21 rfl ?_
    refine ab_gI X fl_SC_21 d_SC_addWord_22 (by first | assumption | decide | (show _ < 124; omega) | (show _ < 61; omega) | (show _ < 20; omega)) ((show _ = nI n by rw [e19]; simpa [ab_up] using en)) ?_
    refine ab_iconst (v := 1) X d_SC_addWord_25 (by decide) ?_
    refine ab_iadd X d_SC_addWord_26 ?_
    refine ab_top (nI_1 _) ?_
    refine ab_putI X fp_SC_21 d_SC_addWord_27 (by first | assumption | decide | (show _ < 124; omega) | (show _ < 61; omega) | (show _ < 20; omega)) rfl rfl ?_
    refine ab_gen (fun u27 e27 => ?_)
    have P27 : cP [5, 13, 14] u u27 := by rw [e27]; exact P19.sc (by decide) (by omega)
    exact ab_retv X hr0 hlk d_SC_addWord_30 ⟨P27, rfl⟩
abbrev b_SC_addOperation : ByteArray := prog_8_method_8_code
def y_SC_addOperation : MethodName := ⟨"PolicyForge$Script", "addOperation", "(I)V"⟩
theorem d_SC_addOperation_0 : decode b_SC_addOperation 0 = .ok (.aload_n 0, 1) := by decide +kernel
theorem d_SC_addOperation_1 : decode b_SC_addOperation 1 = .ok (.sipush 1000, 3) := by decide +kernel
theorem d_SC_addOperation_4 : decode b_SC_addOperation 4 = .ok (.iload_n 1, 1) := by decide +kernel
theorem d_SC_addOperation_5 : decode b_SC_addOperation 5 = .ok (.imul, 1) := by decide +kernel
theorem d_SC_addOperation_6 : decode b_SC_addOperation 6 = .ok (.invokevirtual 34, 3) := by decide +kernel
theorem d_SC_addOperation_9 : decode b_SC_addOperation 9 = .ok (.return_, 1) := by decide +kernel
theorem lk_SC_34 : ab_lk "PolicyForge$Script" 34 y_SC_addWord b_SC_addWord 2 none 1 5 := ⟨⟨rfl, T_SC, 4, rfl⟩, List.forall_mem_cons.mpr ⟨(ab_in 685 (by decide +kernel) (by decide +kernel)), List.forall_mem_cons.mpr ⟨(ab_in 687 (by decide +kernel) (by decide +kernel)), List.forall_mem_cons.mpr ⟨(ab_in 21 (by decide +kernel) (by decide +kernel)), List.forall_mem_cons.mpr ⟨(ab_in 97 (by decide +kernel) (by decide +kernel)), List.forall_mem_cons.mpr ⟨(ab_in 688 (by decide +kernel) (by decide +kernel)), fun _ h => absurd h List.not_mem_nil⟩⟩⟩⟩⟩, ⟨by decide +kernel, by decide +kernel, by decide +kernel⟩, by decide⟩
set_option maxRecDepth 100000 in
set_option maxHeartbeats 1000000 in
theorem s_SC_addOperation (u : ab_S) (x : Int32) (h : CI u) : ab_C false l D ca y_SC_addOperation b_SC_addOperation 2 none 1 ab_nQ u [ab_O 5 0, ab_I x] (fun u' v => cP [5, 13, 14] u u' ∧ v = none) := by
  refine ab_C.of (by decide) (Nat.le_of_ble_eq_true rfl) ?_
  intro p e s m args below meth c ad X hZ hr0 hlk
  have P0 : cP [5, 13, 14] u u := cQ.rf h
  refine ab_aload_n X 0 d_SC_addOperation_0 rfl rfl ?_
  refine ab_sipush (v := 1000) X d_SC_addOperation_1 (by decide) ?_
  refine ab_iload_n X 1 d_SC_addOperation_4 rfl rfl ?_
  refine ab_imul X d_SC_addOperation_5 ?_
  refine ab_callV (as := [ab_I _]) X (fun h => by cases h) (s_SC_addWord u _ h) lk_SC_34 d_SC_addOperation_6 rfl rfl (by first | assumption | decide | (show _ < 124; omega) | (show _ < 61; omega) | (show _ < 20; omega)) ⟨by first | exact Nat.le_of_ble_eq_true rfl | (simp only [ab_rm]; omega), by first | exact Nat.le_of_ble_eq_true rfl | (simp only [ab_rm]; omega)⟩ ⟨by first | exact Nat.le_of_ble_eq_true rfl | (simp only [ab_rm]; omega), by first | exact Nat.le_of_ble_eq_true rfl | (simp only [ab_rm]; omega)⟩ (Nat.le_of_ble_eq_true rfl) (fun u6 r6 h6 => ?_)
  obtain ⟨q6, rfl⟩ := h6
  have P6 := P0.trans q6 (by decide)
  exact ab_retv X hr0 hlk d_SC_addOperation_9 ⟨P6, rfl⟩
abbrev b_SC_keepForm : ByteArray := prog_8_method_10_code
def y_SC_keepForm : MethodName := ⟨"PolicyForge$Script", "keepForm", "(LPolicyForge$Form;)V"⟩
theorem d_SC_keepForm_0 : decode b_SC_keepForm 0 = .ok (.aload_n 0, 1) := by decide +kernel
theorem d_SC_keepForm_1 : decode b_SC_keepForm 1 = .ok (.getfield 25, 3) := by decide +kernel
theorem d_SC_keepForm_4 : decode b_SC_keepForm 4 = .ok (.aload_n 0, 1) := by decide +kernel
theorem d_SC_keepForm_5 : decode b_SC_keepForm 5 = .ok (.getfield 17, 3) := by decide +kernel
theorem d_SC_keepForm_8 : decode b_SC_keepForm 8 = .ok (.arraylength, 1) := by decide +kernel
theorem d_SC_keepForm_9 : decode b_SC_keepForm 9 = .ok (.if_icmp .ge 23, 3) := by decide +kernel
theorem d_SC_keepForm_12 : decode b_SC_keepForm 12 = .ok (.aload_n 0, 1) := by decide +kernel
theorem d_SC_keepForm_13 : decode b_SC_keepForm 13 = .ok (.getfield 17, 3) := by decide +kernel
theorem d_SC_keepForm_16 : decode b_SC_keepForm 16 = .ok (.aload_n 0, 1) := by decide +kernel
theorem d_SC_keepForm_17 : decode b_SC_keepForm 17 = .ok (.getfield 25, 3) := by decide +kernel
theorem d_SC_keepForm_20 : decode b_SC_keepForm 20 = .ok (.aload_n 1, 1) := by decide +kernel
theorem d_SC_keepForm_21 : decode b_SC_keepForm 21 = .ok (.aastore, 1) := by decide +kernel
theorem d_SC_keepForm_22 : decode b_SC_keepForm 22 = .ok (.aload_n 0, 1) := by decide +kernel
theorem d_SC_keepForm_23 : decode b_SC_keepForm 23 = .ok (.dup, 1) := by decide +kernel
theorem d_SC_keepForm_24 : decode b_SC_keepForm 24 = .ok (.getfield 25, 3) := by decide +kernel
theorem d_SC_keepForm_27 : decode b_SC_keepForm 27 = .ok (.iconst 1, 1) := by decide +kernel
theorem d_SC_keepForm_28 : decode b_SC_keepForm 28 = .ok (.iadd, 1) := by decide +kernel
theorem d_SC_keepForm_29 : decode b_SC_keepForm 29 = .ok (.putfield 25, 3) := by decide +kernel
theorem d_SC_keepForm_32 : decode b_SC_keepForm 32 = .ok (.return_, 1) := by decide +kernel
theorem fl_SC_25 : ab_fl "PolicyForge$Script" 25 5 3 0 := ⟨rfl, R_SC, T_SC, 4, rfl, uw_SC, by decide, rfl, (ab_in 292 (by decide +kernel) (by decide +kernel))⟩
theorem fl_SC_17 : ab_fl "PolicyForge$Script" 17 5 1 1 := ⟨rfl, R_SC, T_SC, 4, rfl, uw_SC, by decide, rfl, (ab_in 287 (by decide +kernel) (by decide +kernel))⟩
set_option maxRecDepth 100000 in
set_option maxHeartbeats 1000000 in
theorem s_SC_keepForm (u : ab_S) (f : Nat) (h : CI u) (hf : f < 61) : ab_C false l D ca y_SC_keepForm b_SC_keepForm 2 none 0 ab_nQ u [ab_O 5 0, ab_O 3 f] (fun u' v => cP [5, 13, 14] u u' ∧ v = none) := by
  refine ab_C.of (by decide) (Nat.le_of_ble_eq_true rfl) ?_
  intro p e s m args below meth c ad X hZ hr0 hlk
  have P0 : cP [5, 13, 14] u u := cQ.rf h
  obtain ⟨-, n, hn, en, he⟩ := h.scr
  refine ab_aload_n X 0 d_SC_keepForm_0 rfl rfl ?_
  refine ab_gI X fl_SC_25 d_SC_keepForm_1 (by first | assumption | decide | (show _ < 124; omega) | (show _ < 61; omega) | (show _ < 20; omega)) (en) ?_
  refine ab_aload_n X 0 d_SC_keepForm_4 rfl rfl ?_
  refine ab_gR X fl_SC_17 d_SC_keepForm_5 (by first | assumption | decide | (show _ < 124; omega) | (show _ < 61; omega) | (show _ < 20; omega)) (P0.1.sc1) ?_
  refine ab_alen X ⟨by decide, _, fun _ => rfl⟩ d_SC_keepForm_8 (by first | assumption | decide | (show _ < 124; omega) | (show _ < 61; omega) | (show _ < 20; omega)) (rfl) ?_
  refine ab_icmp_ge X 32 d_SC_keepForm_9 rfl (fun h9 => ?_) (fun h9 => ?_)
  ·
    exact ab_retv X hr0 hlk d_SC_keepForm_32 ⟨P0, rfl⟩
  ·
    have hn1 : n < 38 := nI_lt_of h9 (by omega)
    refine ab_aload_n X 0 d_SC_keepForm_12 rfl rfl ?_
    refine ab_gR X fl_SC_17 d_SC_keepForm_13 (by first | assumption | decide | (show _ < 124; omega) | (show _ < 61; omega) | (show _ < 20; omega)) (P0.1.sc1) ?_
    refine ab_aload_n X 0 d_SC_keepForm_16 rfl rfl ?_
    refine ab_gI X fl_SC_25 d_SC_keepForm_17 (by first | assumption | decide | (show _ < 124; omega) | (show _ < 61; omega) | (show _ < 20; omega)) (en) ?_
    refine ab_aload_n X 1 d_SC_keepForm_20 rfl rfl ?_
    refine ab_aast X (n) ⟨rfl, rfl, _, rfl, fun _ => rfl⟩ d_SC_keepForm_21 (by first | assumption | decide | (show _ < 124; omega) | (show _ < 61; omega) | (show _ < 20; omega)) (by first | assumption | decide | (show _ < 124; omega) | (show _ < 61; omega) | (show _ < 20; omega)) (rfl) (hn1) (ab_ln_lt _ _) ?_
    refine ab_gen (fun u21 e21 => ?_)
    have P21 : cP [5, 13, 14] u u21 := by rw [e21]; exact P0.sa (by decide) hf
    refine ab_aload_n X 0 d_SC_keepForm_22 rfl rfl ?_
    refine ab_dup X d_SC_keepForm_23 rfl ?_
    refine ab_gI X fl_SC_25 d_SC_keepForm_24 (by first | assumption | decide | (show _ < 124; omega) | (show _ < 61; omega) | (show _ < 20; omega)) ((show _ = nI n by rw [e21]; exact en)) ?_
    refine ab_iconst (v := 1) X d_SC_keepForm_27 (by decide) ?_
    refine ab_iadd X d_SC_keepForm_28 ?_
    refine ab_top (nI_1 _) ?_
    refine ab_putI X fp_SC_25 d_SC_keepForm_29 (by first | assumption | decide | (show _ < 124; omega) | (show _ < 61; omega) | (show _ < 20; omega)) rfl rfl ?_
    refine ab_gen (fun u29 e29 => ?_)
    have P29 : cP [5, 13, 14] u u29 := by rw [e29]; exact P21.sf (by decide) (by omega) (fun j hj => by
        by_cases q : j = n
        · subst q; rw [e21]; exact ⟨f, hf, ab_up_s _ _ _ _ _⟩
        · obtain ⟨g', g1, g2⟩ := he j (by omega)
          refine ⟨g', g1, ?_⟩
          rw [e21]
          exact (ab_up_n _ _ (by omega)).trans g2)
    exact ab_retv X hr0 hlk d_SC_keepForm_32 ⟨P29, rfl⟩
abbrev b_SC_write : ByteArray := prog_8_method_3_code
def y_SC_write : MethodName := ⟨"PolicyForge$Script", "write", "(LPolicyForge$Form;I)V"⟩
theorem d_SC_write_0 : decode b_SC_write 0 = .ok (.iload_n 2, 1) := by decide +kernel
theorem d_SC_write_1 : decode b_SC_write 1 = .ok (.bipush 40, 2) := by decide +kernel
theorem d_SC_write_3 : decode b_SC_write 3 = .ok (.if_icmp .gt 15, 3) := by decide +kernel
theorem d_SC_write_6 : decode b_SC_write 6 = .ok (.aload_n 0, 1) := by decide +kernel
theorem d_SC_write_7 : decode b_SC_write 7 = .ok (.getfield 25, 3) := by decide +kernel
theorem d_SC_write_10 : decode b_SC_write 10 = .ok (.aload_n 0, 1) := by decide +kernel
theorem d_SC_write_11 : decode b_SC_write 11 = .ok (.getfield 17, 3) := by decide +kernel
theorem d_SC_write_14 : decode b_SC_write 14 = .ok (.arraylength, 1) := by decide +kernel
theorem d_SC_write_15 : decode b_SC_write 15 = .ok (.if_icmp .lt 4, 3) := by decide +kernel
theorem d_SC_write_18 : decode b_SC_write 18 = .ok (.return_, 1) := by decide +kernel
theorem d_SC_write_19 : decode b_SC_write 19 = .ok (.aload_n 1, 1) := by decide +kernel
theorem d_SC_write_20 : decode b_SC_write 20 = .ok (.getfield 28, 3) := by decide +kernel
theorem d_SC_write_23 : decode b_SC_write 23 = .ok (.tableswitch 97 1 8 #[45, 97, 56, 70, 79, 79, 88, 88], 45) := by decide +kernel
theorem d_SC_write_68 : decode b_SC_write 68 = .ok (.aload_n 0, 1) := by decide +kernel
theorem d_SC_write_69 : decode b_SC_write 69 = .ok (.aload_n 1, 1) := by decide +kernel
theorem d_SC_write_70 : decode b_SC_write 70 = .ok (.getfield 31, 3) := by decide +kernel
theorem d_SC_write_73 : decode b_SC_write 73 = .ok (.invokevirtual 34, 3) := by decide +kernel
theorem d_SC_write_76 : decode b_SC_write 76 = .ok (.goto 50, 3) := by decide +kernel
theorem d_SC_write_79 : decode b_SC_write 79 = .ok (.aload_n 0, 1) := by decide +kernel
theorem d_SC_write_80 : decode b_SC_write 80 = .ok (.aload_n 1, 1) := by decide +kernel
theorem d_SC_write_81 : decode b_SC_write 81 = .ok (.iload_n 2, 1) := by decide +kernel
theorem d_SC_write_82 : decode b_SC_write 82 = .ok (.invokevirtual 38, 3) := by decide +kernel
theorem d_SC_write_85 : decode b_SC_write 85 = .ok (.aload_n 0, 1) := by decide +kernel
theorem d_SC_write_86 : decode b_SC_write 86 = .ok (.iconst 5, 1) := by decide +kernel
theorem d_SC_write_87 : decode b_SC_write 87 = .ok (.invokevirtual 42, 3) := by decide +kernel
theorem d_SC_write_90 : decode b_SC_write 90 = .ok (.goto 36, 3) := by decide +kernel
theorem d_SC_write_93 : decode b_SC_write 93 = .ok (.aload_n 0, 1) := by decide +kernel
theorem d_SC_write_94 : decode b_SC_write 94 = .ok (.aload_n 1, 1) := by decide +kernel
theorem d_SC_write_95 : decode b_SC_write 95 = .ok (.iload_n 2, 1) := by decide +kernel
theorem d_SC_write_96 : decode b_SC_write 96 = .ok (.invokevirtual 45, 3) := by decide +kernel
theorem d_SC_write_99 : decode b_SC_write 99 = .ok (.goto 27, 3) := by decide +kernel
theorem d_SC_write_102 : decode b_SC_write 102 = .ok (.aload_n 0, 1) := by decide +kernel
theorem d_SC_write_103 : decode b_SC_write 103 = .ok (.aload_n 1, 1) := by decide +kernel
theorem d_SC_write_104 : decode b_SC_write 104 = .ok (.iload_n 2, 1) := by decide +kernel
theorem d_SC_write_105 : decode b_SC_write 105 = .ok (.invokevirtual 48, 3) := by decide +kernel
theorem d_SC_write_108 : decode b_SC_write 108 = .ok (.goto 18, 3) := by decide +kernel
theorem d_SC_write_111 : decode b_SC_write 111 = .ok (.aload_n 0, 1) := by decide +kernel
theorem d_SC_write_112 : decode b_SC_write 112 = .ok (.aload_n 1, 1) := by decide +kernel
theorem d_SC_write_113 : decode b_SC_write 113 = .ok (.iload_n 2, 1) := by decide +kernel
theorem d_SC_write_114 : decode b_SC_write 114 = .ok (.invokevirtual 51, 3) := by decide +kernel
theorem d_SC_write_117 : decode b_SC_write 117 = .ok (.goto 9, 3) := by decide +kernel
theorem d_SC_write_120 : decode b_SC_write 120 = .ok (.aload_n 0, 1) := by decide +kernel
theorem d_SC_write_121 : decode b_SC_write 121 = .ok (.aload_n 1, 1) := by decide +kernel
theorem d_SC_write_122 : decode b_SC_write 122 = .ok (.iload_n 2, 1) := by decide +kernel
theorem d_SC_write_123 : decode b_SC_write 123 = .ok (.invokevirtual 38, 3) := by decide +kernel
theorem d_SC_write_126 : decode b_SC_write 126 = .ok (.aload_n 0, 1) := by decide +kernel
theorem d_SC_write_127 : decode b_SC_write 127 = .ok (.aload_n 1, 1) := by decide +kernel
theorem d_SC_write_128 : decode b_SC_write 128 = .ok (.invokevirtual 54, 3) := by decide +kernel
theorem d_SC_write_131 : decode b_SC_write 131 = .ok (.return_, 1) := by decide +kernel
theorem fl_SC_28 : ab_fl "PolicyForge$Script" 28 3 4 0 := ⟨rfl, R_FM, T_FM, 10, rfl, uw_FM, by decide, rfl, (ab_in 179 (by decide +kernel) (by decide +kernel))⟩
theorem fl_SC_31 : ab_fl "PolicyForge$Script" 31 3 5 0 := ⟨rfl, R_FM, T_FM, 10, rfl, uw_FM, by decide, rfl, (ab_in 182 (by decide +kernel) (by decide +kernel))⟩
abbrev b_SC_writeRow : ByteArray := prog_8_method_4_code
def y_SC_writeRow : MethodName := ⟨"PolicyForge$Script", "writeRow", "(LPolicyForge$Form;I)V"⟩
theorem lk_SC_38 : ab_lk "PolicyForge$Script" 38 y_SC_writeRow b_SC_writeRow 4 none 2 5 := ⟨⟨rfl, T_SC, 4, rfl⟩, List.forall_mem_cons.mpr ⟨(ab_in 689 (by decide +kernel) (by decide +kernel)), List.forall_mem_cons.mpr ⟨(ab_in 691 (by decide +kernel) (by decide +kernel)), List.forall_mem_cons.mpr ⟨(ab_in 22 (by decide +kernel) (by decide +kernel)), List.forall_mem_cons.mpr ⟨(ab_in 97 (by decide +kernel) (by decide +kernel)), List.forall_mem_cons.mpr ⟨(ab_in 692 (by decide +kernel) (by decide +kernel)), fun _ h => absurd h List.not_mem_nil⟩⟩⟩⟩⟩, ⟨by decide +kernel, by decide +kernel, by decide +kernel⟩, by decide⟩
theorem lk_SC_42 : ab_lk "PolicyForge$Script" 42 y_SC_addOperation b_SC_addOperation 2 none 1 5 := ⟨⟨rfl, T_SC, 4, rfl⟩, List.forall_mem_cons.mpr ⟨(ab_in 694 (by decide +kernel) (by decide +kernel)), List.forall_mem_cons.mpr ⟨(ab_in 696 (by decide +kernel) (by decide +kernel)), List.forall_mem_cons.mpr ⟨(ab_in 23 (by decide +kernel) (by decide +kernel)), List.forall_mem_cons.mpr ⟨(ab_in 97 (by decide +kernel) (by decide +kernel)), List.forall_mem_cons.mpr ⟨(ab_in 697 (by decide +kernel) (by decide +kernel)), fun _ h => absurd h List.not_mem_nil⟩⟩⟩⟩⟩, ⟨by decide +kernel, by decide +kernel, by decide +kernel⟩, by decide⟩
abbrev b_SC_writeAside : ByteArray := prog_8_method_5_code
def y_SC_writeAside : MethodName := ⟨"PolicyForge$Script", "writeAside", "(LPolicyForge$Form;I)V"⟩
theorem lk_SC_45 : ab_lk "PolicyForge$Script" 45 y_SC_writeAside b_SC_writeAside 4 none 2 5 := ⟨⟨rfl, T_SC, 4, rfl⟩, List.forall_mem_cons.mpr ⟨(ab_in 698 (by decide +kernel) (by decide +kernel)), List.forall_mem_cons.mpr ⟨(ab_in 700 (by decide +kernel) (by decide +kernel)), List.forall_mem_cons.mpr ⟨(ab_in 24 (by decide +kernel) (by decide +kernel)), List.forall_mem_cons.mpr ⟨(ab_in 97 (by decide +kernel) (by decide +kernel)), List.forall_mem_cons.mpr ⟨(ab_in 701 (by decide +kernel) (by decide +kernel)), fun _ h => absurd h List.not_mem_nil⟩⟩⟩⟩⟩, ⟨by decide +kernel, by decide +kernel, by decide +kernel⟩, by decide⟩
abbrev b_SC_writeIf : ByteArray := prog_8_method_6_code
def y_SC_writeIf : MethodName := ⟨"PolicyForge$Script", "writeIf", "(LPolicyForge$Form;I)V"⟩
theorem lk_SC_48 : ab_lk "PolicyForge$Script" 48 y_SC_writeIf b_SC_writeIf 3 none 2 5 := ⟨⟨rfl, T_SC, 4, rfl⟩, List.forall_mem_cons.mpr ⟨(ab_in 702 (by decide +kernel) (by decide +kernel)), List.forall_mem_cons.mpr ⟨(ab_in 704 (by decide +kernel) (by decide +kernel)), List.forall_mem_cons.mpr ⟨(ab_in 25 (by decide +kernel) (by decide +kernel)), List.forall_mem_cons.mpr ⟨(ab_in 97 (by decide +kernel) (by decide +kernel)), List.forall_mem_cons.mpr ⟨(ab_in 705 (by decide +kernel) (by decide +kernel)), fun _ h => absurd h List.not_mem_nil⟩⟩⟩⟩⟩, ⟨by decide +kernel, by decide +kernel, by decide +kernel⟩, by decide⟩
abbrev b_SC_writeUnless : ByteArray := prog_8_method_7_code
def y_SC_writeUnless : MethodName := ⟨"PolicyForge$Script", "writeUnless", "(LPolicyForge$Form;I)V"⟩
theorem lk_SC_51 : ab_lk "PolicyForge$Script" 51 y_SC_writeUnless b_SC_writeUnless 3 none 2 5 := ⟨⟨rfl, T_SC, 4, rfl⟩, List.forall_mem_cons.mpr ⟨(ab_in 706 (by decide +kernel) (by decide +kernel)), List.forall_mem_cons.mpr ⟨(ab_in 708 (by decide +kernel) (by decide +kernel)), List.forall_mem_cons.mpr ⟨(ab_in 26 (by decide +kernel) (by decide +kernel)), List.forall_mem_cons.mpr ⟨(ab_in 97 (by decide +kernel) (by decide +kernel)), List.forall_mem_cons.mpr ⟨(ab_in 709 (by decide +kernel) (by decide +kernel)), fun _ h => absurd h List.not_mem_nil⟩⟩⟩⟩⟩, ⟨by decide +kernel, by decide +kernel, by decide +kernel⟩, by decide⟩
theorem lk_SC_54 : ab_lk "PolicyForge$Script" 54 y_SC_keepForm b_SC_keepForm 2 none 1 5 := ⟨⟨rfl, T_SC, 4, rfl⟩, List.forall_mem_cons.mpr ⟨(ab_in 710 (by decide +kernel) (by decide +kernel)), List.forall_mem_cons.mpr ⟨(ab_in 712 (by decide +kernel) (by decide +kernel)), List.forall_mem_cons.mpr ⟨(ab_in 27 (by decide +kernel) (by decide +kernel)), List.forall_mem_cons.mpr ⟨(ab_in 97 (by decide +kernel) (by decide +kernel)), List.forall_mem_cons.mpr ⟨(ab_in 713 (by decide +kernel) (by decide +kernel)), fun _ h => absurd h List.not_mem_nil⟩⟩⟩⟩⟩, ⟨by decide +kernel, by decide +kernel, by decide +kernel⟩, by decide⟩
theorem d_SC_writeRow_0 : decode b_SC_writeRow 0 = .ok (.iconst 0, 1) := by decide +kernel
theorem d_SC_writeRow_1 : decode b_SC_writeRow 1 = .ok (.istore_n 3, 1) := by decide +kernel
theorem d_SC_writeRow_2 : decode b_SC_writeRow 2 = .ok (.iload_n 3, 1) := by decide +kernel
theorem d_SC_writeRow_3 : decode b_SC_writeRow 3 = .ok (.aload_n 1, 1) := by decide +kernel
theorem d_SC_writeRow_4 : decode b_SC_writeRow 4 = .ok (.getfield 58, 3) := by decide +kernel
theorem d_SC_writeRow_7 : decode b_SC_writeRow 7 = .ok (.if_icmp .ge 22, 3) := by decide +kernel
theorem d_SC_writeRow_10 : decode b_SC_writeRow 10 = .ok (.aload_n 0, 1) := by decide +kernel
theorem d_SC_writeRow_11 : decode b_SC_writeRow 11 = .ok (.aload_n 1, 1) := by decide +kernel
theorem d_SC_writeRow_12 : decode b_SC_writeRow 12 = .ok (.getfield 59, 3) := by decide +kernel
theorem d_SC_writeRow_15 : decode b_SC_writeRow 15 = .ok (.iload_n 3, 1) := by decide +kernel
theorem d_SC_writeRow_16 : decode b_SC_writeRow 16 = .ok (.aaload, 1) := by decide +kernel
theorem d_SC_writeRow_17 : decode b_SC_writeRow 17 = .ok (.iload_n 2, 1) := by decide +kernel
theorem d_SC_writeRow_18 : decode b_SC_writeRow 18 = .ok (.iconst 1, 1) := by decide +kernel
theorem d_SC_writeRow_19 : decode b_SC_writeRow 19 = .ok (.iadd, 1) := by decide +kernel
theorem d_SC_writeRow_20 : decode b_SC_writeRow 20 = .ok (.invokevirtual 62, 3) := by decide +kernel
theorem d_SC_writeRow_23 : decode b_SC_writeRow 23 = .ok (.iinc 3 1, 3) := by decide +kernel
theorem d_SC_writeRow_26 : decode b_SC_writeRow 26 = .ok (.goto (-24), 3) := by decide +kernel
theorem d_SC_writeRow_29 : decode b_SC_writeRow 29 = .ok (.return_, 1) := by decide +kernel
theorem fl_SC_58 : ab_fl "PolicyForge$Script" 58 3 7 0 := ⟨rfl, R_FM, T_FM, 10, rfl, uw_FM, by decide, rfl, (ab_in 186 (by decide +kernel) (by decide +kernel))⟩
theorem fl_SC_59 : ab_fl "PolicyForge$Script" 59 3 0 1 := ⟨rfl, R_FM, T_FM, 10, rfl, uw_FM, by decide, rfl, (ab_in 173 (by decide +kernel) (by decide +kernel))⟩
theorem lk_SC_62 : ab_lk "PolicyForge$Script" 62 y_SC_write b_SC_write 3 none 2 5 := ⟨⟨rfl, T_SC, 4, rfl⟩, List.forall_mem_cons.mpr ⟨(ab_in 693 (by decide +kernel) (by decide +kernel)), List.forall_mem_cons.mpr ⟨(ab_in 682 (by decide +kernel) (by decide +kernel)), List.forall_mem_cons.mpr ⟨(ab_in 683 (by decide +kernel) (by decide +kernel)), List.forall_mem_cons.mpr ⟨(ab_in 97 (by decide +kernel) (by decide +kernel)), List.forall_mem_cons.mpr ⟨(ab_in 684 (by decide +kernel) (by decide +kernel)), fun _ h => absurd h List.not_mem_nil⟩⟩⟩⟩⟩, ⟨by decide +kernel, by decide +kernel, by decide +kernel⟩, by decide⟩
set_option maxRecDepth 100000 in
set_option maxHeartbeats 1000000 in
theorem s_SC_writeRow (d : Nat) (x : Int32) (W : ∀ (u : ab_S) (f : Nat), CI u → f < 61 → ab_C false l D ca y_SC_write b_SC_write 3 none d ab_nQ u [ab_O 5 0, ab_O 3 f, ab_I (x + 1)] (fun u' v => cP [5, 13, 14] u u' ∧ v = none)) (u : ab_S) (f : Nat) (h : CI u) (hf : f < 61) (hd : 2 ≤ d) : ab_C false l D ca y_SC_writeRow b_SC_writeRow 4 none (d + 1) ab_nQ u [ab_O 5 0, ab_O 3 f, ab_I x] (fun u' v => cP [5, 13, 14] u u' ∧ v = none) := by
  refine ab_C.of (by decide) (Nat.le_of_ble_eq_true rfl) ?_
  intro p e s m args below meth c ad X hZ hr0 hlk
  have P0 : cP [5, 13, 14] u u := cQ.rf h
  obtain ⟨n, hn, en, he, -⟩ := h.form hf
  have loop : ∀ (k j : Nat) (u1 : ab_S), k + j = 4 → cP [5, 13, 14] u u1 → ab_J p l e (ab_rm (d + 1) 0 0) s m args below meth c (MQ below (ab_Q D ca ad ab_nQ s.heap.size (fun u' v => cP [5, 13, 14] u u' ∧ v = none)) args s 0 0 (ab_A ad ab_nQ s.heap.size)) D ca (ab_A ad ab_nQ s.heap.size) s.heap 4 0 0 ad ab_nQ u1 2 [(3, ab_I (nI j)), (0, ab_O 5 0), (1, ab_O 3 f), (2, ab_I x)] [] := by
    intro k
    induction k with
    | zero =>
      intro j u1 hj P1
      refine ab_iload_n X 0 d_SC_writeRow_2 rfl rfl ?_
      refine ab_aload_n X 2 d_SC_writeRow_3 rfl rfl ?_
      refine ab_gI X fl_SC_58 d_SC_writeRow_4 (by first | assumption | decide | (show _ < 124; omega) | (show _ < 61; omega) | (show _ < 20; omega)) (P1.ii (by decide) en) ?_
      refine ab_icmp_ge X 29 d_SC_writeRow_7 rfl (fun _ => ?_) (fun hb => absurd ((nI_le (by omega) (by omega))) hb)
      exact ab_retv X hr0 hlk d_SC_writeRow_29 ⟨P1, rfl⟩
    | succ k ih =>
      intro j u1 hj P1
      refine ab_iload_n X 0 d_SC_writeRow_2 rfl rfl ?_
      refine ab_aload_n X 2 d_SC_writeRow_3 rfl rfl ?_
      refine ab_gI X fl_SC_58 d_SC_writeRow_4 (by first | assumption | decide | (show _ < 124; omega) | (show _ < 61; omega) | (show _ < 20; omega)) (P1.ii (by decide) en) ?_
      refine ab_icmp_ge X 29 d_SC_writeRow_7 rfl (fun h7 => ?_) (fun h7 => ?_)
      ·
        exact ab_retv X hr0 hlk d_SC_writeRow_29 ⟨P1, rfl⟩
      ·
        have hjn := nI_lt_of h7 (by omega)
        obtain ⟨g, hg, eg⟩ := he j hjn
        refine ab_aload_n X 1 d_SC_writeRow_10 rfl rfl ?_
        refine ab_aload_n X 2 d_SC_writeRow_11 rfl rfl ?_
        refine ab_gR X fl_SC_59 d_SC_writeRow_12 (by first | assumption | decide | (show _ < 124; omega) | (show _ < 61; omega) | (show _ < 20; omega)) (P1.1.fm0 (by first | assumption | decide | omega)) ?_
        refine ab_iload_n X 0 d_SC_writeRow_15 rfl rfl ?_
        refine ab_aalv X (j) ⟨rfl, _, fun _ => rfl⟩ d_SC_writeRow_16 (by first | assumption | decide | (show _ < 124; omega) | (show _ < 61; omega) | (show _ < 20; omega)) (rfl) (show j < 4 by omega) (ab_ln_lt _ _) (P1.rr (by decide) eg) ?_
        refine ab_iload_n X 3 d_SC_writeRow_17 rfl rfl ?_
        refine ab_iconst (v := 1) X d_SC_writeRow_18 (by decide) ?_
        refine ab_iadd X d_SC_writeRow_19 ?_
        refine ab_callV (as := [ab_O 3 g, ab_I (x + 1)]) X (fun h => by cases h) (W u1 g P1.1 hg) lk_SC_62 d_SC_writeRow_20 rfl rfl (by first | assumption | decide | (show _ < 124; omega) | (show _ < 61; omega) | (show _ < 20; omega)) ⟨by first | exact Nat.le_of_ble_eq_true rfl | (simp only [ab_rm]; omega), by first | exact Nat.le_of_ble_eq_true rfl | (simp only [ab_rm]; omega)⟩ ⟨by first | exact Nat.le_of_ble_eq_true rfl | (simp only [ab_rm]; omega), by first | exact Nat.le_of_ble_eq_true rfl | (simp only [ab_rm]; omega)⟩ (Nat.le_of_ble_eq_true rfl) (fun u20 r20 h20 => ?_)
        obtain ⟨q20, rfl⟩ := h20
        have P20 := P1.trans q20 (by decide)
        refine ab_iinc3 X 0 1 2 3 d_SC_writeRow_23 rfl (by decide) rfl rfl rfl rfl rfl rfl ?_
        refine ab_goto X 2 d_SC_writeRow_26 rfl ?_
        rw [show nI j + Int32.ofInt 1 = nI (j + 1) from nI_1 j]
        exact ih (j + 1) _ (by omega) P20
  refine ab_iconst (v := 0) X d_SC_writeRow_0 (by decide) ?_
  refine ab_istore_n3 X 0 1 2 d_SC_writeRow_1 rfl (by decide) rfl rfl rfl rfl rfl rfl ?_
  exact loop 4 0 _ rfl P0
theorem d_SC_writeAside_0 : decode b_SC_writeAside 0 = .ok (.iconst 0, 1) := by decide +kernel
theorem d_SC_writeAside_1 : decode b_SC_writeAside 1 = .ok (.istore_n 3, 1) := by decide +kernel
theorem d_SC_writeAside_2 : decode b_SC_writeAside 2 = .ok (.iload_n 3, 1) := by decide +kernel
theorem d_SC_writeAside_3 : decode b_SC_writeAside 3 = .ok (.aload_n 1, 1) := by decide +kernel
theorem d_SC_writeAside_4 : decode b_SC_writeAside 4 = .ok (.getfield 58, 3) := by decide +kernel
theorem d_SC_writeAside_7 : decode b_SC_writeAside 7 = .ok (.if_icmp .ge 50, 3) := by decide +kernel
theorem d_SC_writeAside_10 : decode b_SC_writeAside 10 = .ok (.iload_n 3, 1) := by decide +kernel
theorem d_SC_writeAside_11 : decode b_SC_writeAside 11 = .ok (.ifCond .le 9, 3) := by decide +kernel
theorem d_SC_writeAside_14 : decode b_SC_writeAside 14 = .ok (.aload_n 0, 1) := by decide +kernel
theorem d_SC_writeAside_15 : decode b_SC_writeAside 15 = .ok (.bipush 10, 2) := by decide +kernel
theorem d_SC_writeAside_17 : decode b_SC_writeAside 17 = .ok (.invokevirtual 42, 3) := by decide +kernel
theorem d_SC_writeAside_20 : decode b_SC_writeAside 20 = .ok (.aload_n 0, 1) := by decide +kernel
theorem d_SC_writeAside_21 : decode b_SC_writeAside 21 = .ok (.aload_n 1, 1) := by decide +kernel
theorem d_SC_writeAside_22 : decode b_SC_writeAside 22 = .ok (.getfield 59, 3) := by decide +kernel
theorem d_SC_writeAside_25 : decode b_SC_writeAside 25 = .ok (.iload_n 3, 1) := by decide +kernel
theorem d_SC_writeAside_26 : decode b_SC_writeAside 26 = .ok (.aaload, 1) := by decide +kernel
theorem d_SC_writeAside_27 : decode b_SC_writeAside 27 = .ok (.iload_n 2, 1) := by decide +kernel
theorem d_SC_writeAside_28 : decode b_SC_writeAside 28 = .ok (.iconst 1, 1) := by decide +kernel
theorem d_SC_writeAside_29 : decode b_SC_writeAside 29 = .ok (.iadd, 1) := by decide +kernel
theorem d_SC_writeAside_30 : decode b_SC_writeAside 30 = .ok (.invokevirtual 62, 3) := by decide +kernel
theorem d_SC_writeAside_33 : decode b_SC_writeAside 33 = .ok (.iload_n 3, 1) := by decide +kernel
theorem d_SC_writeAside_34 : decode b_SC_writeAside 34 = .ok (.ifCond .le 17, 3) := by decide +kernel
theorem d_SC_writeAside_37 : decode b_SC_writeAside 37 = .ok (.aload_n 0, 1) := by decide +kernel
theorem d_SC_writeAside_38 : decode b_SC_writeAside 38 = .ok (.bipush 11, 2) := by decide +kernel
theorem d_SC_writeAside_40 : decode b_SC_writeAside 40 = .ok (.invokevirtual 42, 3) := by decide +kernel
theorem d_SC_writeAside_43 : decode b_SC_writeAside 43 = .ok (.aload_n 0, 1) := by decide +kernel
theorem d_SC_writeAside_44 : decode b_SC_writeAside 44 = .ok (.aload_n 1, 1) := by decide +kernel
theorem d_SC_writeAside_45 : decode b_SC_writeAside 45 = .ok (.getfield 31, 3) := by decide +kernel
theorem d_SC_writeAside_48 : decode b_SC_writeAside 48 = .ok (.invokevirtual 42, 3) := by decide +kernel
theorem d_SC_writeAside_51 : decode b_SC_writeAside 51 = .ok (.iinc 3 1, 3) := by decide +kernel
theorem d_SC_writeAside_54 : decode b_SC_writeAside 54 = .ok (.goto (-52), 3) := by decide +kernel
theorem d_SC_writeAside_57 : decode b_SC_writeAside 57 = .ok (.aload_n 1, 1) := by decide +kernel
theorem d_SC_writeAside_58 : decode b_SC_writeAside 58 = .ok (.getfield 31, 3) := by decide +kernel
theorem d_SC_writeAside_61 : decode b_SC_writeAside 61 = .ok (.bipush 8, 2) := by decide +kernel
theorem d_SC_writeAside_63 : decode b_SC_writeAside 63 = .ok (.if_icmp .ne 15, 3) := by decide +kernel
theorem d_SC_writeAside_66 : decode b_SC_writeAside 66 = .ok (.aload_n 0, 1) := by decide +kernel
theorem d_SC_writeAside_67 : decode b_SC_writeAside 67 = .ok (.sipush 9000, 3) := by decide +kernel
theorem d_SC_writeAside_70 : decode b_SC_writeAside 70 = .ok (.aload_n 1, 1) := by decide +kernel
theorem d_SC_writeAside_71 : decode b_SC_writeAside 71 = .ok (.getfield 65, 3) := by decide +kernel
theorem d_SC_writeAside_74 : decode b_SC_writeAside 74 = .ok (.iadd, 1) := by decide +kernel
theorem d_SC_writeAside_75 : decode b_SC_writeAside 75 = .ok (.invokevirtual 34, 3) := by decide +kernel
theorem d_SC_writeAside_78 : decode b_SC_writeAside 78 = .ok (.return_, 1) := by decide +kernel
theorem fl_SC_65 : ab_fl "PolicyForge$Script" 65 3 6 0 := ⟨rfl, R_FM, T_FM, 10, rfl, uw_FM, by decide, rfl, (ab_in 184 (by decide +kernel) (by decide +kernel))⟩
set_option maxRecDepth 100000 in
set_option maxHeartbeats 1000000 in
theorem s_SC_writeAside (d : Nat) (x : Int32) (W : ∀ (u : ab_S) (f : Nat), CI u → f < 61 → ab_C false l D ca y_SC_write b_SC_write 3 none d ab_nQ u [ab_O 5 0, ab_O 3 f, ab_I (x + 1)] (fun u' v => cP [5, 13, 14] u u' ∧ v = none)) (u : ab_S) (f : Nat) (h : CI u) (hf : f < 61) (hd : 2 ≤ d) : ab_C false l D ca y_SC_writeAside b_SC_writeAside 4 none (d + 1) ab_nQ u [ab_O 5 0, ab_O 3 f, ab_I x] (fun u' v => cP [5, 13, 14] u u' ∧ v = none) := by
  refine ab_C.of (by decide) (Nat.le_of_ble_eq_true rfl) ?_
  intro p e s m args below meth c ad X hZ hr0 hlk
  have P0 : cP [5, 13, 14] u u := cQ.rf h
  obtain ⟨n, hn, en, he, -⟩ := h.form hf
  have loop : ∀ (k j : Nat) (u1 : ab_S), k + j = 4 → cP [5, 13, 14] u u1 → ab_J p l e (ab_rm (d + 1) 0 0) s m args below meth c (MQ below (ab_Q D ca ad ab_nQ s.heap.size (fun u' v => cP [5, 13, 14] u u' ∧ v = none)) args s 0 0 (ab_A ad ab_nQ s.heap.size)) D ca (ab_A ad ab_nQ s.heap.size) s.heap 4 0 0 ad ab_nQ u1 2 [(3, ab_I (nI j)), (0, ab_O 5 0), (1, ab_O 3 f), (2, ab_I x)] [] := by
    intro k
    induction k with
    | zero =>
      intro j u1 hj P1
      refine ab_iload_n X 0 d_SC_writeAside_2 rfl rfl ?_
      refine ab_aload_n X 2 d_SC_writeAside_3 rfl rfl ?_
      refine ab_gI X fl_SC_58 d_SC_writeAside_4 (by first | assumption | decide | (show _ < 124; omega) | (show _ < 61; omega) | (show _ < 20; omega)) (P1.ii (by decide) en) ?_
      refine ab_icmp_ge X 57 d_SC_writeAside_7 rfl (fun _ => ?_) (fun hb => absurd ((nI_le (by omega) (by omega))) hb)
      refine ab_aload_n X 2 d_SC_writeAside_57 rfl rfl ?_
      refine ab_gI X fl_SC_31 d_SC_writeAside_58 (by first | assumption | decide | (show _ < 124; omega) | (show _ < 61; omega) | (show _ < 20; omega)) (rfl) ?_
      refine ab_bipush (v := 8) X d_SC_writeAside_61 (by decide) ?_
      refine ab_icmp_ne X 78 d_SC_writeAside_63 rfl (fun h63 => ?_) (fun h63 => ?_)
      ·
        exact ab_retv X hr0 hlk d_SC_writeAside_78 ⟨P1, rfl⟩
      ·
        refine ab_aload_n X 1 d_SC_writeAside_66 rfl rfl ?_
        refine ab_sipush (v := 9000) X d_SC_writeAside_67 (by decide) ?_
        refine ab_aload_n X 2 d_SC_writeAside_70 rfl rfl ?_
        refine ab_gI X fl_SC_65 d_SC_writeAside_71 (by first | assumption | decide | (show _ < 124; omega) | (show _ < 61; omega) | (show _ < 20; omega)) (rfl) ?_
        refine ab_iadd X d_SC_writeAside_74 ?_
        refine ab_callV (as := [ab_I _]) X (fun h => by cases h) (s_SC_addWord u1 _ P1.1) lk_SC_34 d_SC_writeAside_75 rfl rfl (by first | assumption | decide | (show _ < 124; omega) | (show _ < 61; omega) | (show _ < 20; omega)) ⟨by first | exact Nat.le_of_ble_eq_true rfl | (simp only [ab_rm]; omega), by first | exact Nat.le_of_ble_eq_true rfl | (simp only [ab_rm]; omega)⟩ ⟨by first | exact Nat.le_of_ble_eq_true rfl | (simp only [ab_rm]; omega), by first | exact Nat.le_of_ble_eq_true rfl | (simp only [ab_rm]; omega)⟩ (Nat.le_of_ble_eq_true rfl) (fun u75 r75 h75 => ?_)
        obtain ⟨q75, rfl⟩ := h75
        have P75 := P1.trans q75 (by decide)
        exact ab_retv X hr0 hlk d_SC_writeAside_78 ⟨P75, rfl⟩
    | succ k ih =>
      intro j u1 hj P1
      refine ab_iload_n X 0 d_SC_writeAside_2 rfl rfl ?_
      refine ab_aload_n X 2 d_SC_writeAside_3 rfl rfl ?_
      refine ab_gI X fl_SC_58 d_SC_writeAside_4 (by first | assumption | decide | (show _ < 124; omega) | (show _ < 61; omega) | (show _ < 20; omega)) (P1.ii (by decide) en) ?_
      refine ab_icmp_ge X 57 d_SC_writeAside_7 rfl (fun h7 => ?_) (fun h7 => ?_)
      ·
        refine ab_aload_n X 2 d_SC_writeAside_57 rfl rfl ?_
        refine ab_gI X fl_SC_31 d_SC_writeAside_58 (by first | assumption | decide | (show _ < 124; omega) | (show _ < 61; omega) | (show _ < 20; omega)) (rfl) ?_
        refine ab_bipush (v := 8) X d_SC_writeAside_61 (by decide) ?_
        refine ab_icmp_ne X 78 d_SC_writeAside_63 rfl (fun h63 => ?_) (fun h63 => ?_)
        ·
          exact ab_retv X hr0 hlk d_SC_writeAside_78 ⟨P1, rfl⟩
        ·
          refine ab_aload_n X 1 d_SC_writeAside_66 rfl rfl ?_
          refine ab_sipush (v := 9000) X d_SC_writeAside_67 (by decide) ?_
          refine ab_aload_n X 2 d_SC_writeAside_70 rfl rfl ?_
          refine ab_gI X fl_SC_65 d_SC_writeAside_71 (by first | assumption | decide | (show _ < 124; omega) | (show _ < 61; omega) | (show _ < 20; omega)) (rfl) ?_
          refine ab_iadd X d_SC_writeAside_74 ?_
          refine ab_callV (as := [ab_I _]) X (fun h => by cases h) (s_SC_addWord u1 _ P1.1) lk_SC_34 d_SC_writeAside_75 rfl rfl (by first | assumption | decide | (show _ < 124; omega) | (show _ < 61; omega) | (show _ < 20; omega)) ⟨by first | exact Nat.le_of_ble_eq_true rfl | (simp only [ab_rm]; omega), by first | exact Nat.le_of_ble_eq_true rfl | (simp only [ab_rm]; omega)⟩ ⟨by first | exact Nat.le_of_ble_eq_true rfl | (simp only [ab_rm]; omega), by first | exact Nat.le_of_ble_eq_true rfl | (simp only [ab_rm]; omega)⟩ (Nat.le_of_ble_eq_true rfl) (fun u75 r75 h75 => ?_)
          obtain ⟨q75, rfl⟩ := h75
          have P75 := P1.trans q75 (by decide)
          exact ab_retv X hr0 hlk d_SC_writeAside_78 ⟨P75, rfl⟩
      ·
        have hjn := nI_lt_of h7 (by omega)
        obtain ⟨g, hg, eg⟩ := he j hjn
        refine ab_iload_n X 0 d_SC_writeAside_10 rfl rfl ?_
        refine ab_if_le X 20 d_SC_writeAside_11 rfl (fun h11 => ?_) (fun h11 => ?_)
        ·
          refine ab_aload_n X 1 d_SC_writeAside_20 rfl rfl ?_
          refine ab_aload_n X 2 d_SC_writeAside_21 rfl rfl ?_
          refine ab_gR X fl_SC_59 d_SC_writeAside_22 (by first | assumption | decide | (show _ < 124; omega) | (show _ < 61; omega) | (show _ < 20; omega)) (P1.1.fm0 (by first | assumption | decide | omega)) ?_
          refine ab_iload_n X 0 d_SC_writeAside_25 rfl rfl ?_
          refine ab_aalv X (j) ⟨rfl, _, fun _ => rfl⟩ d_SC_writeAside_26 (by first | assumption | decide | (show _ < 124; omega) | (show _ < 61; omega) | (show _ < 20; omega)) (rfl) (show j < 4 by omega) (ab_ln_lt _ _) (P1.rr (by decide) eg) ?_
          refine ab_iload_n X 3 d_SC_writeAside_27 rfl rfl ?_
          refine ab_iconst (v := 1) X d_SC_writeAside_28 (by decide) ?_
          refine ab_iadd X d_SC_writeAside_29 ?_
          refine ab_callV (as := [ab_O 3 g, ab_I (x + 1)]) X (fun h => by cases h) (W u1 g P1.1 hg) lk_SC_62 d_SC_writeAside_30 rfl rfl (by first | assumption | decide | (show _ < 124; omega) | (show _ < 61; omega) | (show _ < 20; omega)) ⟨by first | exact Nat.le_of_ble_eq_true rfl | (simp only [ab_rm]; omega), by first | exact Nat.le_of_ble_eq_true rfl | (simp only [ab_rm]; omega)⟩ ⟨by first | exact Nat.le_of_ble_eq_true rfl | (simp only [ab_rm]; omega), by first | exact Nat.le_of_ble_eq_true rfl | (simp only [ab_rm]; omega)⟩ (Nat.le_of_ble_eq_true rfl) (fun u30 r30 h30 => ?_)
          obtain ⟨q30, rfl⟩ := h30
          have P30 := P1.trans q30 (by decide)
          refine ab_iload_n X 0 d_SC_writeAside_33 rfl rfl ?_
          refine ab_if_le X 51 d_SC_writeAside_34 rfl (fun h34 => ?_) (fun h34 => ?_)
          ·
            refine ab_iinc3 X 0 1 2 3 d_SC_writeAside_51 rfl (by decide) rfl rfl rfl rfl rfl rfl ?_
            refine ab_goto X 2 d_SC_writeAside_54 rfl ?_
            rw [show nI j + Int32.ofInt 1 = nI (j + 1) from nI_1 j]
            exact ih (j + 1) _ (by omega) P30
          ·
            refine ab_aload_n X 1 d_SC_writeAside_37 rfl rfl ?_
            refine ab_bipush (v := 11) X d_SC_writeAside_38 (by decide) ?_
            refine ab_callV (as := [ab_I 11]) X (fun h => by cases h) (s_SC_addOperation u30 11 P30.1) lk_SC_42 d_SC_writeAside_40 rfl rfl (by first | assumption | decide | (show _ < 124; omega) | (show _ < 61; omega) | (show _ < 20; omega)) ⟨by first | exact Nat.le_of_ble_eq_true rfl | (simp only [ab_rm]; omega), by first | exact Nat.le_of_ble_eq_true rfl | (simp only [ab_rm]; omega)⟩ ⟨by first | exact Nat.le_of_ble_eq_true rfl | (simp only [ab_rm]; omega), by first | exact Nat.le_of_ble_eq_true rfl | (simp only [ab_rm]; omega)⟩ (Nat.le_of_ble_eq_true rfl) (fun u40 r40 h40 => ?_)
            obtain ⟨q40, rfl⟩ := h40
            have P40 := P30.trans q40 (by decide)
            refine ab_aload_n X 1 d_SC_writeAside_43 rfl rfl ?_
            refine ab_aload_n X 2 d_SC_writeAside_44 rfl rfl ?_
            refine ab_gI X fl_SC_31 d_SC_writeAside_45 (by first | assumption | decide | (show _ < 124; omega) | (show _ < 61; omega) | (show _ < 20; omega)) (rfl) ?_
            refine ab_callV (as := [ab_I _]) X (fun h => by cases h) (s_SC_addOperation u40 _ P40.1) lk_SC_42 d_SC_writeAside_48 rfl rfl (by first | assumption | decide | (show _ < 124; omega) | (show _ < 61; omega) | (show _ < 20; omega)) ⟨by first | exact Nat.le_of_ble_eq_true rfl | (simp only [ab_rm]; omega), by first | exact Nat.le_of_ble_eq_true rfl | (simp only [ab_rm]; omega)⟩ ⟨by first | exact Nat.le_of_ble_eq_true rfl | (simp only [ab_rm]; omega), by first | exact Nat.le_of_ble_eq_true rfl | (simp only [ab_rm]; omega)⟩ (Nat.le_of_ble_eq_true rfl) (fun u48 r48 h48 => ?_)
            obtain ⟨q48, rfl⟩ := h48
            have P48 := P40.trans q48 (by decide)
            refine ab_iinc3 X 0 1 2 3 d_SC_writeAside_51 rfl (by decide) rfl rfl rfl rfl rfl rfl ?_
            refine ab_goto X 2 d_SC_writeAside_54 rfl ?_
            rw [show nI j + Int32.ofInt 1 = nI (j + 1) from nI_1 j]
            exact ih (j + 1) _ (by omega) P48
        ·
          refine ab_aload_n X 1 d_SC_writeAside_14 rfl rfl ?_
          refine ab_bipush (v := 10) X d_SC_writeAside_15 (by decide) ?_
          refine ab_callV (as := [ab_I 10]) X (fun h => by cases h) (s_SC_addOperation u1 10 P1.1) lk_SC_42 d_SC_writeAside_17 rfl rfl (by first | assumption | decide | (show _ < 124; omega) | (show _ < 61; omega) | (show _ < 20; omega)) ⟨by first | exact Nat.le_of_ble_eq_true rfl | (simp only [ab_rm]; omega), by first | exact Nat.le_of_ble_eq_true rfl | (simp only [ab_rm]; omega)⟩ ⟨by first | exact Nat.le_of_ble_eq_true rfl | (simp only [ab_rm]; omega), by first | exact Nat.le_of_ble_eq_true rfl | (simp only [ab_rm]; omega)⟩ (Nat.le_of_ble_eq_true rfl) (fun u17 r17 h17 => ?_)
          obtain ⟨q17, rfl⟩ := h17
          have P17 := P1.trans q17 (by decide)
          refine ab_aload_n X 1 d_SC_writeAside_20 rfl rfl ?_
          refine ab_aload_n X 2 d_SC_writeAside_21 rfl rfl ?_
          refine ab_gR X fl_SC_59 d_SC_writeAside_22 (by first | assumption | decide | (show _ < 124; omega) | (show _ < 61; omega) | (show _ < 20; omega)) (P17.1.fm0 (by first | assumption | decide | omega)) ?_
          refine ab_iload_n X 0 d_SC_writeAside_25 rfl rfl ?_
          refine ab_aalv X (j) ⟨rfl, _, fun _ => rfl⟩ d_SC_writeAside_26 (by first | assumption | decide | (show _ < 124; omega) | (show _ < 61; omega) | (show _ < 20; omega)) (rfl) (show j < 4 by omega) (ab_ln_lt _ _) (P17.rr (by decide) eg) ?_
          refine ab_iload_n X 3 d_SC_writeAside_27 rfl rfl ?_
          refine ab_iconst (v := 1) X d_SC_writeAside_28 (by decide) ?_
          refine ab_iadd X d_SC_writeAside_29 ?_
          refine ab_callV (as := [ab_O 3 g, ab_I (x + 1)]) X (fun h => by cases h) (W u17 g P17.1 hg) lk_SC_62 d_SC_writeAside_30 rfl rfl (by first | assumption | decide | (show _ < 124; omega) | (show _ < 61; omega) | (show _ < 20; omega)) ⟨by first | exact Nat.le_of_ble_eq_true rfl | (simp only [ab_rm]; omega), by first | exact Nat.le_of_ble_eq_true rfl | (simp only [ab_rm]; omega)⟩ ⟨by first | exact Nat.le_of_ble_eq_true rfl | (simp only [ab_rm]; omega), by first | exact Nat.le_of_ble_eq_true rfl | (simp only [ab_rm]; omega)⟩ (Nat.le_of_ble_eq_true rfl) (fun u30 r30 h30 => ?_)
          obtain ⟨q30, rfl⟩ := h30
          have P30 := P17.trans q30 (by decide)
          refine ab_iload_n X 0 d_SC_writeAside_33 rfl rfl ?_
          refine ab_if_le X 51 d_SC_writeAside_34 rfl (fun h34 => ?_) (fun h34 => ?_)
          ·
            refine ab_iinc3 X 0 1 2 3 d_SC_writeAside_51 rfl (by decide) rfl rfl rfl rfl rfl rfl ?_
            refine ab_goto X 2 d_SC_writeAside_54 rfl ?_
            rw [show nI j + Int32.ofInt 1 = nI (j + 1) from nI_1 j]
            exact ih (j + 1) _ (by omega) P30
          ·
            refine ab_aload_n X 1 d_SC_writeAside_37 rfl rfl ?_
            refine ab_bipush (v := 11) X d_SC_writeAside_38 (by decide) ?_
            refine ab_callV (as := [ab_I 11]) X (fun h => by cases h) (s_SC_addOperation u30 11 P30.1) lk_SC_42 d_SC_writeAside_40 rfl rfl (by first | assumption | decide | (show _ < 124; omega) | (show _ < 61; omega) | (show _ < 20; omega)) ⟨by first | exact Nat.le_of_ble_eq_true rfl | (simp only [ab_rm]; omega), by first | exact Nat.le_of_ble_eq_true rfl | (simp only [ab_rm]; omega)⟩ ⟨by first | exact Nat.le_of_ble_eq_true rfl | (simp only [ab_rm]; omega), by first | exact Nat.le_of_ble_eq_true rfl | (simp only [ab_rm]; omega)⟩ (Nat.le_of_ble_eq_true rfl) (fun u40 r40 h40 => ?_)
            obtain ⟨q40, rfl⟩ := h40
            have P40 := P30.trans q40 (by decide)
            refine ab_aload_n X 1 d_SC_writeAside_43 rfl rfl ?_
            refine ab_aload_n X 2 d_SC_writeAside_44 rfl rfl ?_
            refine ab_gI X fl_SC_31 d_SC_writeAside_45 (by first | assumption | decide | (show _ < 124; omega) | (show _ < 61; omega) | (show _ < 20; omega)) (rfl) ?_
            refine ab_callV (as := [ab_I _]) X (fun h => by cases h) (s_SC_addOperation u40 _ P40.1) lk_SC_42 d_SC_writeAside_48 rfl rfl (by first | assumption | decide | (show _ < 124; omega) | (show _ < 61; omega) | (show _ < 20; omega)) ⟨by first | exact Nat.le_of_ble_eq_true rfl | (simp only [ab_rm]; omega), by first | exact Nat.le_of_ble_eq_true rfl | (simp only [ab_rm]; omega)⟩ ⟨by first | exact Nat.le_of_ble_eq_true rfl | (simp only [ab_rm]; omega), by first | exact Nat.le_of_ble_eq_true rfl | (simp only [ab_rm]; omega)⟩ (Nat.le_of_ble_eq_true rfl) (fun u48 r48 h48 => ?_)
            obtain ⟨q48, rfl⟩ := h48
            have P48 := P40.trans q48 (by decide)
            refine ab_iinc3 X 0 1 2 3 d_SC_writeAside_51 rfl (by decide) rfl rfl rfl rfl rfl rfl ?_
            refine ab_goto X 2 d_SC_writeAside_54 rfl ?_
            rw [show nI j + Int32.ofInt 1 = nI (j + 1) from nI_1 j]
            exact ih (j + 1) _ (by omega) P48
  refine ab_iconst (v := 0) X d_SC_writeAside_0 (by decide) ?_
  refine ab_istore_n3 X 0 1 2 d_SC_writeAside_1 rfl (by decide) rfl rfl rfl rfl rfl rfl ?_
  exact loop 4 0 _ rfl P0
theorem d_SC_writeIf_0 : decode b_SC_writeIf 0 = .ok (.aload_n 0, 1) := by decide +kernel
theorem d_SC_writeIf_1 : decode b_SC_writeIf 1 = .ok (.bipush 12, 2) := by decide +kernel
theorem d_SC_writeIf_3 : decode b_SC_writeIf 3 = .ok (.invokevirtual 42, 3) := by decide +kernel
theorem d_SC_writeIf_6 : decode b_SC_writeIf 6 = .ok (.aload_n 0, 1) := by decide +kernel
theorem d_SC_writeIf_7 : decode b_SC_writeIf 7 = .ok (.aload_n 1, 1) := by decide +kernel
theorem d_SC_writeIf_8 : decode b_SC_writeIf 8 = .ok (.getfield 59, 3) := by decide +kernel
theorem d_SC_writeIf_11 : decode b_SC_writeIf 11 = .ok (.iconst 0, 1) := by decide +kernel
theorem d_SC_writeIf_12 : decode b_SC_writeIf 12 = .ok (.aaload, 1) := by decide +kernel
theorem d_SC_writeIf_13 : decode b_SC_writeIf 13 = .ok (.iload_n 2, 1) := by decide +kernel
theorem d_SC_writeIf_14 : decode b_SC_writeIf 14 = .ok (.iconst 1, 1) := by decide +kernel
theorem d_SC_writeIf_15 : decode b_SC_writeIf 15 = .ok (.iadd, 1) := by decide +kernel
theorem d_SC_writeIf_16 : decode b_SC_writeIf 16 = .ok (.invokevirtual 62, 3) := by decide +kernel
theorem d_SC_writeIf_19 : decode b_SC_writeIf 19 = .ok (.aload_n 0, 1) := by decide +kernel
theorem d_SC_writeIf_20 : decode b_SC_writeIf 20 = .ok (.bipush 13, 2) := by decide +kernel
theorem d_SC_writeIf_22 : decode b_SC_writeIf 22 = .ok (.invokevirtual 42, 3) := by decide +kernel
theorem d_SC_writeIf_25 : decode b_SC_writeIf 25 = .ok (.aload_n 1, 1) := by decide +kernel
theorem d_SC_writeIf_26 : decode b_SC_writeIf 26 = .ok (.getfield 28, 3) := by decide +kernel
theorem d_SC_writeIf_29 : decode b_SC_writeIf 29 = .ok (.bipush 6, 2) := by decide +kernel
theorem d_SC_writeIf_31 : decode b_SC_writeIf 31 = .ok (.if_icmp .ne 12, 3) := by decide +kernel
theorem d_SC_writeIf_34 : decode b_SC_writeIf 34 = .ok (.aload_n 0, 1) := by decide +kernel
theorem d_SC_writeIf_35 : decode b_SC_writeIf 35 = .ok (.bipush 17, 2) := by decide +kernel
theorem d_SC_writeIf_37 : decode b_SC_writeIf 37 = .ok (.invokevirtual 42, 3) := by decide +kernel
theorem d_SC_writeIf_40 : decode b_SC_writeIf 40 = .ok (.goto 16, 3) := by decide +kernel
theorem d_SC_writeIf_43 : decode b_SC_writeIf 43 = .ok (.aload_n 0, 1) := by decide +kernel
theorem d_SC_writeIf_44 : decode b_SC_writeIf 44 = .ok (.aload_n 1, 1) := by decide +kernel
theorem d_SC_writeIf_45 : decode b_SC_writeIf 45 = .ok (.getfield 59, 3) := by decide +kernel
theorem d_SC_writeIf_48 : decode b_SC_writeIf 48 = .ok (.iconst 1, 1) := by decide +kernel
theorem d_SC_writeIf_49 : decode b_SC_writeIf 49 = .ok (.aaload, 1) := by decide +kernel
theorem d_SC_writeIf_50 : decode b_SC_writeIf 50 = .ok (.iload_n 2, 1) := by decide +kernel
theorem d_SC_writeIf_51 : decode b_SC_writeIf 51 = .ok (.iconst 1, 1) := by decide +kernel
theorem d_SC_writeIf_52 : decode b_SC_writeIf 52 = .ok (.iadd, 1) := by decide +kernel
theorem d_SC_writeIf_53 : decode b_SC_writeIf 53 = .ok (.invokevirtual 62, 3) := by decide +kernel
theorem d_SC_writeIf_56 : decode b_SC_writeIf 56 = .ok (.aload_n 0, 1) := by decide +kernel
theorem d_SC_writeIf_57 : decode b_SC_writeIf 57 = .ok (.bipush 14, 2) := by decide +kernel
theorem d_SC_writeIf_59 : decode b_SC_writeIf 59 = .ok (.invokevirtual 42, 3) := by decide +kernel
theorem d_SC_writeIf_62 : decode b_SC_writeIf 62 = .ok (.return_, 1) := by decide +kernel
set_option maxRecDepth 100000 in
set_option maxHeartbeats 1000000 in
theorem s_SC_writeIf (d : Nat) (x : Int32) (W : ∀ (u : ab_S) (f : Nat), CI u → f < 61 → ab_C false l D ca y_SC_write b_SC_write 3 none d ab_nQ u [ab_O 5 0, ab_O 3 f, ab_I (x + 1)] (fun u' v => cP [5, 13, 14] u u' ∧ v = none)) (u : ab_S) (f : Nat) (h : CI u) (hf : f < 61) (hd : 2 ≤ d) (hr : u.1 3 f 4 = 5 ∨ u.1 3 f 4 = 6) : ab_C false l D ca y_SC_writeIf b_SC_writeIf 3 none (d + 1) ab_nQ u [ab_O 5 0, ab_O 3 f, ab_I x] (fun u' v => cP [5, 13, 14] u u' ∧ v = none) := by
  refine ab_C.of (by decide) (Nat.le_of_ble_eq_true rfl) ?_
  intro p e s m args below meth c ad X hZ hr0 hlk
  have P0 : cP [5, 13, 14] u u := cQ.rf h
  obtain ⟨n, hn, en, he, hc⟩ := h.form hf
  have hc := hc (by omega)
  obtain ⟨g0, hg0, eg0⟩ := he 0 (by rcases hr with q | q; have := hc.1 (Or.inl q); omega; exact hc.2 q)
  refine ab_aload_n X 0 d_SC_writeIf_0 rfl rfl ?_
  refine ab_bipush (v := 12) X d_SC_writeIf_1 (by decide) ?_
  refine ab_callV (as := [ab_I 12]) X (fun h => by cases h) (s_SC_addOperation u 12 P0.1) lk_SC_42 d_SC_writeIf_3 rfl rfl (by first | assumption | decide | (show _ < 124; omega) | (show _ < 61; omega) | (show _ < 20; omega)) ⟨by first | exact Nat.le_of_ble_eq_true rfl | (simp only [ab_rm]; omega), by first | exact Nat.le_of_ble_eq_true rfl | (simp only [ab_rm]; omega)⟩ ⟨by first | exact Nat.le_of_ble_eq_true rfl | (simp only [ab_rm]; omega), by first | exact Nat.le_of_ble_eq_true rfl | (simp only [ab_rm]; omega)⟩ (Nat.le_of_ble_eq_true rfl) (fun u3 r3 h3 => ?_)
  obtain ⟨q3, rfl⟩ := h3
  have P3 := P0.trans q3 (by decide)
  refine ab_aload_n X 0 d_SC_writeIf_6 rfl rfl ?_
  refine ab_aload_n X 1 d_SC_writeIf_7 rfl rfl ?_
  refine ab_gR X fl_SC_59 d_SC_writeIf_8 (by first | assumption | decide | (show _ < 124; omega) | (show _ < 61; omega) | (show _ < 20; omega)) (P3.1.fm0 (by first | assumption | decide | omega)) ?_
  refine ab_iconst (v := 0) X d_SC_writeIf_11 (by decide) ?_
  refine ab_aalv X (0) ⟨rfl, _, fun _ => rfl⟩ d_SC_writeIf_12 (by first | assumption | decide | (show _ < 124; omega) | (show _ < 61; omega) | (show _ < 20; omega)) (rfl) (show 0 < 4 by decide) (ab_ln_lt _ _) (P3.rr (by decide) eg0) ?_
  refine ab_iload_n X 2 d_SC_writeIf_13 rfl rfl ?_
  refine ab_iconst (v := 1) X d_SC_writeIf_14 (by decide) ?_
  refine ab_iadd X d_SC_writeIf_15 ?_
  refine ab_callV (as := [ab_O 3 g0, ab_I (x + 1)]) X (fun h => by cases h) (W u3 g0 P3.1 hg0) lk_SC_62 d_SC_writeIf_16 rfl rfl (by first | assumption | decide | (show _ < 124; omega) | (show _ < 61; omega) | (show _ < 20; omega)) ⟨by first | exact Nat.le_of_ble_eq_true rfl | (simp only [ab_rm]; omega), by first | exact Nat.le_of_ble_eq_true rfl | (simp only [ab_rm]; omega)⟩ ⟨by first | exact Nat.le_of_ble_eq_true rfl | (simp only [ab_rm]; omega), by first | exact Nat.le_of_ble_eq_true rfl | (simp only [ab_rm]; omega)⟩ (Nat.le_of_ble_eq_true rfl) (fun u16 r16 h16 => ?_)
  obtain ⟨q16, rfl⟩ := h16
  have P16 := P3.trans q16 (by decide)
  refine ab_aload_n X 0 d_SC_writeIf_19 rfl rfl ?_
  refine ab_bipush (v := 13) X d_SC_writeIf_20 (by decide) ?_
  refine ab_callV (as := [ab_I 13]) X (fun h => by cases h) (s_SC_addOperation u16 13 P16.1) lk_SC_42 d_SC_writeIf_22 rfl rfl (by first | assumption | decide | (show _ < 124; omega) | (show _ < 61; omega) | (show _ < 20; omega)) ⟨by first | exact Nat.le_of_ble_eq_true rfl | (simp only [ab_rm]; omega), by first | exact Nat.le_of_ble_eq_true rfl | (simp only [ab_rm]; omega)⟩ ⟨by first | exact Nat.le_of_ble_eq_true rfl | (simp only [ab_rm]; omega), by first | exact Nat.le_of_ble_eq_true rfl | (simp only [ab_rm]; omega)⟩ (Nat.le_of_ble_eq_true rfl) (fun u22 r22 h22 => ?_)
  obtain ⟨q22, rfl⟩ := h22
  have P22 := P16.trans q22 (by decide)
  refine ab_aload_n X 1 d_SC_writeIf_25 rfl rfl ?_
  refine ab_gI X fl_SC_28 d_SC_writeIf_26 (by first | assumption | decide | (show _ < 124; omega) | (show _ < 61; omega) | (show _ < 20; omega)) (P22.ii (by decide) rfl) ?_
  refine ab_bipush (v := 6) X d_SC_writeIf_29 (by decide) ?_
  refine ab_icmp_ne X 43 d_SC_writeIf_31 rfl (fun h31 => ?_) (fun h31 => ?_)
  ·
    obtain ⟨g1, hg1, eg1⟩ := he 1 (by have := hc.1 (Or.inl (hr.resolve_right h31)); omega)
    refine ab_aload_n X 0 d_SC_writeIf_43 rfl rfl ?_
    refine ab_aload_n X 1 d_SC_writeIf_44 rfl rfl ?_
    refine ab_gR X fl_SC_59 d_SC_writeIf_45 (by first | assumption | decide | (show _ < 124; omega) | (show _ < 61; omega) | (show _ < 20; omega)) (P22.1.fm0 (by first | assumption | decide | omega)) ?_
    refine ab_iconst (v := 1) X d_SC_writeIf_48 (by decide) ?_
    refine ab_aalv X (1) ⟨rfl, _, fun _ => rfl⟩ d_SC_writeIf_49 (by first | assumption | decide | (show _ < 124; omega) | (show _ < 61; omega) | (show _ < 20; omega)) (rfl) (show 1 < 4 by decide) (ab_ln_lt _ _) (P22.rr (by decide) eg1) ?_
    refine ab_iload_n X 2 d_SC_writeIf_50 rfl rfl ?_
    refine ab_iconst (v := 1) X d_SC_writeIf_51 (by decide) ?_
    refine ab_iadd X d_SC_writeIf_52 ?_
    refine ab_callV (as := [ab_O 3 g1, ab_I (x + 1)]) X (fun h => by cases h) (W u22 g1 P22.1 hg1) lk_SC_62 d_SC_writeIf_53 rfl rfl (by first | assumption | decide | (show _ < 124; omega) | (show _ < 61; omega) | (show _ < 20; omega)) ⟨by first | exact Nat.le_of_ble_eq_true rfl | (simp only [ab_rm]; omega), by first | exact Nat.le_of_ble_eq_true rfl | (simp only [ab_rm]; omega)⟩ ⟨by first | exact Nat.le_of_ble_eq_true rfl | (simp only [ab_rm]; omega), by first | exact Nat.le_of_ble_eq_true rfl | (simp only [ab_rm]; omega)⟩ (Nat.le_of_ble_eq_true rfl) (fun u53 r53 h53 => ?_)
    obtain ⟨q53, rfl⟩ := h53
    have P53 := P22.trans q53 (by decide)
    refine ab_aload_n X 0 d_SC_writeIf_56 rfl rfl ?_
    refine ab_bipush (v := 14) X d_SC_writeIf_57 (by decide) ?_
    refine ab_callV (as := [ab_I 14]) X (fun h => by cases h) (s_SC_addOperation u53 14 P53.1) lk_SC_42 d_SC_writeIf_59 rfl rfl (by first | assumption | decide | (show _ < 124; omega) | (show _ < 61; omega) | (show _ < 20; omega)) ⟨by first | exact Nat.le_of_ble_eq_true rfl | (simp only [ab_rm]; omega), by first | exact Nat.le_of_ble_eq_true rfl | (simp only [ab_rm]; omega)⟩ ⟨by first | exact Nat.le_of_ble_eq_true rfl | (simp only [ab_rm]; omega), by first | exact Nat.le_of_ble_eq_true rfl | (simp only [ab_rm]; omega)⟩ (Nat.le_of_ble_eq_true rfl) (fun u59 r59 h59 => ?_)
    obtain ⟨q59, rfl⟩ := h59
    have P59 := P53.trans q59 (by decide)
    exact ab_retv X hr0 hlk d_SC_writeIf_62 ⟨P59, rfl⟩
  ·
    refine ab_aload_n X 0 d_SC_writeIf_34 rfl rfl ?_
    refine ab_bipush (v := 17) X d_SC_writeIf_35 (by decide) ?_
    refine ab_callV (as := [ab_I 17]) X (fun h => by cases h) (s_SC_addOperation u22 17 P22.1) lk_SC_42 d_SC_writeIf_37 rfl rfl (by first | assumption | decide | (show _ < 124; omega) | (show _ < 61; omega) | (show _ < 20; omega)) ⟨by first | exact Nat.le_of_ble_eq_true rfl | (simp only [ab_rm]; omega), by first | exact Nat.le_of_ble_eq_true rfl | (simp only [ab_rm]; omega)⟩ ⟨by first | exact Nat.le_of_ble_eq_true rfl | (simp only [ab_rm]; omega), by first | exact Nat.le_of_ble_eq_true rfl | (simp only [ab_rm]; omega)⟩ (Nat.le_of_ble_eq_true rfl) (fun u37 r37 h37 => ?_)
    obtain ⟨q37, rfl⟩ := h37
    have P37 := P22.trans q37 (by decide)
    refine ab_goto X 56 d_SC_writeIf_40 rfl ?_
    refine ab_aload_n X 0 d_SC_writeIf_56 rfl rfl ?_
    refine ab_bipush (v := 14) X d_SC_writeIf_57 (by decide) ?_
    refine ab_callV (as := [ab_I 14]) X (fun h => by cases h) (s_SC_addOperation u37 14 P37.1) lk_SC_42 d_SC_writeIf_59 rfl rfl (by first | assumption | decide | (show _ < 124; omega) | (show _ < 61; omega) | (show _ < 20; omega)) ⟨by first | exact Nat.le_of_ble_eq_true rfl | (simp only [ab_rm]; omega), by first | exact Nat.le_of_ble_eq_true rfl | (simp only [ab_rm]; omega)⟩ ⟨by first | exact Nat.le_of_ble_eq_true rfl | (simp only [ab_rm]; omega), by first | exact Nat.le_of_ble_eq_true rfl | (simp only [ab_rm]; omega)⟩ (Nat.le_of_ble_eq_true rfl) (fun u59 r59 h59 => ?_)
    obtain ⟨q59, rfl⟩ := h59
    have P59 := P37.trans q59 (by decide)
    exact ab_retv X hr0 hlk d_SC_writeIf_62 ⟨P59, rfl⟩
theorem d_SC_writeUnless_0 : decode b_SC_writeUnless 0 = .ok (.aload_n 0, 1) := by decide +kernel
theorem d_SC_writeUnless_1 : decode b_SC_writeUnless 1 = .ok (.aload_n 1, 1) := by decide +kernel
theorem d_SC_writeUnless_2 : decode b_SC_writeUnless 2 = .ok (.getfield 59, 3) := by decide +kernel
theorem d_SC_writeUnless_5 : decode b_SC_writeUnless 5 = .ok (.iconst 0, 1) := by decide +kernel
theorem d_SC_writeUnless_6 : decode b_SC_writeUnless 6 = .ok (.aaload, 1) := by decide +kernel
theorem d_SC_writeUnless_7 : decode b_SC_writeUnless 7 = .ok (.iload_n 2, 1) := by decide +kernel
theorem d_SC_writeUnless_8 : decode b_SC_writeUnless 8 = .ok (.iconst 1, 1) := by decide +kernel
theorem d_SC_writeUnless_9 : decode b_SC_writeUnless 9 = .ok (.iadd, 1) := by decide +kernel
theorem d_SC_writeUnless_10 : decode b_SC_writeUnless 10 = .ok (.invokevirtual 62, 3) := by decide +kernel
theorem d_SC_writeUnless_13 : decode b_SC_writeUnless 13 = .ok (.aload_n 1, 1) := by decide +kernel
theorem d_SC_writeUnless_14 : decode b_SC_writeUnless 14 = .ok (.getfield 28, 3) := by decide +kernel
theorem d_SC_writeUnless_17 : decode b_SC_writeUnless 17 = .ok (.bipush 7, 2) := by decide +kernel
theorem d_SC_writeUnless_19 : decode b_SC_writeUnless 19 = .ok (.if_icmp .ne 9, 3) := by decide +kernel
theorem d_SC_writeUnless_22 : decode b_SC_writeUnless 22 = .ok (.aload_n 0, 1) := by decide +kernel
theorem d_SC_writeUnless_23 : decode b_SC_writeUnless 23 = .ok (.bipush 16, 2) := by decide +kernel
theorem d_SC_writeUnless_25 : decode b_SC_writeUnless 25 = .ok (.invokevirtual 42, 3) := by decide +kernel
theorem d_SC_writeUnless_28 : decode b_SC_writeUnless 28 = .ok (.aload_n 0, 1) := by decide +kernel
theorem d_SC_writeUnless_29 : decode b_SC_writeUnless 29 = .ok (.bipush 15, 2) := by decide +kernel
theorem d_SC_writeUnless_31 : decode b_SC_writeUnless 31 = .ok (.invokevirtual 42, 3) := by decide +kernel
theorem d_SC_writeUnless_34 : decode b_SC_writeUnless 34 = .ok (.aload_n 0, 1) := by decide +kernel
theorem d_SC_writeUnless_35 : decode b_SC_writeUnless 35 = .ok (.aload_n 1, 1) := by decide +kernel
theorem d_SC_writeUnless_36 : decode b_SC_writeUnless 36 = .ok (.getfield 59, 3) := by decide +kernel
theorem d_SC_writeUnless_39 : decode b_SC_writeUnless 39 = .ok (.iconst 1, 1) := by decide +kernel
theorem d_SC_writeUnless_40 : decode b_SC_writeUnless 40 = .ok (.aaload, 1) := by decide +kernel
theorem d_SC_writeUnless_41 : decode b_SC_writeUnless 41 = .ok (.iload_n 2, 1) := by decide +kernel
theorem d_SC_writeUnless_42 : decode b_SC_writeUnless 42 = .ok (.iconst 1, 1) := by decide +kernel
theorem d_SC_writeUnless_43 : decode b_SC_writeUnless 43 = .ok (.iadd, 1) := by decide +kernel
theorem d_SC_writeUnless_44 : decode b_SC_writeUnless 44 = .ok (.invokevirtual 62, 3) := by decide +kernel
theorem d_SC_writeUnless_47 : decode b_SC_writeUnless 47 = .ok (.aload_n 0, 1) := by decide +kernel
theorem d_SC_writeUnless_48 : decode b_SC_writeUnless 48 = .ok (.bipush 14, 2) := by decide +kernel
theorem d_SC_writeUnless_50 : decode b_SC_writeUnless 50 = .ok (.invokevirtual 42, 3) := by decide +kernel
theorem d_SC_writeUnless_53 : decode b_SC_writeUnless 53 = .ok (.return_, 1) := by decide +kernel
set_option maxRecDepth 100000 in
set_option maxHeartbeats 1000000 in
theorem s_SC_writeUnless (d : Nat) (x : Int32) (W : ∀ (u : ab_S) (f : Nat), CI u → f < 61 → ab_C false l D ca y_SC_write b_SC_write 3 none d ab_nQ u [ab_O 5 0, ab_O 3 f, ab_I (x + 1)] (fun u' v => cP [5, 13, 14] u u' ∧ v = none)) (u : ab_S) (f : Nat) (h : CI u) (hf : f < 61) (hd : 2 ≤ d) (hr : u.1 3 f 4 = 7 ∨ u.1 3 f 4 = 8) : ab_C false l D ca y_SC_writeUnless b_SC_writeUnless 3 none (d + 1) ab_nQ u [ab_O 5 0, ab_O 3 f, ab_I x] (fun u' v => cP [5, 13, 14] u u' ∧ v = none) := by
  refine ab_C.of (by decide) (Nat.le_of_ble_eq_true rfl) ?_
  intro p e s m args below meth c ad X hZ hr0 hlk
  have P0 : cP [5, 13, 14] u u := cQ.rf h
  obtain ⟨n, hn, en, he, hc⟩ := h.form hf
  have hc := (hc (by omega)).1 (Or.inr hr)
  obtain ⟨g0, hg0, eg0⟩ := he 0 (by omega)
  obtain ⟨g1, hg1, eg1⟩ := he 1 (by omega)
  refine ab_aload_n X 0 d_SC_writeUnless_0 rfl rfl ?_
  refine ab_aload_n X 1 d_SC_writeUnless_1 rfl rfl ?_
  refine ab_gR X fl_SC_59 d_SC_writeUnless_2 (by first | assumption | decide | (show _ < 124; omega) | (show _ < 61; omega) | (show _ < 20; omega)) (P0.1.fm0 (by first | assumption | decide | omega)) ?_
  refine ab_iconst (v := 0) X d_SC_writeUnless_5 (by decide) ?_
  refine ab_aalv X (0) ⟨rfl, _, fun _ => rfl⟩ d_SC_writeUnless_6 (by first | assumption | decide | (show _ < 124; omega) | (show _ < 61; omega) | (show _ < 20; omega)) (rfl) (show 0 < 4 by decide) (ab_ln_lt _ _) (P0.rr (by decide) eg0) ?_
  refine ab_iload_n X 2 d_SC_writeUnless_7 rfl rfl ?_
  refine ab_iconst (v := 1) X d_SC_writeUnless_8 (by decide) ?_
  refine ab_iadd X d_SC_writeUnless_9 ?_
  refine ab_callV (as := [ab_O 3 g0, ab_I (x + 1)]) X (fun h => by cases h) (W u g0 P0.1 hg0) lk_SC_62 d_SC_writeUnless_10 rfl rfl (by first | assumption | decide | (show _ < 124; omega) | (show _ < 61; omega) | (show _ < 20; omega)) ⟨by first | exact Nat.le_of_ble_eq_true rfl | (simp only [ab_rm]; omega), by first | exact Nat.le_of_ble_eq_true rfl | (simp only [ab_rm]; omega)⟩ ⟨by first | exact Nat.le_of_ble_eq_true rfl | (simp only [ab_rm]; omega), by first | exact Nat.le_of_ble_eq_true rfl | (simp only [ab_rm]; omega)⟩ (Nat.le_of_ble_eq_true rfl) (fun u10 r10 h10 => ?_)
  obtain ⟨q10, rfl⟩ := h10
  have P10 := P0.trans q10 (by decide)
  refine ab_aload_n X 1 d_SC_writeUnless_13 rfl rfl ?_
  refine ab_gI X fl_SC_28 d_SC_writeUnless_14 (by first | assumption | decide | (show _ < 124; omega) | (show _ < 61; omega) | (show _ < 20; omega)) (rfl) ?_
  refine ab_bipush (v := 7) X d_SC_writeUnless_17 (by decide) ?_
  refine ab_icmp_ne X 28 d_SC_writeUnless_19 rfl (fun h19 => ?_) (fun h19 => ?_)
  ·
    refine ab_aload_n X 0 d_SC_writeUnless_28 rfl rfl ?_
    refine ab_bipush (v := 15) X d_SC_writeUnless_29 (by decide) ?_
    refine ab_callV (as := [ab_I 15]) X (fun h => by cases h) (s_SC_addOperation u10 15 P10.1) lk_SC_42 d_SC_writeUnless_31 rfl rfl (by first | assumption | decide | (show _ < 124; omega) | (show _ < 61; omega) | (show _ < 20; omega)) ⟨by first | exact Nat.le_of_ble_eq_true rfl | (simp only [ab_rm]; omega), by first | exact Nat.le_of_ble_eq_true rfl | (simp only [ab_rm]; omega)⟩ ⟨by first | exact Nat.le_of_ble_eq_true rfl | (simp only [ab_rm]; omega), by first | exact Nat.le_of_ble_eq_true rfl | (simp only [ab_rm]; omega)⟩ (Nat.le_of_ble_eq_true rfl) (fun u31 r31 h31 => ?_)
    obtain ⟨q31, rfl⟩ := h31
    have P31 := P10.trans q31 (by decide)
    refine ab_aload_n X 0 d_SC_writeUnless_34 rfl rfl ?_
    refine ab_aload_n X 1 d_SC_writeUnless_35 rfl rfl ?_
    refine ab_gR X fl_SC_59 d_SC_writeUnless_36 (by first | assumption | decide | (show _ < 124; omega) | (show _ < 61; omega) | (show _ < 20; omega)) (P31.1.fm0 (by first | assumption | decide | omega)) ?_
    refine ab_iconst (v := 1) X d_SC_writeUnless_39 (by decide) ?_
    refine ab_aalv X (1) ⟨rfl, _, fun _ => rfl⟩ d_SC_writeUnless_40 (by first | assumption | decide | (show _ < 124; omega) | (show _ < 61; omega) | (show _ < 20; omega)) (rfl) (show 1 < 4 by decide) (ab_ln_lt _ _) (P31.rr (by decide) eg1) ?_
    refine ab_iload_n X 2 d_SC_writeUnless_41 rfl rfl ?_
    refine ab_iconst (v := 1) X d_SC_writeUnless_42 (by decide) ?_
    refine ab_iadd X d_SC_writeUnless_43 ?_
    refine ab_callV (as := [ab_O 3 g1, ab_I (x + 1)]) X (fun h => by cases h) (W u31 g1 P31.1 hg1) lk_SC_62 d_SC_writeUnless_44 rfl rfl (by first | assumption | decide | (show _ < 124; omega) | (show _ < 61; omega) | (show _ < 20; omega)) ⟨by first | exact Nat.le_of_ble_eq_true rfl | (simp only [ab_rm]; omega), by first | exact Nat.le_of_ble_eq_true rfl | (simp only [ab_rm]; omega)⟩ ⟨by first | exact Nat.le_of_ble_eq_true rfl | (simp only [ab_rm]; omega), by first | exact Nat.le_of_ble_eq_true rfl | (simp only [ab_rm]; omega)⟩ (Nat.le_of_ble_eq_true rfl) (fun u44 r44 h44 => ?_)
    obtain ⟨q44, rfl⟩ := h44
    have P44 := P31.trans q44 (by decide)
    refine ab_aload_n X 0 d_SC_writeUnless_47 rfl rfl ?_
    refine ab_bipush (v := 14) X d_SC_writeUnless_48 (by decide) ?_
    refine ab_callV (as := [ab_I 14]) X (fun h => by cases h) (s_SC_addOperation u44 14 P44.1) lk_SC_42 d_SC_writeUnless_50 rfl rfl (by first | assumption | decide | (show _ < 124; omega) | (show _ < 61; omega) | (show _ < 20; omega)) ⟨by first | exact Nat.le_of_ble_eq_true rfl | (simp only [ab_rm]; omega), by first | exact Nat.le_of_ble_eq_true rfl | (simp only [ab_rm]; omega)⟩ ⟨by first | exact Nat.le_of_ble_eq_true rfl | (simp only [ab_rm]; omega), by first | exact Nat.le_of_ble_eq_true rfl | (simp only [ab_rm]; omega)⟩ (Nat.le_of_ble_eq_true rfl) (fun u50 r50 h50 => ?_)
    obtain ⟨q50, rfl⟩ := h50
    have P50 := P44.trans q50 (by decide)
    exact ab_retv X hr0 hlk d_SC_writeUnless_53 ⟨P50, rfl⟩
  ·
    refine ab_aload_n X 0 d_SC_writeUnless_22 rfl rfl ?_
    refine ab_bipush (v := 16) X d_SC_writeUnless_23 (by decide) ?_
    refine ab_callV (as := [ab_I 16]) X (fun h => by cases h) (s_SC_addOperation u10 16 P10.1) lk_SC_42 d_SC_writeUnless_25 rfl rfl (by first | assumption | decide | (show _ < 124; omega) | (show _ < 61; omega) | (show _ < 20; omega)) ⟨by first | exact Nat.le_of_ble_eq_true rfl | (simp only [ab_rm]; omega), by first | exact Nat.le_of_ble_eq_true rfl | (simp only [ab_rm]; omega)⟩ ⟨by first | exact Nat.le_of_ble_eq_true rfl | (simp only [ab_rm]; omega), by first | exact Nat.le_of_ble_eq_true rfl | (simp only [ab_rm]; omega)⟩ (Nat.le_of_ble_eq_true rfl) (fun u25 r25 h25 => ?_)
    obtain ⟨q25, rfl⟩ := h25
    have P25 := P10.trans q25 (by decide)
    refine ab_aload_n X 0 d_SC_writeUnless_28 rfl rfl ?_
    refine ab_bipush (v := 15) X d_SC_writeUnless_29 (by decide) ?_
    refine ab_callV (as := [ab_I 15]) X (fun h => by cases h) (s_SC_addOperation u25 15 P25.1) lk_SC_42 d_SC_writeUnless_31 rfl rfl (by first | assumption | decide | (show _ < 124; omega) | (show _ < 61; omega) | (show _ < 20; omega)) ⟨by first | exact Nat.le_of_ble_eq_true rfl | (simp only [ab_rm]; omega), by first | exact Nat.le_of_ble_eq_true rfl | (simp only [ab_rm]; omega)⟩ ⟨by first | exact Nat.le_of_ble_eq_true rfl | (simp only [ab_rm]; omega), by first | exact Nat.le_of_ble_eq_true rfl | (simp only [ab_rm]; omega)⟩ (Nat.le_of_ble_eq_true rfl) (fun u31 r31 h31 => ?_)
    obtain ⟨q31, rfl⟩ := h31
    have P31 := P25.trans q31 (by decide)
    refine ab_aload_n X 0 d_SC_writeUnless_34 rfl rfl ?_
    refine ab_aload_n X 1 d_SC_writeUnless_35 rfl rfl ?_
    refine ab_gR X fl_SC_59 d_SC_writeUnless_36 (by first | assumption | decide | (show _ < 124; omega) | (show _ < 61; omega) | (show _ < 20; omega)) (P31.1.fm0 (by first | assumption | decide | omega)) ?_
    refine ab_iconst (v := 1) X d_SC_writeUnless_39 (by decide) ?_
    refine ab_aalv X (1) ⟨rfl, _, fun _ => rfl⟩ d_SC_writeUnless_40 (by first | assumption | decide | (show _ < 124; omega) | (show _ < 61; omega) | (show _ < 20; omega)) (rfl) (show 1 < 4 by decide) (ab_ln_lt _ _) (P31.rr (by decide) eg1) ?_
    refine ab_iload_n X 2 d_SC_writeUnless_41 rfl rfl ?_
    refine ab_iconst (v := 1) X d_SC_writeUnless_42 (by decide) ?_
    refine ab_iadd X d_SC_writeUnless_43 ?_
    refine ab_callV (as := [ab_O 3 g1, ab_I (x + 1)]) X (fun h => by cases h) (W u31 g1 P31.1 hg1) lk_SC_62 d_SC_writeUnless_44 rfl rfl (by first | assumption | decide | (show _ < 124; omega) | (show _ < 61; omega) | (show _ < 20; omega)) ⟨by first | exact Nat.le_of_ble_eq_true rfl | (simp only [ab_rm]; omega), by first | exact Nat.le_of_ble_eq_true rfl | (simp only [ab_rm]; omega)⟩ ⟨by first | exact Nat.le_of_ble_eq_true rfl | (simp only [ab_rm]; omega), by first | exact Nat.le_of_ble_eq_true rfl | (simp only [ab_rm]; omega)⟩ (Nat.le_of_ble_eq_true rfl) (fun u44 r44 h44 => ?_)
    obtain ⟨q44, rfl⟩ := h44
    have P44 := P31.trans q44 (by decide)
    refine ab_aload_n X 0 d_SC_writeUnless_47 rfl rfl ?_
    refine ab_bipush (v := 14) X d_SC_writeUnless_48 (by decide) ?_
    refine ab_callV (as := [ab_I 14]) X (fun h => by cases h) (s_SC_addOperation u44 14 P44.1) lk_SC_42 d_SC_writeUnless_50 rfl rfl (by first | assumption | decide | (show _ < 124; omega) | (show _ < 61; omega) | (show _ < 20; omega)) ⟨by first | exact Nat.le_of_ble_eq_true rfl | (simp only [ab_rm]; omega), by first | exact Nat.le_of_ble_eq_true rfl | (simp only [ab_rm]; omega)⟩ ⟨by first | exact Nat.le_of_ble_eq_true rfl | (simp only [ab_rm]; omega), by first | exact Nat.le_of_ble_eq_true rfl | (simp only [ab_rm]; omega)⟩ (Nat.le_of_ble_eq_true rfl) (fun u50 r50 h50 => ?_)
    obtain ⟨q50, rfl⟩ := h50
    have P50 := P44.trans q50 (by decide)
    exact ab_retv X hr0 hlk d_SC_writeUnless_53 ⟨P50, rfl⟩
set_option maxRecDepth 100000 in
set_option maxHeartbeats 1000000 in
theorem s_SC_write0 (u : ab_S) (f : Nat) (h : CI u) (hf : f < 61) (x : Int32) (hx : 40 < x) (d : Nat) : ab_C false l D ca y_SC_write b_SC_write 3 none d ab_nQ u [ab_O 5 0, ab_O 3 f, ab_I x] (fun u' v => cP [5, 13, 14] u u' ∧ v = none) := by
  refine ab_C.of (by decide) (Nat.le_of_ble_eq_true rfl) ?_
  intro p e s m args below meth c ad X hZ hr0 hlk
  have P0 : cP [5, 13, 14] u u := cQ.rf h
  refine ab_iload_n X 2 d_SC_write_0 rfl rfl ?_
  refine ab_bipush (v := 40) X d_SC_write_1 (by decide) ?_
  refine ab_icmp_gt X 18 d_SC_write_3 rfl (fun _ => ?_) (fun hb => absurd (hx) hb)
  exact ab_retv X hr0 hlk d_SC_write_18 ⟨P0, rfl⟩
set_option maxRecDepth 100000 in
set_option maxHeartbeats 1000000 in
theorem s_SC_write1 (d : Nat) (x : Int32) (W : ∀ (u : ab_S) (f : Nat), CI u → f < 61 → ab_C false l D ca y_SC_write b_SC_write 3 none d ab_nQ u [ab_O 5 0, ab_O 3 f, ab_I (x + 1)] (fun u' v => cP [5, 13, 14] u u' ∧ v = none)) (u : ab_S) (f : Nat) (h : CI u) (hf : f < 61) (hd : 2 ≤ d) : ab_C false l D ca y_SC_write b_SC_write 3 none (d + 2) ab_nQ u [ab_O 5 0, ab_O 3 f, ab_I x] (fun u' v => cP [5, 13, 14] u u' ∧ v = none) := by
  refine ab_C.of (by decide) (Nat.le_of_ble_eq_true rfl) ?_
  intro p e s m args below meth c ad X hZ hr0 hlk
  have P0 : cP [5, 13, 14] u u := cQ.rf h
  refine ab_iload_n X 2 d_SC_write_0 rfl rfl ?_
  refine ab_bipush (v := 40) X d_SC_write_1 (by decide) ?_
  refine ab_icmp_gt X 18 d_SC_write_3 rfl (fun h3 => ?_) (fun h3 => ?_)
  ·
    exact ab_retv X hr0 hlk d_SC_write_18 ⟨P0, rfl⟩
  ·
    refine ab_aload_n X 0 d_SC_write_6 rfl rfl ?_
    refine ab_gI X fl_SC_25 d_SC_write_7 (by first | assumption | decide | (show _ < 124; omega) | (show _ < 61; omega) | (show _ < 20; omega)) (rfl) ?_
    refine ab_aload_n X 0 d_SC_write_10 rfl rfl ?_
    refine ab_gR X fl_SC_17 d_SC_write_11 (by first | assumption | decide | (show _ < 124; omega) | (show _ < 61; omega) | (show _ < 20; omega)) (P0.1.sc1) ?_
    refine ab_alen X ⟨by decide, _, fun _ => rfl⟩ d_SC_write_14 (by first | assumption | decide | (show _ < 124; omega) | (show _ < 61; omega) | (show _ < 20; omega)) (rfl) ?_
    refine ab_icmp_lt X 19 d_SC_write_15 rfl (fun h15 => ?_) (fun h15 => ?_)
    ·
      refine ab_aload_n X 1 d_SC_write_19 rfl rfl ?_
      refine ab_gI X fl_SC_28 d_SC_write_20 (by first | assumption | decide | (show _ < 124; omega) | (show _ < 61; omega) | (show _ < 20; omega)) (rfl) ?_
      refine ab_tsw X [(1, 68), (3, 79), (4, 93), (5, 102), (6, 102), (7, 111), (8, 111)] 120 d_SC_write_23 (by decide +kernel) rfl (List.forall_mem_cons.mpr ⟨fun h23_1 => ?_, List.forall_mem_cons.mpr ⟨fun h23_3 => ?_, List.forall_mem_cons.mpr ⟨fun h23_4 => ?_, List.forall_mem_cons.mpr ⟨fun h23_5 => ?_, List.forall_mem_cons.mpr ⟨fun h23_6 => ?_, List.forall_mem_cons.mpr ⟨fun h23_7 => ?_, List.forall_mem_cons.mpr ⟨fun h23_8 => ?_, fun _ h => absurd h List.not_mem_nil⟩⟩⟩⟩⟩⟩⟩) (fun h23 => ?_)
      ·
        refine ab_aload_n X 0 d_SC_write_68 rfl rfl ?_
        refine ab_aload_n X 1 d_SC_write_69 rfl rfl ?_
        refine ab_gI X fl_SC_31 d_SC_write_70 (by first | assumption | decide | (show _ < 124; omega) | (show _ < 61; omega) | (show _ < 20; omega)) (rfl) ?_
        refine ab_callV (as := [ab_I _]) X (fun h => by cases h) (s_SC_addWord u _ P0.1) lk_SC_34 d_SC_write_73 rfl rfl (by first | assumption | decide | (show _ < 124; omega) | (show _ < 61; omega) | (show _ < 20; omega)) ⟨by first | exact Nat.le_of_ble_eq_true rfl | (simp only [ab_rm]; omega), by first | exact Nat.le_of_ble_eq_true rfl | (simp only [ab_rm]; omega)⟩ ⟨by first | exact Nat.le_of_ble_eq_true rfl | (simp only [ab_rm]; omega), by first | exact Nat.le_of_ble_eq_true rfl | (simp only [ab_rm]; omega)⟩ (Nat.le_of_ble_eq_true rfl) (fun u73 r73 h73 => ?_)
        obtain ⟨q73, rfl⟩ := h73
        have P73 := P0.trans q73 (by decide)
        refine ab_goto X 126 d_SC_write_76 rfl ?_
        refine ab_aload_n X 0 d_SC_write_126 rfl rfl ?_
        refine ab_aload_n X 1 d_SC_write_127 rfl rfl ?_
        refine ab_callV (as := [ab_O 3 f]) X (fun h => by cases h) (s_SC_keepForm u73 f P73.1 hf) lk_SC_54 d_SC_write_128 rfl rfl (by first | assumption | decide | (show _ < 124; omega) | (show _ < 61; omega) | (show _ < 20; omega)) ⟨by first | exact Nat.le_of_ble_eq_true rfl | (simp only [ab_rm]; omega), by first | exact Nat.le_of_ble_eq_true rfl | (simp only [ab_rm]; omega)⟩ ⟨by first | exact Nat.le_of_ble_eq_true rfl | (simp only [ab_rm]; omega), by first | exact Nat.le_of_ble_eq_true rfl | (simp only [ab_rm]; omega)⟩ (Nat.le_of_ble_eq_true rfl) (fun u128 r128 h128 => ?_)
        obtain ⟨q128, rfl⟩ := h128
        have P128 := P73.trans q128 (by decide)
        exact ab_retv X hr0 hlk d_SC_write_131 ⟨P128, rfl⟩
      ·
        refine ab_aload_n X 0 d_SC_write_79 rfl rfl ?_
        refine ab_aload_n X 1 d_SC_write_80 rfl rfl ?_
        refine ab_iload_n X 2 d_SC_write_81 rfl rfl ?_
        refine ab_callV (as := [ab_O 3 f, ab_I x]) X (fun h => by cases h) (s_SC_writeRow d x W u f h hf hd) lk_SC_38 d_SC_write_82 rfl rfl (by first | assumption | decide | (show _ < 124; omega) | (show _ < 61; omega) | (show _ < 20; omega)) ⟨by first | exact Nat.le_of_ble_eq_true rfl | (simp only [ab_rm]; omega), by first | exact Nat.le_of_ble_eq_true rfl | (simp only [ab_rm]; omega)⟩ ⟨by first | exact Nat.le_of_ble_eq_true rfl | (simp only [ab_rm]; omega), by first | exact Nat.le_of_ble_eq_true rfl | (simp only [ab_rm]; omega)⟩ (Nat.le_of_ble_eq_true rfl) (fun u82 r82 h82 => ?_)
        obtain ⟨q82, rfl⟩ := h82
        have P82 := P0.trans q82 (by decide)
        refine ab_aload_n X 0 d_SC_write_85 rfl rfl ?_
        refine ab_iconst (v := 5) X d_SC_write_86 (by decide) ?_
        refine ab_callV (as := [ab_I 5]) X (fun h => by cases h) (s_SC_addOperation u82 5 P82.1) lk_SC_42 d_SC_write_87 rfl rfl (by first | assumption | decide | (show _ < 124; omega) | (show _ < 61; omega) | (show _ < 20; omega)) ⟨by first | exact Nat.le_of_ble_eq_true rfl | (simp only [ab_rm]; omega), by first | exact Nat.le_of_ble_eq_true rfl | (simp only [ab_rm]; omega)⟩ ⟨by first | exact Nat.le_of_ble_eq_true rfl | (simp only [ab_rm]; omega), by first | exact Nat.le_of_ble_eq_true rfl | (simp only [ab_rm]; omega)⟩ (Nat.le_of_ble_eq_true rfl) (fun u87 r87 h87 => ?_)
        obtain ⟨q87, rfl⟩ := h87
        have P87 := P82.trans q87 (by decide)
        refine ab_goto X 126 d_SC_write_90 rfl ?_
        refine ab_aload_n X 0 d_SC_write_126 rfl rfl ?_
        refine ab_aload_n X 1 d_SC_write_127 rfl rfl ?_
        refine ab_callV (as := [ab_O 3 f]) X (fun h => by cases h) (s_SC_keepForm u87 f P87.1 hf) lk_SC_54 d_SC_write_128 rfl rfl (by first | assumption | decide | (show _ < 124; omega) | (show _ < 61; omega) | (show _ < 20; omega)) ⟨by first | exact Nat.le_of_ble_eq_true rfl | (simp only [ab_rm]; omega), by first | exact Nat.le_of_ble_eq_true rfl | (simp only [ab_rm]; omega)⟩ ⟨by first | exact Nat.le_of_ble_eq_true rfl | (simp only [ab_rm]; omega), by first | exact Nat.le_of_ble_eq_true rfl | (simp only [ab_rm]; omega)⟩ (Nat.le_of_ble_eq_true rfl) (fun u128 r128 h128 => ?_)
        obtain ⟨q128, rfl⟩ := h128
        have P128 := P87.trans q128 (by decide)
        exact ab_retv X hr0 hlk d_SC_write_131 ⟨P128, rfl⟩
      ·
        refine ab_aload_n X 0 d_SC_write_93 rfl rfl ?_
        refine ab_aload_n X 1 d_SC_write_94 rfl rfl ?_
        refine ab_iload_n X 2 d_SC_write_95 rfl rfl ?_
        refine ab_callV (as := [ab_O 3 f, ab_I x]) X (fun h => by cases h) (s_SC_writeAside d x W u f h hf hd) lk_SC_45 d_SC_write_96 rfl rfl (by first | assumption | decide | (show _ < 124; omega) | (show _ < 61; omega) | (show _ < 20; omega)) ⟨by first | exact Nat.le_of_ble_eq_true rfl | (simp only [ab_rm]; omega), by first | exact Nat.le_of_ble_eq_true rfl | (simp only [ab_rm]; omega)⟩ ⟨by first | exact Nat.le_of_ble_eq_true rfl | (simp only [ab_rm]; omega), by first | exact Nat.le_of_ble_eq_true rfl | (simp only [ab_rm]; omega)⟩ (Nat.le_of_ble_eq_true rfl) (fun u96 r96 h96 => ?_)
        obtain ⟨q96, rfl⟩ := h96
        have P96 := P0.trans q96 (by decide)
        refine ab_goto X 126 d_SC_write_99 rfl ?_
        refine ab_aload_n X 0 d_SC_write_126 rfl rfl ?_
        refine ab_aload_n X 1 d_SC_write_127 rfl rfl ?_
        refine ab_callV (as := [ab_O 3 f]) X (fun h => by cases h) (s_SC_keepForm u96 f P96.1 hf) lk_SC_54 d_SC_write_128 rfl rfl (by first | assumption | decide | (show _ < 124; omega) | (show _ < 61; omega) | (show _ < 20; omega)) ⟨by first | exact Nat.le_of_ble_eq_true rfl | (simp only [ab_rm]; omega), by first | exact Nat.le_of_ble_eq_true rfl | (simp only [ab_rm]; omega)⟩ ⟨by first | exact Nat.le_of_ble_eq_true rfl | (simp only [ab_rm]; omega), by first | exact Nat.le_of_ble_eq_true rfl | (simp only [ab_rm]; omega)⟩ (Nat.le_of_ble_eq_true rfl) (fun u128 r128 h128 => ?_)
        obtain ⟨q128, rfl⟩ := h128
        have P128 := P96.trans q128 (by decide)
        exact ab_retv X hr0 hlk d_SC_write_131 ⟨P128, rfl⟩
      ·
        have hr : u.1 3 f 4 = 5 ∨ u.1 3 f 4 = 6 := Or.inl h23_5
        refine ab_aload_n X 0 d_SC_write_102 rfl rfl ?_
        refine ab_aload_n X 1 d_SC_write_103 rfl rfl ?_
        refine ab_iload_n X 2 d_SC_write_104 rfl rfl ?_
        refine ab_callV (as := [ab_O 3 f, ab_I x]) X (fun h => by cases h) (s_SC_writeIf d x W u f h hf hd hr) lk_SC_48 d_SC_write_105 rfl rfl (by first | assumption | decide | (show _ < 124; omega) | (show _ < 61; omega) | (show _ < 20; omega)) ⟨by first | exact Nat.le_of_ble_eq_true rfl | (simp only [ab_rm]; omega), by first | exact Nat.le_of_ble_eq_true rfl | (simp only [ab_rm]; omega)⟩ ⟨by first | exact Nat.le_of_ble_eq_true rfl | (simp only [ab_rm]; omega), by first | exact Nat.le_of_ble_eq_true rfl | (simp only [ab_rm]; omega)⟩ (Nat.le_of_ble_eq_true rfl) (fun u105 r105 h105 => ?_)
        obtain ⟨q105, rfl⟩ := h105
        have P105 := P0.trans q105 (by decide)
        refine ab_goto X 126 d_SC_write_108 rfl ?_
        refine ab_aload_n X 0 d_SC_write_126 rfl rfl ?_
        refine ab_aload_n X 1 d_SC_write_127 rfl rfl ?_
        refine ab_callV (as := [ab_O 3 f]) X (fun h => by cases h) (s_SC_keepForm u105 f P105.1 hf) lk_SC_54 d_SC_write_128 rfl rfl (by first | assumption | decide | (show _ < 124; omega) | (show _ < 61; omega) | (show _ < 20; omega)) ⟨by first | exact Nat.le_of_ble_eq_true rfl | (simp only [ab_rm]; omega), by first | exact Nat.le_of_ble_eq_true rfl | (simp only [ab_rm]; omega)⟩ ⟨by first | exact Nat.le_of_ble_eq_true rfl | (simp only [ab_rm]; omega), by first | exact Nat.le_of_ble_eq_true rfl | (simp only [ab_rm]; omega)⟩ (Nat.le_of_ble_eq_true rfl) (fun u128 r128 h128 => ?_)
        obtain ⟨q128, rfl⟩ := h128
        have P128 := P105.trans q128 (by decide)
        exact ab_retv X hr0 hlk d_SC_write_131 ⟨P128, rfl⟩
      ·
        have hr : u.1 3 f 4 = 5 ∨ u.1 3 f 4 = 6 := Or.inr h23_6
        refine ab_aload_n X 0 d_SC_write_102 rfl rfl ?_
        refine ab_aload_n X 1 d_SC_write_103 rfl rfl ?_
        refine ab_iload_n X 2 d_SC_write_104 rfl rfl ?_
        refine ab_callV (as := [ab_O 3 f, ab_I x]) X (fun h => by cases h) (s_SC_writeIf d x W u f h hf hd hr) lk_SC_48 d_SC_write_105 rfl rfl (by first | assumption | decide | (show _ < 124; omega) | (show _ < 61; omega) | (show _ < 20; omega)) ⟨by first | exact Nat.le_of_ble_eq_true rfl | (simp only [ab_rm]; omega), by first | exact Nat.le_of_ble_eq_true rfl | (simp only [ab_rm]; omega)⟩ ⟨by first | exact Nat.le_of_ble_eq_true rfl | (simp only [ab_rm]; omega), by first | exact Nat.le_of_ble_eq_true rfl | (simp only [ab_rm]; omega)⟩ (Nat.le_of_ble_eq_true rfl) (fun u105 r105 h105 => ?_)
        obtain ⟨q105, rfl⟩ := h105
        have P105 := P0.trans q105 (by decide)
        refine ab_goto X 126 d_SC_write_108 rfl ?_
        refine ab_aload_n X 0 d_SC_write_126 rfl rfl ?_
        refine ab_aload_n X 1 d_SC_write_127 rfl rfl ?_
        refine ab_callV (as := [ab_O 3 f]) X (fun h => by cases h) (s_SC_keepForm u105 f P105.1 hf) lk_SC_54 d_SC_write_128 rfl rfl (by first | assumption | decide | (show _ < 124; omega) | (show _ < 61; omega) | (show _ < 20; omega)) ⟨by first | exact Nat.le_of_ble_eq_true rfl | (simp only [ab_rm]; omega), by first | exact Nat.le_of_ble_eq_true rfl | (simp only [ab_rm]; omega)⟩ ⟨by first | exact Nat.le_of_ble_eq_true rfl | (simp only [ab_rm]; omega), by first | exact Nat.le_of_ble_eq_true rfl | (simp only [ab_rm]; omega)⟩ (Nat.le_of_ble_eq_true rfl) (fun u128 r128 h128 => ?_)
        obtain ⟨q128, rfl⟩ := h128
        have P128 := P105.trans q128 (by decide)
        exact ab_retv X hr0 hlk d_SC_write_131 ⟨P128, rfl⟩
      ·
        have hr : u.1 3 f 4 = 7 ∨ u.1 3 f 4 = 8 := Or.inl h23_7
        refine ab_aload_n X 0 d_SC_write_111 rfl rfl ?_
        refine ab_aload_n X 1 d_SC_write_112 rfl rfl ?_
        refine ab_iload_n X 2 d_SC_write_113 rfl rfl ?_
        refine ab_callV (as := [ab_O 3 f, ab_I x]) X (fun h => by cases h) (s_SC_writeUnless d x W u f h hf hd hr) lk_SC_51 d_SC_write_114 rfl rfl (by first | assumption | decide | (show _ < 124; omega) | (show _ < 61; omega) | (show _ < 20; omega)) ⟨by first | exact Nat.le_of_ble_eq_true rfl | (simp only [ab_rm]; omega), by first | exact Nat.le_of_ble_eq_true rfl | (simp only [ab_rm]; omega)⟩ ⟨by first | exact Nat.le_of_ble_eq_true rfl | (simp only [ab_rm]; omega), by first | exact Nat.le_of_ble_eq_true rfl | (simp only [ab_rm]; omega)⟩ (Nat.le_of_ble_eq_true rfl) (fun u114 r114 h114 => ?_)
        obtain ⟨q114, rfl⟩ := h114
        have P114 := P0.trans q114 (by decide)
        refine ab_goto X 126 d_SC_write_117 rfl ?_
        refine ab_aload_n X 0 d_SC_write_126 rfl rfl ?_
        refine ab_aload_n X 1 d_SC_write_127 rfl rfl ?_
        refine ab_callV (as := [ab_O 3 f]) X (fun h => by cases h) (s_SC_keepForm u114 f P114.1 hf) lk_SC_54 d_SC_write_128 rfl rfl (by first | assumption | decide | (show _ < 124; omega) | (show _ < 61; omega) | (show _ < 20; omega)) ⟨by first | exact Nat.le_of_ble_eq_true rfl | (simp only [ab_rm]; omega), by first | exact Nat.le_of_ble_eq_true rfl | (simp only [ab_rm]; omega)⟩ ⟨by first | exact Nat.le_of_ble_eq_true rfl | (simp only [ab_rm]; omega), by first | exact Nat.le_of_ble_eq_true rfl | (simp only [ab_rm]; omega)⟩ (Nat.le_of_ble_eq_true rfl) (fun u128 r128 h128 => ?_)
        obtain ⟨q128, rfl⟩ := h128
        have P128 := P114.trans q128 (by decide)
        exact ab_retv X hr0 hlk d_SC_write_131 ⟨P128, rfl⟩
      ·
        have hr : u.1 3 f 4 = 7 ∨ u.1 3 f 4 = 8 := Or.inr h23_8
        refine ab_aload_n X 0 d_SC_write_111 rfl rfl ?_
        refine ab_aload_n X 1 d_SC_write_112 rfl rfl ?_
        refine ab_iload_n X 2 d_SC_write_113 rfl rfl ?_
        refine ab_callV (as := [ab_O 3 f, ab_I x]) X (fun h => by cases h) (s_SC_writeUnless d x W u f h hf hd hr) lk_SC_51 d_SC_write_114 rfl rfl (by first | assumption | decide | (show _ < 124; omega) | (show _ < 61; omega) | (show _ < 20; omega)) ⟨by first | exact Nat.le_of_ble_eq_true rfl | (simp only [ab_rm]; omega), by first | exact Nat.le_of_ble_eq_true rfl | (simp only [ab_rm]; omega)⟩ ⟨by first | exact Nat.le_of_ble_eq_true rfl | (simp only [ab_rm]; omega), by first | exact Nat.le_of_ble_eq_true rfl | (simp only [ab_rm]; omega)⟩ (Nat.le_of_ble_eq_true rfl) (fun u114 r114 h114 => ?_)
        obtain ⟨q114, rfl⟩ := h114
        have P114 := P0.trans q114 (by decide)
        refine ab_goto X 126 d_SC_write_117 rfl ?_
        refine ab_aload_n X 0 d_SC_write_126 rfl rfl ?_
        refine ab_aload_n X 1 d_SC_write_127 rfl rfl ?_
        refine ab_callV (as := [ab_O 3 f]) X (fun h => by cases h) (s_SC_keepForm u114 f P114.1 hf) lk_SC_54 d_SC_write_128 rfl rfl (by first | assumption | decide | (show _ < 124; omega) | (show _ < 61; omega) | (show _ < 20; omega)) ⟨by first | exact Nat.le_of_ble_eq_true rfl | (simp only [ab_rm]; omega), by first | exact Nat.le_of_ble_eq_true rfl | (simp only [ab_rm]; omega)⟩ ⟨by first | exact Nat.le_of_ble_eq_true rfl | (simp only [ab_rm]; omega), by first | exact Nat.le_of_ble_eq_true rfl | (simp only [ab_rm]; omega)⟩ (Nat.le_of_ble_eq_true rfl) (fun u128 r128 h128 => ?_)
        obtain ⟨q128, rfl⟩ := h128
        have P128 := P114.trans q128 (by decide)
        exact ab_retv X hr0 hlk d_SC_write_131 ⟨P128, rfl⟩
      ·
        refine ab_aload_n X 0 d_SC_write_120 rfl rfl ?_
        refine ab_aload_n X 1 d_SC_write_121 rfl rfl ?_
        refine ab_iload_n X 2 d_SC_write_122 rfl rfl ?_
        refine ab_callV (as := [ab_O 3 f, ab_I x]) X (fun h => by cases h) (s_SC_writeRow d x W u f h hf hd) lk_SC_38 d_SC_write_123 rfl rfl (by first | assumption | decide | (show _ < 124; omega) | (show _ < 61; omega) | (show _ < 20; omega)) ⟨by first | exact Nat.le_of_ble_eq_true rfl | (simp only [ab_rm]; omega), by first | exact Nat.le_of_ble_eq_true rfl | (simp only [ab_rm]; omega)⟩ ⟨by first | exact Nat.le_of_ble_eq_true rfl | (simp only [ab_rm]; omega), by first | exact Nat.le_of_ble_eq_true rfl | (simp only [ab_rm]; omega)⟩ (Nat.le_of_ble_eq_true rfl) (fun u123 r123 h123 => ?_)
        obtain ⟨q123, rfl⟩ := h123
        have P123 := P0.trans q123 (by decide)
        refine ab_aload_n X 0 d_SC_write_126 rfl rfl ?_
        refine ab_aload_n X 1 d_SC_write_127 rfl rfl ?_
        refine ab_callV (as := [ab_O 3 f]) X (fun h => by cases h) (s_SC_keepForm u123 f P123.1 hf) lk_SC_54 d_SC_write_128 rfl rfl (by first | assumption | decide | (show _ < 124; omega) | (show _ < 61; omega) | (show _ < 20; omega)) ⟨by first | exact Nat.le_of_ble_eq_true rfl | (simp only [ab_rm]; omega), by first | exact Nat.le_of_ble_eq_true rfl | (simp only [ab_rm]; omega)⟩ ⟨by first | exact Nat.le_of_ble_eq_true rfl | (simp only [ab_rm]; omega), by first | exact Nat.le_of_ble_eq_true rfl | (simp only [ab_rm]; omega)⟩ (Nat.le_of_ble_eq_true rfl) (fun u128 r128 h128 => ?_)
        obtain ⟨q128, rfl⟩ := h128
        have P128 := P123.trans q128 (by decide)
        exact ab_retv X hr0 hlk d_SC_write_131 ⟨P128, rfl⟩
    ·
      exact ab_retv X hr0 hlk d_SC_write_18 ⟨P0, rfl⟩
theorem s_SC_write (n : Nat) : ∀ (j : Nat) (u : ab_S) (f : Nat), j + n = 41 → CI u → f < 61 → ab_C false l D ca y_SC_write b_SC_write 3 none (2 * n + 2) ab_nQ u [ab_O 5 0, ab_O 3 f, ab_I (nI j)] (fun u' v => cP [5, 13, 14] u u' ∧ v = none) := by
  induction n with
  | zero => exact fun j u f hj h hf => s_SC_write0 u f h hf (nI j) (by obtain rfl : j = 41 := (by omega); decide) 2
  | succ n ih =>
    intro j u f hj h hf
    refine s_SC_write1 (2 * n + 2) (nI j) (fun u1 g h1 hg => ?_) u f h hf (by omega)
    rw [show nI j + 1 = nI (j + 1) from (nI_succ j).symm]
    exact ih (j + 1) u1 g (by omega) h1 hg
end SaScript
/-! the machine: its steps and its place -/
def mQ (u0 u : ab_S) : Prop := CI u ∧ cS [7, 15, 16] u0 u ∧ u.1 7 0 5 = u0.1 7 0 5 ∧ ((∃ n, n < 128 ∧ u0.1 7 0 4 = nI n) → ∃ n, n < 128 ∧ u.1 7 0 4 = nI n)
theorem mQ.c {u0 u : ab_S} (h : mQ u0 u) : cP [7, 15, 16] u0 u := ⟨h.1, h.2.1⟩
theorem mQ.rf {u : ab_S} (h : CI u) : mQ u u := ⟨h, (cQ.rf h : cP [7, 15, 16] u u).2, rfl, fun h => h⟩
theorem mQ.trans {a b c : ab_S} (h : mQ a b) (g : mQ b c) (_ : True) : mQ a c := ⟨g.1, (h.c.trans g.c (fun _ q => q)).2, g.2.2.1.trans h.2.2.1, fun q => g.2.2.2 (h.2.2.2 q)⟩
theorem mQ.up {u0 u : ab_S} (h : mQ u0 u) {i k : Nat} {c : Nat} {v : Int32} (hc : cP [7, 15, 16] u0 (ab_ui u c i k v)) (h5 : ¬ (c = 7 ∧ (k = 4 ∨ k = 5))) : mQ u0 (ab_ui u c i k v) := ⟨hc.1, hc.2, (ab_up_n _ _ (by omega)).trans h.2.2.1, fun q => by
  obtain ⟨n, a, b⟩ := h.2.2.2 q
  exact ⟨n, a, (ab_up_n _ _ (by omega)).trans b⟩⟩
theorem mQ.ui {u0 u : ab_S} (h : mQ u0 u) {c i k : Nat} {v : Int32} (hf : (ci_free c k && !(c == 7 && k == 5)) = true) (hK : c ∈ [7, 15, 16]) : mQ u0 (ab_ui u c i k v) := by
  rw [Bool.and_eq_true] at hf
  refine h.up (h.c.ui hf.1 hK) ?_
  rintro ⟨rfl, rfl | rfl⟩
  · exact absurd hf.1 (by decide)
  · exact absurd hf.2 (by decide)
theorem mQ.m2 {u0 u : ab_S} (h : mQ u0 u) {n : Nat} (hn : n ≤ 168) : mQ u0 (ab_ui u 7 0 2 (nI n)) := h.up (h.c.m2 (by decide) hn) (by decide)
theorem mQ.m3 {u0 u : ab_S} (h : mQ u0 u) {n : Nat} (hn : n ≤ 128) : mQ u0 (ab_ui u 7 0 3 (nI n)) := h.up (h.c.m3 (by decide) hn) (by decide)
theorem mQ.m4 {u0 u : ab_S} (h : mQ u0 u) {n : Nat} (hn : n < 128) : mQ u0 (ab_ui u 7 0 4 (nI n)) := by
  have hc : cP [7, 15, 16] u0 (ab_ui u 7 0 4 (nI n)) := h.c.m4 (by decide) (by omega)
  exact ⟨hc.1, hc.2, (ui_n _ (by omega)).trans h.2.2.1, fun _ => ⟨n, hn, ui_s _⟩⟩

