/-! Forms: every call comes to its end. -/
section SaForm
variable {l : Launch} {D : va_G} {ca : Nat → ClassId}
theorem ci_cl_of {r : Int32} {n : Nat} (h : ci_cl r n) (hr : r = 5 ∨ r = 7 ∨ r = 8) : 2 ≤ n := h.1 hr
abbrev b_FM_start : ByteArray := prog_3_method_2_code
def y_FM_start : MethodName := ⟨"PolicyForge$Form", "start", "(III)LPolicyForge$Form;"⟩
theorem d_FM_start_0 : decode b_FM_start 0 = .ok (.aload_n 0, 1) := by decide +kernel
theorem d_FM_start_1 : decode b_FM_start 1 = .ok (.iload_n 1, 1) := by decide +kernel
theorem d_FM_start_2 : decode b_FM_start 2 = .ok (.putfield 24, 3) := by decide +kernel
theorem d_FM_start_5 : decode b_FM_start 5 = .ok (.aload_n 0, 1) := by decide +kernel
theorem d_FM_start_6 : decode b_FM_start 6 = .ok (.iload_n 2, 1) := by decide +kernel
theorem d_FM_start_7 : decode b_FM_start 7 = .ok (.putfield 28, 3) := by decide +kernel
theorem d_FM_start_10 : decode b_FM_start 10 = .ok (.aload_n 0, 1) := by decide +kernel
theorem d_FM_start_11 : decode b_FM_start 11 = .ok (.iload_n 3, 1) := by decide +kernel
theorem d_FM_start_12 : decode b_FM_start 12 = .ok (.putfield 31, 3) := by decide +kernel
theorem d_FM_start_15 : decode b_FM_start 15 = .ok (.aload_n 0, 1) := by decide +kernel
theorem d_FM_start_16 : decode b_FM_start 16 = .ok (.iconst 0, 1) := by decide +kernel
theorem d_FM_start_17 : decode b_FM_start 17 = .ok (.putfield 34, 3) := by decide +kernel
theorem d_FM_start_20 : decode b_FM_start 20 = .ok (.aload_n 0, 1) := by decide +kernel
theorem d_FM_start_21 : decode b_FM_start 21 = .ok (.areturn, 1) := by decide +kernel
set_option maxRecDepth 100000 in
set_option maxHeartbeats 1000000 in
theorem s_FM_start (u : ab_S) (f : Nat) (a b c' : Int32) (h : CIx f u) (hf : f < 61) : ab_C false l D ca y_FM_start b_FM_start 4 (some (FieldType.object "PolicyForge$Form")) 0 ab_nQ u [ab_O 3 f, ab_I a, ab_I b, ab_I c'] (fun u' v => (cQ f [3, 9] u u' ∧ (∀ o, o ≠ f → u'.1 3 o 7 = u.1 3 o 7 ∧ u'.1 3 o 4 = u.1 3 o 4) ∧ u'.1 3 f 4 = a ∧ u'.1 3 f 7 = nI 0) ∧ v = some (ab_O 3 f)) := by
  refine ab_C.of (by decide) (Nat.le_of_ble_eq_true rfl) ?_
  intro p e s m args below meth c ad X hZ hr0 hlk
  have P0 : cQ f [3, 9] u u := cQ.rf h
  refine ab_aload_n X 0 d_FM_start_0 rfl rfl ?_
  refine ab_iload_n X 1 d_FM_start_1 rfl rfl ?_
  refine ab_putI X fp_FM_24 d_FM_start_2 (by first | assumption | decide | (show _ < 124; omega) | (show _ < 61; omega) | (show _ < 20; omega)) rfl rfl ?_
  refine ab_gen (fun u2 e2 => ?_)
  have P2 : cQ f [3, 9] u u2 := by rw [e2]; exact P0.rule (by decide)
  refine ab_aload_n X 0 d_FM_start_5 rfl rfl ?_
  refine ab_iload_n X 2 d_FM_start_6 rfl rfl ?_
  refine ab_putI X fp_FM_28 d_FM_start_7 (by first | assumption | decide | (show _ < 124; omega) | (show _ < 61; omega) | (show _ < 20; omega)) rfl rfl ?_
  refine ab_gen (fun u7 e7 => ?_)
  have P7 : cQ f [3, 9] u u7 := by rw [e7]; exact P2.ui rfl (by decide)
  refine ab_aload_n X 0 d_FM_start_10 rfl rfl ?_
  refine ab_iload_n X 3 d_FM_start_11 rfl rfl ?_
  refine ab_putI X fp_FM_31 d_FM_start_12 (by first | assumption | decide | (show _ < 124; omega) | (show _ < 61; omega) | (show _ < 20; omega)) rfl rfl ?_
  refine ab_gen (fun u12 e12 => ?_)
  have P12 : cQ f [3, 9] u u12 := by rw [e12]; exact P7.ui rfl (by decide)
  refine ab_aload_n X 0 d_FM_start_15 rfl rfl ?_
  refine ab_iconst (v := 0) X d_FM_start_16 (by decide) ?_
  refine ab_putI X fp_FM_34 d_FM_start_17 (by first | assumption | decide | (show _ < 124; omega) | (show _ < 61; omega) | (show _ < 20; omega)) rfl rfl ?_
  refine ab_gen (fun u17 e17 => ?_)
  have P17 : cQ f [3, 9] u u17 := by rw [e17]; exact P12.fc (by decide) (n := 0) (by omega) (fun j hj => absurd hj (by omega))
  refine ab_aload_n X 0 d_FM_start_20 rfl rfl ?_
  exact ab_retr X hr0 hlk d_FM_start_21 ⟨⟨P17, fun o ho => by rw [e17, e12, e7, e2]; constructor <;> simp [ab_up, ho], by rw [e17, e12, e7, e2]; simp [ab_up], by rw [e17]; simp [ab_up]; rfl⟩, rfl⟩
abbrev b_FM_with : ByteArray := prog_3_method_3_code
def y_FM_with : MethodName := ⟨"PolicyForge$Form", "with", "(LPolicyForge$Form;)LPolicyForge$Form;"⟩
theorem d_FM_with_0 : decode b_FM_with 0 = .ok (.aload_n 0, 1) := by decide +kernel
theorem d_FM_with_1 : decode b_FM_with 1 = .ok (.getfield 34, 3) := by decide +kernel
theorem d_FM_with_4 : decode b_FM_with 4 = .ok (.iconst 4, 1) := by decide +kernel
theorem d_FM_with_5 : decode b_FM_with 5 = .ok (.if_icmp .ge 23, 3) := by decide +kernel
theorem d_FM_with_8 : decode b_FM_with 8 = .ok (.aload_n 0, 1) := by decide +kernel
theorem d_FM_with_9 : decode b_FM_with 9 = .ok (.getfield 11, 3) := by decide +kernel
theorem d_FM_with_12 : decode b_FM_with 12 = .ok (.aload_n 0, 1) := by decide +kernel
theorem d_FM_with_13 : decode b_FM_with 13 = .ok (.getfield 34, 3) := by decide +kernel
theorem d_FM_with_16 : decode b_FM_with 16 = .ok (.aload_n 1, 1) := by decide +kernel
theorem d_FM_with_17 : decode b_FM_with 17 = .ok (.aastore, 1) := by decide +kernel
theorem d_FM_with_18 : decode b_FM_with 18 = .ok (.aload_n 0, 1) := by decide +kernel
theorem d_FM_with_19 : decode b_FM_with 19 = .ok (.dup, 1) := by decide +kernel
theorem d_FM_with_20 : decode b_FM_with 20 = .ok (.getfield 34, 3) := by decide +kernel
theorem d_FM_with_23 : decode b_FM_with 23 = .ok (.iconst 1, 1) := by decide +kernel
theorem d_FM_with_24 : decode b_FM_with 24 = .ok (.iadd, 1) := by decide +kernel
theorem d_FM_with_25 : decode b_FM_with 25 = .ok (.putfield 34, 3) := by decide +kernel
theorem d_FM_with_28 : decode b_FM_with 28 = .ok (.aload_n 0, 1) := by decide +kernel
theorem d_FM_with_29 : decode b_FM_with 29 = .ok (.areturn, 1) := by decide +kernel
theorem fl_FM_34 : ab_fl "PolicyForge$Form" 34 3 7 0 := ⟨rfl, R_FM, T_FM, 10, rfl, uw_FM, by decide, rfl, (ab_in 185 (by decide +kernel) (by decide +kernel))⟩
theorem fl_FM_11 : ab_fl "PolicyForge$Form" 11 3 0 1 := ⟨rfl, R_FM, T_FM, 10, rfl, uw_FM, by decide, rfl, (ab_in 172 (by decide +kernel) (by decide +kernel))⟩
set_option maxRecDepth 100000 in
set_option maxHeartbeats 1000000 in
theorem s_FM_with (u : ab_S) (f g k : Nat) (h : CIx f u) (hf : f < 61) (hg : g < 61) (ek : u.1 3 f 7 = nI k) (hk : k < 4) : ab_C false l D ca y_FM_with b_FM_with 2 (some (FieldType.object "PolicyForge$Form")) 0 ab_nQ u [ab_O 3 f, ab_O 3 g] (fun u' v => (cQ f [3, 9] u u' ∧ (∀ o, o ≠ f → u'.1 3 o 7 = u.1 3 o 7 ∧ u'.1 3 o 4 = u.1 3 o 4) ∧ u'.1 3 f 4 = u.1 3 f 4 ∧ u'.1 3 f 7 = nI (k + 1)) ∧ v = some (ab_O 3 f)) := by
  refine ab_C.of (by decide) (Nat.le_of_ble_eq_true rfl) ?_
  intro p e s m args below meth c ad X hZ hr0 hlk
  have P0 : cQ f [3, 9] u u := cQ.rf h
  have he : ∀ j, j < k → ∃ g, g < 61 ∧ u.2.1 9 f j = some (3, g) := by
    obtain ⟨n, a1, a2, a3, -⟩ := h.form hf
    have : n = k := (nI_eq (by omega) (by omega)).mp (a2.symm.trans ek)
    subst this
    exact a3
  refine ab_aload_n X 0 d_FM_with_0 rfl rfl ?_
  refine ab_gI X fl_FM_34 d_FM_with_1 (by first | assumption | decide | (show _ < 124; omega) | (show _ < 61; omega) | (show _ < 20; omega)) (ek) ?_
  refine ab_iconst (v := 4) X d_FM_with_4 (by decide) ?_
  refine ab_icmp_ge X 28 d_FM_with_5 rfl (fun hb => absurd hb ((nI_ge (b := 4) hk (by decide)))) (fun _ => ?_)
  refine ab_aload_n X 0 d_FM_with_8 rfl rfl ?_
  refine ab_gR X fl_FM_11 d_FM_with_9 (by first | assumption | decide | (show _ < 124; omega) | (show _ < 61; omega) | (show _ < 20; omega)) (P0.1.fm0 (by first | assumption | decide | omega)) ?_
  refine ab_aload_n X 0 d_FM_with_12 rfl rfl ?_
  refine ab_gI X fl_FM_34 d_FM_with_13 (by first | assumption | decide | (show _ < 124; omega) | (show _ < 61; omega) | (show _ < 20; omega)) (ek) ?_
  refine ab_aload_n X 1 d_FM_with_16 rfl rfl ?_
  refine ab_aast X (k) ⟨rfl, rfl, _, rfl, fun _ => rfl⟩ d_FM_with_17 (by first | assumption | decide | (show _ < 124; omega) | (show _ < 61; omega) | (show _ < 20; omega)) (by first | assumption | decide | (show _ < 124; omega) | (show _ < 61; omega) | (show _ < 20; omega)) (rfl) (hk) (ab_ln_lt _ _) ?_
  refine ab_gen (fun u17 e17 => ?_)
  have P17 : cQ f [3, 9] u u17 := by rw [e17]; exact P0.tk (by decide) hg
  refine ab_aload_n X 0 d_FM_with_18 rfl rfl ?_
  refine ab_dup X d_FM_with_19 rfl ?_
  refine ab_gI X fl_FM_34 d_FM_with_20 (by first | assumption | decide | (show _ < 124; omega) | (show _ < 61; omega) | (show _ < 20; omega)) ((show _ = nI k by rw [e17]; exact ek)) ?_
  refine ab_iconst (v := 1) X d_FM_with_23 (by decide) ?_
  refine ab_iadd X d_FM_with_24 ?_
  refine ab_top (nI_1 _) ?_
  refine ab_putI X fp_FM_34 d_FM_with_25 (by first | assumption | decide | (show _ < 124; omega) | (show _ < 61; omega) | (show _ < 20; omega)) rfl rfl ?_
  refine ab_gen (fun u25 e25 => ?_)
  have P25 : cQ f [3, 9] u u25 := by rw [e25]; exact P17.fc (by decide) (by omega) (fun j hj => by
      by_cases q : j = k
      · subst q; rw [e17]; exact ⟨g, hg, ab_up_s _ _ _ _ _⟩
      · obtain ⟨g', g1, g2⟩ := he j (by omega)
        refine ⟨g', g1, ?_⟩
        rw [e17]
        exact (ab_up_n _ _ (by omega)).trans g2)
  refine ab_aload_n X 0 d_FM_with_28 rfl rfl ?_
  exact ab_retr X hr0 hlk d_FM_with_29 ⟨⟨P25, fun o ho => by rw [e25, e17]; constructor <;> simp [ab_up, ho], by rw [e25, e17]; simp [ab_up], by rw [e25]; simp [ab_up]⟩, rfl⟩
theorem ci_tw {n : Nat} (h : n ≤ 4) : (1 : Int32) <<< (nI n &&& 31) = nI (2 ^ n) ∧ 2 ^ n ≤ 16 := by
  have : n = 0 ∨ n = 1 ∨ n = 2 ∨ n = 3 ∨ n = 4 := by omega
  rcases this with rfl | rfl | rfl | rfl | rfl <;> decide
abbrev b_FM_countWords : ByteArray := prog_3_method_5_code
def y_FM_countWords : MethodName := ⟨"PolicyForge$Form", "countWords", "()I"⟩
theorem d_FM_countWords_0 : decode b_FM_countWords 0 = .ok (.iconst 0, 1) := by decide +kernel
theorem d_FM_countWords_1 : decode b_FM_countWords 1 = .ok (.istore_n 1, 1) := by decide +kernel
theorem d_FM_countWords_2 : decode b_FM_countWords 2 = .ok (.iconst 0, 1) := by decide +kernel
theorem d_FM_countWords_3 : decode b_FM_countWords 3 = .ok (.istore_n 2, 1) := by decide +kernel
theorem d_FM_countWords_4 : decode b_FM_countWords 4 = .ok (.iload_n 2, 1) := by decide +kernel
theorem d_FM_countWords_5 : decode b_FM_countWords 5 = .ok (.aload_n 0, 1) := by decide +kernel
theorem d_FM_countWords_6 : decode b_FM_countWords 6 = .ok (.getfield 34, 3) := by decide +kernel
theorem d_FM_countWords_9 : decode b_FM_countWords 9 = .ok (.if_icmp .ge 21, 3) := by decide +kernel
theorem d_FM_countWords_12 : decode b_FM_countWords 12 = .ok (.iload_n 1, 1) := by decide +kernel
theorem d_FM_countWords_13 : decode b_FM_countWords 13 = .ok (.aload_n 0, 1) := by decide +kernel
theorem d_FM_countWords_14 : decode b_FM_countWords 14 = .ok (.getfield 11, 3) := by decide +kernel
theorem d_FM_countWords_17 : decode b_FM_countWords 17 = .ok (.iload_n 2, 1) := by decide +kernel
theorem d_FM_countWords_18 : decode b_FM_countWords 18 = .ok (.aaload, 1) := by decide +kernel
theorem d_FM_countWords_19 : decode b_FM_countWords 19 = .ok (.getfield 37, 3) := by decide +kernel
theorem d_FM_countWords_22 : decode b_FM_countWords 22 = .ok (.iadd, 1) := by decide +kernel
theorem d_FM_countWords_23 : decode b_FM_countWords 23 = .ok (.istore_n 1, 1) := by decide +kernel
theorem d_FM_countWords_24 : decode b_FM_countWords 24 = .ok (.iinc 2 1, 3) := by decide +kernel
theorem d_FM_countWords_27 : decode b_FM_countWords 27 = .ok (.goto (-23), 3) := by decide +kernel
theorem d_FM_countWords_30 : decode b_FM_countWords 30 = .ok (.aload_n 0, 1) := by decide +kernel
theorem d_FM_countWords_31 : decode b_FM_countWords 31 = .ok (.getfield 24, 3) := by decide +kernel
theorem d_FM_countWords_34 : decode b_FM_countWords 34 = .ok (.tableswitch 94 1 8 #[46, 94, 48, 52, 78, 82, 86, 90], 46) := by decide +kernel
theorem d_FM_countWords_80 : decode b_FM_countWords 80 = .ok (.iconst 1, 1) := by decide +kernel
theorem d_FM_countWords_81 : decode b_FM_countWords 81 = .ok (.ireturn, 1) := by decide +kernel
theorem d_FM_countWords_82 : decode b_FM_countWords 82 = .ok (.iload_n 1, 1) := by decide +kernel
theorem d_FM_countWords_83 : decode b_FM_countWords 83 = .ok (.iconst 1, 1) := by decide +kernel
theorem d_FM_countWords_84 : decode b_FM_countWords 84 = .ok (.iadd, 1) := by decide +kernel
theorem d_FM_countWords_85 : decode b_FM_countWords 85 = .ok (.ireturn, 1) := by decide +kernel
theorem d_FM_countWords_86 : decode b_FM_countWords 86 = .ok (.iload_n 1, 1) := by decide +kernel
theorem d_FM_countWords_87 : decode b_FM_countWords 87 = .ok (.iconst 3, 1) := by decide +kernel
theorem d_FM_countWords_88 : decode b_FM_countWords 88 = .ok (.aload_n 0, 1) := by decide +kernel
theorem d_FM_countWords_89 : decode b_FM_countWords 89 = .ok (.getfield 34, 3) := by decide +kernel
theorem d_FM_countWords_92 : decode b_FM_countWords 92 = .ok (.iconst 1, 1) := by decide +kernel
theorem d_FM_countWords_93 : decode b_FM_countWords 93 = .ok (.isub, 1) := by decide +kernel
theorem d_FM_countWords_94 : decode b_FM_countWords 94 = .ok (.imul, 1) := by decide +kernel
theorem d_FM_countWords_95 : decode b_FM_countWords 95 = .ok (.iadd, 1) := by decide +kernel
theorem d_FM_countWords_96 : decode b_FM_countWords 96 = .ok (.aload_n 0, 1) := by decide +kernel
theorem d_FM_countWords_97 : decode b_FM_countWords 97 = .ok (.getfield 28, 3) := by decide +kernel
theorem d_FM_countWords_100 : decode b_FM_countWords 100 = .ok (.bipush 8, 2) := by decide +kernel
theorem d_FM_countWords_102 : decode b_FM_countWords 102 = .ok (.if_icmp .ne 7, 3) := by decide +kernel
theorem d_FM_countWords_105 : decode b_FM_countWords 105 = .ok (.iconst 1, 1) := by decide +kernel
theorem d_FM_countWords_106 : decode b_FM_countWords 106 = .ok (.goto 4, 3) := by decide +kernel
theorem d_FM_countWords_109 : decode b_FM_countWords 109 = .ok (.iconst 0, 1) := by decide +kernel
theorem d_FM_countWords_110 : decode b_FM_countWords 110 = .ok (.iadd, 1) := by decide +kernel
theorem d_FM_countWords_111 : decode b_FM_countWords 111 = .ok (.ireturn, 1) := by decide +kernel
theorem d_FM_countWords_112 : decode b_FM_countWords 112 = .ok (.iload_n 1, 1) := by decide +kernel
theorem d_FM_countWords_113 : decode b_FM_countWords 113 = .ok (.iconst 3, 1) := by decide +kernel
theorem d_FM_countWords_114 : decode b_FM_countWords 114 = .ok (.iadd, 1) := by decide +kernel
theorem d_FM_countWords_115 : decode b_FM_countWords 115 = .ok (.ireturn, 1) := by decide +kernel
theorem d_FM_countWords_116 : decode b_FM_countWords 116 = .ok (.iload_n 1, 1) := by decide +kernel
theorem d_FM_countWords_117 : decode b_FM_countWords 117 = .ok (.iconst 4, 1) := by decide +kernel
theorem d_FM_countWords_118 : decode b_FM_countWords 118 = .ok (.iadd, 1) := by decide +kernel
theorem d_FM_countWords_119 : decode b_FM_countWords 119 = .ok (.ireturn, 1) := by decide +kernel
theorem d_FM_countWords_120 : decode b_FM_countWords 120 = .ok (.iload_n 1, 1) := by decide +kernel
theorem d_FM_countWords_121 : decode b_FM_countWords 121 = .ok (.iconst 3, 1) := by decide +kernel
theorem d_FM_countWords_122 : decode b_FM_countWords 122 = .ok (.iadd, 1) := by decide +kernel
theorem d_FM_countWords_123 : decode b_FM_countWords 123 = .ok (.ireturn, 1) := by decide +kernel
theorem d_FM_countWords_124 : decode b_FM_countWords 124 = .ok (.iload_n 1, 1) := by decide +kernel
theorem d_FM_countWords_125 : decode b_FM_countWords 125 = .ok (.iconst 2, 1) := by decide +kernel
theorem d_FM_countWords_126 : decode b_FM_countWords 126 = .ok (.iadd, 1) := by decide +kernel
theorem d_FM_countWords_127 : decode b_FM_countWords 127 = .ok (.ireturn, 1) := by decide +kernel
theorem d_FM_countWords_128 : decode b_FM_countWords 128 = .ok (.iload_n 1, 1) := by decide +kernel
theorem d_FM_countWords_129 : decode b_FM_countWords 129 = .ok (.ireturn, 1) := by decide +kernel
theorem fl_FM_37 : ab_fl "PolicyForge$Form" 37 3 8 0 := ⟨rfl, R_FM, T_FM, 10, rfl, uw_FM, by decide, rfl, (ab_in 187 (by decide +kernel) (by decide +kernel))⟩
theorem fl_FM_24 : ab_fl "PolicyForge$Form" 24 3 4 0 := ⟨rfl, R_FM, T_FM, 10, rfl, uw_FM, by decide, rfl, (ab_in 178 (by decide +kernel) (by decide +kernel))⟩
theorem fl_FM_28 : ab_fl "PolicyForge$Form" 28 3 5 0 := ⟨rfl, R_FM, T_FM, 10, rfl, uw_FM, by decide, rfl, (ab_in 181 (by decide +kernel) (by decide +kernel))⟩
set_option maxRecDepth 100000 in
set_option maxHeartbeats 1000000 in
theorem t_FM_countWords (u : ab_S) (f : Nat) (h : CI u) (hf : f < 61) : ab_C false l D ca y_FM_countWords b_FM_countWords 3 (some FieldType.int) 0 ab_nQ u [ab_O 3 f] (fun u' v => u' = u ∧ ∃ x : Int32, v = some (ab_I x)) := by
  refine ab_C.of (by decide) (Nat.le_of_ble_eq_true rfl) ?_
  intro p e s m args below meth c ad X hZ hr0 hlk
  have P0 : cP [4, 8] u u := cQ.rf h
  obtain ⟨n, hn, en, he, -⟩ := h.form hf
  have loop : ∀ (k j : Nat) (y : Int32), k + j = 4 → ab_J p l e (ab_rm 0 0 0) s m args below meth c (MQ below (ab_Q D ca ad ab_nQ s.heap.size (fun u' v => u' = u ∧ ∃ x : Int32, v = some (ab_I x))) args s 0 0 (ab_A ad ab_nQ s.heap.size)) D ca (ab_A ad ab_nQ s.heap.size) s.heap 3 0 0 ad ab_nQ u 4 [(2, ab_I (nI j)), (1, ab_I y), (0, ab_O 3 f)] [] := by
    intro k
    induction k with
    | zero =>
      intro j y hj
      refine ab_iload_n X 0 d_FM_countWords_4 rfl rfl ?_
      refine ab_aload_n X 2 d_FM_countWords_5 rfl rfl ?_
      refine ab_gI X fl_FM_34 d_FM_countWords_6 (by first | assumption | decide | (show _ < 124; omega) | (show _ < 61; omega) | (show _ < 20; omega)) (en) ?_
      refine ab_icmp_ge X 30 d_FM_countWords_9 rfl (fun _ => ?_) (fun hb => absurd ((nI_le (by omega) (by omega))) hb)
      refine ab_aload_n X 2 d_FM_countWords_30 rfl rfl ?_
      refine ab_gI X fl_FM_24 d_FM_countWords_31 (by first | assumption | decide | (show _ < 124; omega) | (show _ < 61; omega) | (show _ < 20; omega)) (rfl) ?_
      refine ab_tsw X [(1, 80), (3, 82), (4, 86), (5, 112), (6, 116), (7, 120), (8, 124)] 128 d_FM_countWords_34 (by decide +kernel) rfl (List.forall_mem_cons.mpr ⟨fun h34_1 => ?_, List.forall_mem_cons.mpr ⟨fun h34_3 => ?_, List.forall_mem_cons.mpr ⟨fun h34_4 => ?_, List.forall_mem_cons.mpr ⟨fun h34_5 => ?_, List.forall_mem_cons.mpr ⟨fun h34_6 => ?_, List.forall_mem_cons.mpr ⟨fun h34_7 => ?_, List.forall_mem_cons.mpr ⟨fun h34_8 => ?_, fun _ h => absurd h List.not_mem_nil⟩⟩⟩⟩⟩⟩⟩) (fun h34 => ?_)
      ·
        refine ab_iconst (v := 1) X d_FM_countWords_80 (by decide) ?_
        exact ab_reti X hr0 hlk d_FM_countWords_81 ⟨rfl, _, rfl⟩
      ·
        refine ab_iload_n X 1 d_FM_countWords_82 rfl rfl ?_
        refine ab_iconst (v := 1) X d_FM_countWords_83 (by decide) ?_
        refine ab_iadd X d_FM_countWords_84 ?_
        exact ab_reti X hr0 hlk d_FM_countWords_85 ⟨rfl, _, rfl⟩
      ·
        refine ab_iload_n X 1 d_FM_countWords_86 rfl rfl ?_
        refine ab_iconst (v := 3) X d_FM_countWords_87 (by decide) ?_
        refine ab_aload_n X 2 d_FM_countWords_88 rfl rfl ?_
        refine ab_gI X fl_FM_34 d_FM_countWords_89 (by first | assumption | decide | (show _ < 124; omega) | (show _ < 61; omega) | (show _ < 20; omega)) (rfl) ?_
        refine ab_iconst (v := 1) X d_FM_countWords_92 (by decide) ?_
        refine ab_isub X d_FM_countWords_93 ?_
        refine ab_imul X d_FM_countWords_94 ?_
        refine ab_iadd X d_FM_countWords_95 ?_
        refine ab_aload_n X 2 d_FM_countWords_96 rfl rfl ?_
        refine ab_gI X fl_FM_28 d_FM_countWords_97 (by first | assumption | decide | (show _ < 124; omega) | (show _ < 61; omega) | (show _ < 20; omega)) (rfl) ?_
        refine ab_bipush (v := 8) X d_FM_countWords_100 (by decide) ?_
        refine ab_icmp_ne X 109 d_FM_countWords_102 rfl (fun h102 => ?_) (fun h102 => ?_)
        ·
          refine ab_iconst (v := 0) X d_FM_countWords_109 (by decide) ?_
          refine ab_iadd X d_FM_countWords_110 ?_
          exact ab_reti X hr0 hlk d_FM_countWords_111 ⟨rfl, _, rfl⟩
        ·
          refine ab_iconst (v := 1) X d_FM_countWords_105 (by decide) ?_
          refine ab_goto X 110 d_FM_countWords_106 rfl ?_
          refine ab_iadd X d_FM_countWords_110 ?_
          exact ab_reti X hr0 hlk d_FM_countWords_111 ⟨rfl, _, rfl⟩
      ·
        refine ab_iload_n X 1 d_FM_countWords_112 rfl rfl ?_
        refine ab_iconst (v := 3) X d_FM_countWords_113 (by decide) ?_
        refine ab_iadd X d_FM_countWords_114 ?_
        exact ab_reti X hr0 hlk d_FM_countWords_115 ⟨rfl, _, rfl⟩
      ·
        refine ab_iload_n X 1 d_FM_countWords_116 rfl rfl ?_
        refine ab_iconst (v := 4) X d_FM_countWords_117 (by decide) ?_
        refine ab_iadd X d_FM_countWords_118 ?_
        exact ab_reti X hr0 hlk d_FM_countWords_119 ⟨rfl, _, rfl⟩
      ·
        refine ab_iload_n X 1 d_FM_countWords_120 rfl rfl ?_
        refine ab_iconst (v := 3) X d_FM_countWords_121 (by decide) ?_
        refine ab_iadd X d_FM_countWords_122 ?_
        exact ab_reti X hr0 hlk d_FM_countWords_123 ⟨rfl, _, rfl⟩
      ·
        refine ab_iload_n X 1 d_FM_countWords_124 rfl rfl ?_
        refine ab_iconst (v := 2) X d_FM_countWords_125 (by decide) ?_
        refine ab_iadd X d_FM_countWords_126 ?_
        exact ab_reti X hr0 hlk d_FM_countWords_127 ⟨rfl, _, rfl⟩
      ·
        refine ab_iload_n X 1 d_FM_countWords_128 rfl rfl ?_
        exact ab_reti X hr0 hlk d_FM_countWords_129 ⟨rfl, _, rfl⟩
    | succ k ih =>
      intro j y hj
      refine ab_iload_n X 0 d_FM_countWords_4 rfl rfl ?_
      refine ab_aload_n X 2 d_FM_countWords_5 rfl rfl ?_
      refine ab_gI X fl_FM_34 d_FM_countWords_6 (by first | assumption | decide | (show _ < 124; omega) | (show _ < 61; omega) | (show _ < 20; omega)) (en) ?_
      refine ab_icmp_ge X 30 d_FM_countWords_9 rfl (fun h9 => ?_) (fun h9 => ?_)
      ·
        refine ab_aload_n X 2 d_FM_countWords_30 rfl rfl ?_
        refine ab_gI X fl_FM_24 d_FM_countWords_31 (by first | assumption | decide | (show _ < 124; omega) | (show _ < 61; omega) | (show _ < 20; omega)) (rfl) ?_
        refine ab_tsw X [(1, 80), (3, 82), (4, 86), (5, 112), (6, 116), (7, 120), (8, 124)] 128 d_FM_countWords_34 (by decide +kernel) rfl (List.forall_mem_cons.mpr ⟨fun h34_1 => ?_, List.forall_mem_cons.mpr ⟨fun h34_3 => ?_, List.forall_mem_cons.mpr ⟨fun h34_4 => ?_, List.forall_mem_cons.mpr ⟨fun h34_5 => ?_, List.forall_mem_cons.mpr ⟨fun h34_6 => ?_, List.forall_mem_cons.mpr ⟨fun h34_7 => ?_, List.forall_mem_cons.mpr ⟨fun h34_8 => ?_, fun _ h => absurd h List.not_mem_nil⟩⟩⟩⟩⟩⟩⟩) (fun h34 => ?_)
        ·
          refine ab_iconst (v := 1) X d_FM_countWords_80 (by decide) ?_
          exact ab_reti X hr0 hlk d_FM_countWords_81 ⟨rfl, _, rfl⟩
        ·
          refine ab_iload_n X 1 d_FM_countWords_82 rfl rfl ?_
          refine ab_iconst (v := 1) X d_FM_countWords_83 (by decide) ?_
          refine ab_iadd X d_FM_countWords_84 ?_
          exact ab_reti X hr0 hlk d_FM_countWords_85 ⟨rfl, _, rfl⟩
        ·
          refine ab_iload_n X 1 d_FM_countWords_86 rfl rfl ?_
          refine ab_iconst (v := 3) X d_FM_countWords_87 (by decide) ?_
          refine ab_aload_n X 2 d_FM_countWords_88 rfl rfl ?_
          refine ab_gI X fl_FM_34 d_FM_countWords_89 (by first | assumption | decide | (show _ < 124; omega) | (show _ < 61; omega) | (show _ < 20; omega)) (rfl) ?_
          refine ab_iconst (v := 1) X d_FM_countWords_92 (by decide) ?_
          refine ab_isub X d_FM_countWords_93 ?_
          refine ab_imul X d_FM_countWords_94 ?_
          refine ab_iadd X d_FM_countWords_95 ?_
          refine ab_aload_n X 2 d_FM_countWords_96 rfl rfl ?_
          refine ab_gI X fl_FM_28 d_FM_countWords_97 (by first | assumption | decide | (show _ < 124; omega) | (show _ < 61; omega) | (show _ < 20; omega)) (rfl) ?_
          refine ab_bipush (v := 8) X d_FM_countWords_100 (by decide) ?_
          refine ab_icmp_ne X 109 d_FM_countWords_102 rfl (fun h102 => ?_) (fun h102 => ?_)
          ·
            refine ab_iconst (v := 0) X d_FM_countWords_109 (by decide) ?_
            refine ab_iadd X d_FM_countWords_110 ?_
            exact ab_reti X hr0 hlk d_FM_countWords_111 ⟨rfl, _, rfl⟩
          ·
            refine ab_iconst (v := 1) X d_FM_countWords_105 (by decide) ?_
            refine ab_goto X 110 d_FM_countWords_106 rfl ?_
            refine ab_iadd X d_FM_countWords_110 ?_
            exact ab_reti X hr0 hlk d_FM_countWords_111 ⟨rfl, _, rfl⟩
        ·
          refine ab_iload_n X 1 d_FM_countWords_112 rfl rfl ?_
          refine ab_iconst (v := 3) X d_FM_countWords_113 (by decide) ?_
          refine ab_iadd X d_FM_countWords_114 ?_
          exact ab_reti X hr0 hlk d_FM_countWords_115 ⟨rfl, _, rfl⟩
        ·
          refine ab_iload_n X 1 d_FM_countWords_116 rfl rfl ?_
          refine ab_iconst (v := 4) X d_FM_countWords_117 (by decide) ?_
          refine ab_iadd X d_FM_countWords_118 ?_
          exact ab_reti X hr0 hlk d_FM_countWords_119 ⟨rfl, _, rfl⟩
        ·
          refine ab_iload_n X 1 d_FM_countWords_120 rfl rfl ?_
          refine ab_iconst (v := 3) X d_FM_countWords_121 (by decide) ?_
          refine ab_iadd X d_FM_countWords_122 ?_
          exact ab_reti X hr0 hlk d_FM_countWords_123 ⟨rfl, _, rfl⟩
        ·
          refine ab_iload_n X 1 d_FM_countWords_124 rfl rfl ?_
          refine ab_iconst (v := 2) X d_FM_countWords_125 (by decide) ?_
          refine ab_iadd X d_FM_countWords_126 ?_
          exact ab_reti X hr0 hlk d_FM_countWords_127 ⟨rfl, _, rfl⟩
        ·
          refine ab_iload_n X 1 d_FM_countWords_128 rfl rfl ?_
          exact ab_reti X hr0 hlk d_FM_countWords_129 ⟨rfl, _, rfl⟩
      ·
        have hjn := nI_lt_of h9 (by omega)
        obtain ⟨g, hg, eg⟩ := he j hjn
        refine ab_iload_n X 1 d_FM_countWords_12 rfl rfl ?_
        refine ab_aload_n X 2 d_FM_countWords_13 rfl rfl ?_
        refine ab_gR X fl_FM_11 d_FM_countWords_14 (by first | assumption | decide | (show _ < 124; omega) | (show _ < 61; omega) | (show _ < 20; omega)) (P0.1.fm0 (by first | assumption | decide | omega)) ?_
        refine ab_iload_n X 0 d_FM_countWords_17 rfl rfl ?_
        refine ab_aalv X (j) ⟨rfl, _, fun _ => rfl⟩ d_FM_countWords_18 (by first | assumption | decide | (show _ < 124; omega) | (show _ < 61; omega) | (show _ < 20; omega)) (rfl) (show j < 4 by omega) (ab_ln_lt _ _) (eg) ?_
        refine ab_gI X fl_FM_37 d_FM_countWords_19 (by first | assumption | decide | (show _ < 124; omega) | (show _ < 61; omega) | (show _ < 20; omega)) (rfl) ?_
        refine ab_iadd X d_FM_countWords_22 ?_
        refine ab_istore_n2 X 0 2 d_FM_countWords_23 rfl (by decide) rfl rfl rfl rfl ?_
        refine ab_iinc2 X 1 0 2 d_FM_countWords_24 rfl (by decide) rfl rfl rfl rfl ?_
        refine ab_goto X 4 d_FM_countWords_27 rfl ?_
        rw [show nI j + Int32.ofInt 1 = nI (j + 1) from nI_1 j]
        exact ih (j + 1) _ (by omega)
  refine ab_iconst (v := 0) X d_FM_countWords_0 (by decide) ?_
  refine ab_istore_n1 X 0 d_FM_countWords_1 rfl (by decide) rfl rfl ?_
  refine ab_iconst (v := 0) X d_FM_countWords_2 (by decide) ?_
  refine ab_istore_n2 X 0 1 d_FM_countWords_3 rfl (by decide) rfl rfl rfl rfl ?_
  exact loop 4 0 _ rfl
abbrev b_JI_bitCount : ByteArray := prog_15_method_49_code
def y_JI_bitCount : MethodName := ⟨"java/lang/Integer", "bitCount", "(I)I"⟩
theorem d_JI_bitCount_0 : decode b_JI_bitCount 0 = .ok (.iload_n 0, 1) := by decide +kernel
theorem d_JI_bitCount_1 : decode b_JI_bitCount 1 = .ok (.iload_n 0, 1) := by decide +kernel
theorem d_JI_bitCount_2 : decode b_JI_bitCount 2 = .ok (.iconst 1, 1) := by decide +kernel
theorem d_JI_bitCount_3 : decode b_JI_bitCount 3 = .ok (.iushr, 1) := by decide +kernel
theorem d_JI_bitCount_4 : decode b_JI_bitCount 4 = .ok (.ldc_w 265, 3) := by decide +kernel
theorem d_JI_bitCount_7 : decode b_JI_bitCount 7 = .ok (.iand, 1) := by decide +kernel
theorem d_JI_bitCount_8 : decode b_JI_bitCount 8 = .ok (.isub, 1) := by decide +kernel
theorem d_JI_bitCount_9 : decode b_JI_bitCount 9 = .ok (.istore_n 0, 1) := by decide +kernel
theorem d_JI_bitCount_10 : decode b_JI_bitCount 10 = .ok (.iload_n 0, 1) := by decide +kernel
theorem d_JI_bitCount_11 : decode b_JI_bitCount 11 = .ok (.ldc_w 266, 3) := by decide +kernel
theorem d_JI_bitCount_14 : decode b_JI_bitCount 14 = .ok (.iand, 1) := by decide +kernel
theorem d_JI_bitCount_15 : decode b_JI_bitCount 15 = .ok (.iload_n 0, 1) := by decide +kernel
theorem d_JI_bitCount_16 : decode b_JI_bitCount 16 = .ok (.iconst 2, 1) := by decide +kernel
theorem d_JI_bitCount_17 : decode b_JI_bitCount 17 = .ok (.iushr, 1) := by decide +kernel
theorem d_JI_bitCount_18 : decode b_JI_bitCount 18 = .ok (.ldc_w 266, 3) := by decide +kernel
theorem d_JI_bitCount_21 : decode b_JI_bitCount 21 = .ok (.iand, 1) := by decide +kernel
theorem d_JI_bitCount_22 : decode b_JI_bitCount 22 = .ok (.iadd, 1) := by decide +kernel
theorem d_JI_bitCount_23 : decode b_JI_bitCount 23 = .ok (.istore_n 0, 1) := by decide +kernel
theorem d_JI_bitCount_24 : decode b_JI_bitCount 24 = .ok (.iload_n 0, 1) := by decide +kernel
theorem d_JI_bitCount_25 : decode b_JI_bitCount 25 = .ok (.iload_n 0, 1) := by decide +kernel
theorem d_JI_bitCount_26 : decode b_JI_bitCount 26 = .ok (.iconst 4, 1) := by decide +kernel
theorem d_JI_bitCount_27 : decode b_JI_bitCount 27 = .ok (.iushr, 1) := by decide +kernel
theorem d_JI_bitCount_28 : decode b_JI_bitCount 28 = .ok (.iadd, 1) := by decide +kernel
theorem d_JI_bitCount_29 : decode b_JI_bitCount 29 = .ok (.ldc_w 267, 3) := by decide +kernel
theorem d_JI_bitCount_32 : decode b_JI_bitCount 32 = .ok (.iand, 1) := by decide +kernel
theorem d_JI_bitCount_33 : decode b_JI_bitCount 33 = .ok (.istore_n 0, 1) := by decide +kernel
theorem d_JI_bitCount_34 : decode b_JI_bitCount 34 = .ok (.iload_n 0, 1) := by decide +kernel
theorem d_JI_bitCount_35 : decode b_JI_bitCount 35 = .ok (.iload_n 0, 1) := by decide +kernel
theorem d_JI_bitCount_36 : decode b_JI_bitCount 36 = .ok (.bipush 8, 2) := by decide +kernel
theorem d_JI_bitCount_38 : decode b_JI_bitCount 38 = .ok (.iushr, 1) := by decide +kernel
theorem d_JI_bitCount_39 : decode b_JI_bitCount 39 = .ok (.iadd, 1) := by decide +kernel
theorem d_JI_bitCount_40 : decode b_JI_bitCount 40 = .ok (.istore_n 0, 1) := by decide +kernel
theorem d_JI_bitCount_41 : decode b_JI_bitCount 41 = .ok (.iload_n 0, 1) := by decide +kernel
theorem d_JI_bitCount_42 : decode b_JI_bitCount 42 = .ok (.iload_n 0, 1) := by decide +kernel
theorem d_JI_bitCount_43 : decode b_JI_bitCount 43 = .ok (.bipush 16, 2) := by decide +kernel
theorem d_JI_bitCount_45 : decode b_JI_bitCount 45 = .ok (.iushr, 1) := by decide +kernel
theorem d_JI_bitCount_46 : decode b_JI_bitCount 46 = .ok (.iadd, 1) := by decide +kernel
theorem d_JI_bitCount_47 : decode b_JI_bitCount 47 = .ok (.istore_n 0, 1) := by decide +kernel
theorem d_JI_bitCount_48 : decode b_JI_bitCount 48 = .ok (.iload_n 0, 1) := by decide +kernel
theorem d_JI_bitCount_49 : decode b_JI_bitCount 49 = .ok (.bipush 63, 2) := by decide +kernel
theorem d_JI_bitCount_51 : decode b_JI_bitCount 51 = .ok (.iand, 1) := by decide +kernel
theorem d_JI_bitCount_52 : decode b_JI_bitCount 52 = .ok (.ireturn, 1) := by decide +kernel
set_option maxRecDepth 100000 in
set_option maxHeartbeats 1000000 in
theorem t_JI_bitCount (u : ab_S) (x : Int32) : ab_C false l D ca y_JI_bitCount b_JI_bitCount 1 (some FieldType.int) 0 ab_nQ u [ab_I x] (fun u' v => u' = u ∧ ∃ x : Int32, v = some (ab_I x)) := by
  refine ab_C.of (by decide) (Nat.le_of_ble_eq_true rfl) ?_
  intro p e s m args below meth c ad X hZ hr0 hlk
  refine ab_iload_n X 0 d_JI_bitCount_0 rfl rfl ?_
  refine ab_iload_n X 0 d_JI_bitCount_1 rfl rfl ?_
  refine ab_iconst (v := 1) X d_JI_bitCount_2 (by decide) ?_
  refine ab_iushr X d_JI_bitCount_3 ?_
  refine ab_ldcw X (v := 1431655765) (ab_in 639 (by decide +kernel) (by decide +kernel)) d_JI_bitCount_4 ?_
  refine ab_iand X d_JI_bitCount_7 ?_
  refine ab_isub X d_JI_bitCount_8 ?_
  refine ab_istore_n0 X  d_JI_bitCount_9 rfl (by decide)  ?_
  refine ab_iload_n X 0 d_JI_bitCount_10 rfl rfl ?_
  refine ab_ldcw X (v := 858993459) (ab_in 640 (by decide +kernel) (by decide +kernel)) d_JI_bitCount_11 ?_
  refine ab_iand X d_JI_bitCount_14 ?_
  refine ab_iload_n X 0 d_JI_bitCount_15 rfl rfl ?_
  refine ab_iconst (v := 2) X d_JI_bitCount_16 (by decide) ?_
  refine ab_iushr X d_JI_bitCount_17 ?_
  refine ab_ldcw X (v := 858993459) (ab_in 640 (by decide +kernel) (by decide +kernel)) d_JI_bitCount_18 ?_
  refine ab_iand X d_JI_bitCount_21 ?_
  refine ab_iadd X d_JI_bitCount_22 ?_
  refine ab_istore_n0 X  d_JI_bitCount_23 rfl (by decide)  ?_
  refine ab_iload_n X 0 d_JI_bitCount_24 rfl rfl ?_
  refine ab_iload_n X 0 d_JI_bitCount_25 rfl rfl ?_
  refine ab_iconst (v := 4) X d_JI_bitCount_26 (by decide) ?_
  refine ab_iushr X d_JI_bitCount_27 ?_
  refine ab_iadd X d_JI_bitCount_28 ?_
  refine ab_ldcw X (v := 252645135) (ab_in 641 (by decide +kernel) (by decide +kernel)) d_JI_bitCount_29 ?_
  refine ab_iand X d_JI_bitCount_32 ?_
  refine ab_istore_n0 X  d_JI_bitCount_33 rfl (by decide)  ?_
  refine ab_iload_n X 0 d_JI_bitCount_34 rfl rfl ?_
  refine ab_iload_n X 0 d_JI_bitCount_35 rfl rfl ?_
  refine ab_bipush (v := 8) X d_JI_bitCount_36 (by decide) ?_
  refine ab_iushr X d_JI_bitCount_38 ?_
  refine ab_iadd X d_JI_bitCount_39 ?_
  refine ab_istore_n0 X  d_JI_bitCount_40 rfl (by decide)  ?_
  refine ab_iload_n X 0 d_JI_bitCount_41 rfl rfl ?_
  refine ab_iload_n X 0 d_JI_bitCount_42 rfl rfl ?_
  refine ab_bipush (v := 16) X d_JI_bitCount_43 (by decide) ?_
  refine ab_iushr X d_JI_bitCount_45 ?_
  refine ab_iadd X d_JI_bitCount_46 ?_
  refine ab_istore_n0 X  d_JI_bitCount_47 rfl (by decide)  ?_
  refine ab_iload_n X 0 d_JI_bitCount_48 rfl rfl ?_
  refine ab_bipush (v := 63) X d_JI_bitCount_49 (by decide) ?_
  refine ab_iand X d_JI_bitCount_51 ?_
  exact ab_reti X hr0 hlk d_JI_bitCount_52 ⟨rfl, _, rfl⟩
abbrev b_FM_leafWeight : ByteArray := prog_3_method_7_code
def y_FM_leafWeight : MethodName := ⟨"PolicyForge$Form", "leafWeight", "()I"⟩
theorem d_FM_leafWeight_0 : decode b_FM_leafWeight 0 = .ok (.aload_n 0, 1) := by decide +kernel
theorem d_FM_leafWeight_1 : decode b_FM_leafWeight 1 = .ok (.getfield 28, 3) := by decide +kernel
theorem d_FM_leafWeight_4 : decode b_FM_leafWeight 4 = .ok (.sipush 1000, 3) := by decide +kernel
theorem d_FM_leafWeight_7 : decode b_FM_leafWeight 7 = .ok (.idiv, 1) := by decide +kernel
theorem d_FM_leafWeight_8 : decode b_FM_leafWeight 8 = .ok (.istore_n 1, 1) := by decide +kernel
theorem d_FM_leafWeight_9 : decode b_FM_leafWeight 9 = .ok (.iload_n 1, 1) := by decide +kernel
theorem d_FM_leafWeight_10 : decode b_FM_leafWeight 10 = .ok (.iconst 1, 1) := by decide +kernel
theorem d_FM_leafWeight_11 : decode b_FM_leafWeight 11 = .ok (.if_icmp .ne 9, 3) := by decide +kernel
theorem d_FM_leafWeight_14 : decode b_FM_leafWeight 14 = .ok (.bipush 10, 2) := by decide +kernel
theorem d_FM_leafWeight_16 : decode b_FM_leafWeight 16 = .ok (.invokestatic 78, 3) := by decide +kernel
theorem d_FM_leafWeight_19 : decode b_FM_leafWeight 19 = .ok (.ireturn, 1) := by decide +kernel
theorem d_FM_leafWeight_20 : decode b_FM_leafWeight 20 = .ok (.iload_n 1, 1) := by decide +kernel
theorem d_FM_leafWeight_21 : decode b_FM_leafWeight 21 = .ok (.iconst 2, 1) := by decide +kernel
theorem d_FM_leafWeight_22 : decode b_FM_leafWeight 22 = .ok (.if_icmp .ne 11, 3) := by decide +kernel
theorem d_FM_leafWeight_25 : decode b_FM_leafWeight 25 = .ok (.bipush 20, 2) := by decide +kernel
theorem d_FM_leafWeight_27 : decode b_FM_leafWeight 27 = .ok (.invokestatic 78, 3) := by decide +kernel
theorem d_FM_leafWeight_30 : decode b_FM_leafWeight 30 = .ok (.goto 4, 3) := by decide +kernel
theorem d_FM_leafWeight_33 : decode b_FM_leafWeight 33 = .ok (.iconst 0, 1) := by decide +kernel
theorem d_FM_leafWeight_34 : decode b_FM_leafWeight 34 = .ok (.ireturn, 1) := by decide +kernel
theorem ls_FM_78 : ab_ls "PolicyForge$Form" 78 y_RW_weightOf b_RW_weightOf 1 (some FieldType.int) 1 := ⟨List.forall_mem_cons.mpr ⟨(ab_in 628 (by decide +kernel) (by decide +kernel)), List.forall_mem_cons.mpr ⟨(ab_in 629 (by decide +kernel) (by decide +kernel)), List.forall_mem_cons.mpr ⟨(ab_in 96 (by decide +kernel) (by decide +kernel)), List.forall_mem_cons.mpr ⟨(ab_in 630 (by decide +kernel) (by decide +kernel)), fun _ h => absurd h List.not_mem_nil⟩⟩⟩⟩, ⟨by decide +kernel, by decide +kernel, by decide +kernel⟩, by decide⟩
set_option maxRecDepth 100000 in
set_option maxHeartbeats 1000000 in
theorem t_FM_leafWeight (u : ab_S) (f : Nat) (h : CI u) (hf : f < 61) : ab_C false l D ca y_FM_leafWeight b_FM_leafWeight 2 (some FieldType.int) 1 ab_nQ u [ab_O 3 f] (fun u' v => u' = u ∧ ∃ x : Int32, v = some (ab_I x)) := by
  refine ab_C.of (by decide) (Nat.le_of_ble_eq_true rfl) ?_
  intro p e s m args below meth c ad X hZ hr0 hlk
  have P0 : cP [4, 8] u u := cQ.rf h
  refine ab_aload_n X 0 d_FM_leafWeight_0 rfl rfl ?_
  refine ab_gI X fl_FM_28 d_FM_leafWeight_1 (by first | assumption | decide | (show _ < 124; omega) | (show _ < 61; omega) | (show _ < 20; omega)) (rfl) ?_
  refine ab_sipush (v := 1000) X d_FM_leafWeight_4 (by decide) ?_
  refine ab_idiv X d_FM_leafWeight_7 (by decide) ?_
  refine ab_istore_n1 X 0 d_FM_leafWeight_8 rfl (by decide) rfl rfl ?_
  refine ab_iload_n X 0 d_FM_leafWeight_9 rfl rfl ?_
  refine ab_iconst (v := 1) X d_FM_leafWeight_10 (by decide) ?_
  refine ab_icmp_ne X 20 d_FM_leafWeight_11 rfl (fun h11 => ?_) (fun h11 => ?_)
  ·
    refine ab_iload_n X 0 d_FM_leafWeight_20 rfl rfl ?_
    refine ab_iconst (v := 2) X d_FM_leafWeight_21 (by decide) ?_
    refine ab_icmp_ne X 33 d_FM_leafWeight_22 rfl (fun h22 => ?_) (fun h22 => ?_)
    ·
      refine ab_iconst (v := 0) X d_FM_leafWeight_33 (by decide) ?_
      exact ab_reti X hr0 hlk d_FM_leafWeight_34 ⟨rfl, _, rfl⟩
    ·
      refine ab_bipush (v := 20) X d_FM_leafWeight_25 (by decide) ?_
      refine ab_callS (as := [ab_I 20]) X (fun h => by cases h) (c_RW_weightOf (N := ab_nQ) u 20) ls_FM_78 d_FM_leafWeight_27 rfl rfl ⟨by first | exact Nat.le_of_ble_eq_true rfl | (simp only [ab_rm]; omega), by first | exact Nat.le_of_ble_eq_true rfl | (simp only [ab_rm]; omega)⟩ ⟨by first | exact Nat.le_of_ble_eq_true rfl | (simp only [ab_rm]; omega), by first | exact Nat.le_of_ble_eq_true rfl | (simp only [ab_rm]; omega)⟩ (Nat.le_of_ble_eq_true rfl) (fun u27 r27 h27 => ?_)
      obtain ⟨e27, rfl⟩ := h27
      subst u27
      refine ab_goto X 34 d_FM_leafWeight_30 rfl ?_
      exact ab_reti X hr0 hlk d_FM_leafWeight_34 ⟨rfl, _, rfl⟩
  ·
    refine ab_bipush (v := 10) X d_FM_leafWeight_14 (by decide) ?_
    refine ab_callS (as := [ab_I 10]) X (fun h => by cases h) (c_RW_weightOf (N := ab_nQ) u 10) ls_FM_78 d_FM_leafWeight_16 rfl rfl ⟨by first | exact Nat.le_of_ble_eq_true rfl | (simp only [ab_rm]; omega), by first | exact Nat.le_of_ble_eq_true rfl | (simp only [ab_rm]; omega)⟩ ⟨by first | exact Nat.le_of_ble_eq_true rfl | (simp only [ab_rm]; omega), by first | exact Nat.le_of_ble_eq_true rfl | (simp only [ab_rm]; omega)⟩ (Nat.le_of_ble_eq_true rfl) (fun u16 r16 h16 => ?_)
    obtain ⟨e16, rfl⟩ := h16
    subst u16
    exact ab_reti X hr0 hlk d_FM_leafWeight_19 ⟨rfl, _, rfl⟩
abbrev b_FM_greatestOfChoices : ByteArray := prog_3_method_8_code
def y_FM_greatestOfChoices : MethodName := ⟨"PolicyForge$Form", "greatestOfChoices", "()I"⟩
theorem d_FM_greatestOfChoices_0 : decode b_FM_greatestOfChoices 0 = .ok (.iconst 0, 1) := by decide +kernel
theorem d_FM_greatestOfChoices_1 : decode b_FM_greatestOfChoices 1 = .ok (.istore_n 1, 1) := by decide +kernel
theorem d_FM_greatestOfChoices_2 : decode b_FM_greatestOfChoices 2 = .ok (.iconst 0, 1) := by decide +kernel
theorem d_FM_greatestOfChoices_3 : decode b_FM_greatestOfChoices 3 = .ok (.istore_n 2, 1) := by decide +kernel
theorem d_FM_greatestOfChoices_4 : decode b_FM_greatestOfChoices 4 = .ok (.iload_n 2, 1) := by decide +kernel
theorem d_FM_greatestOfChoices_5 : decode b_FM_greatestOfChoices 5 = .ok (.iconst 1, 1) := by decide +kernel
theorem d_FM_greatestOfChoices_6 : decode b_FM_greatestOfChoices 6 = .ok (.aload_n 0, 1) := by decide +kernel
theorem d_FM_greatestOfChoices_7 : decode b_FM_greatestOfChoices 7 = .ok (.getfield 34, 3) := by decide +kernel
theorem d_FM_greatestOfChoices_10 : decode b_FM_greatestOfChoices 10 = .ok (.ishl, 1) := by decide +kernel
theorem d_FM_greatestOfChoices_11 : decode b_FM_greatestOfChoices 11 = .ok (.if_icmp .ge 98, 3) := by decide +kernel
theorem d_FM_greatestOfChoices_14 : decode b_FM_greatestOfChoices 14 = .ok (.iconst 0, 1) := by decide +kernel
theorem d_FM_greatestOfChoices_15 : decode b_FM_greatestOfChoices 15 = .ok (.istore_n 3, 1) := by decide +kernel
theorem d_FM_greatestOfChoices_16 : decode b_FM_greatestOfChoices 16 = .ok (.iconst 0, 1) := by decide +kernel
theorem d_FM_greatestOfChoices_17 : decode b_FM_greatestOfChoices 17 = .ok (.istore 4, 2) := by decide +kernel
theorem d_FM_greatestOfChoices_19 : decode b_FM_greatestOfChoices 19 = .ok (.iload 4, 2) := by decide +kernel
theorem d_FM_greatestOfChoices_21 : decode b_FM_greatestOfChoices 21 = .ok (.aload_n 0, 1) := by decide +kernel
theorem d_FM_greatestOfChoices_22 : decode b_FM_greatestOfChoices 22 = .ok (.getfield 34, 3) := by decide +kernel
theorem d_FM_greatestOfChoices_25 : decode b_FM_greatestOfChoices 25 = .ok (.if_icmp .ge 60, 3) := by decide +kernel
theorem d_FM_greatestOfChoices_28 : decode b_FM_greatestOfChoices 28 = .ok (.iload_n 2, 1) := by decide +kernel
theorem d_FM_greatestOfChoices_29 : decode b_FM_greatestOfChoices 29 = .ok (.iload 4, 2) := by decide +kernel
theorem d_FM_greatestOfChoices_31 : decode b_FM_greatestOfChoices 31 = .ok (.ishr, 1) := by decide +kernel
theorem d_FM_greatestOfChoices_32 : decode b_FM_greatestOfChoices 32 = .ok (.iconst 1, 1) := by decide +kernel
theorem d_FM_greatestOfChoices_33 : decode b_FM_greatestOfChoices 33 = .ok (.iand, 1) := by decide +kernel
theorem d_FM_greatestOfChoices_34 : decode b_FM_greatestOfChoices 34 = .ok (.iconst 1, 1) := by decide +kernel
theorem d_FM_greatestOfChoices_35 : decode b_FM_greatestOfChoices 35 = .ok (.if_icmp .ne 7, 3) := by decide +kernel
theorem d_FM_greatestOfChoices_38 : decode b_FM_greatestOfChoices 38 = .ok (.iconst 1, 1) := by decide +kernel
theorem d_FM_greatestOfChoices_39 : decode b_FM_greatestOfChoices 39 = .ok (.goto 4, 3) := by decide +kernel
theorem d_FM_greatestOfChoices_42 : decode b_FM_greatestOfChoices 42 = .ok (.iconst 0, 1) := by decide +kernel
theorem d_FM_greatestOfChoices_43 : decode b_FM_greatestOfChoices 43 = .ok (.istore 5, 2) := by decide +kernel
theorem d_FM_greatestOfChoices_45 : decode b_FM_greatestOfChoices 45 = .ok (.iload_n 3, 1) := by decide +kernel
theorem d_FM_greatestOfChoices_46 : decode b_FM_greatestOfChoices 46 = .ok (.iload 5, 2) := by decide +kernel
theorem d_FM_greatestOfChoices_48 : decode b_FM_greatestOfChoices 48 = .ok (.ifCond .eq 16, 3) := by decide +kernel
theorem d_FM_greatestOfChoices_51 : decode b_FM_greatestOfChoices 51 = .ok (.aload_n 0, 1) := by decide +kernel
theorem d_FM_greatestOfChoices_52 : decode b_FM_greatestOfChoices 52 = .ok (.getfield 11, 3) := by decide +kernel
theorem d_FM_greatestOfChoices_55 : decode b_FM_greatestOfChoices 55 = .ok (.iload 4, 2) := by decide +kernel
theorem d_FM_greatestOfChoices_57 : decode b_FM_greatestOfChoices 57 = .ok (.aaload, 1) := by decide +kernel
theorem d_FM_greatestOfChoices_58 : decode b_FM_greatestOfChoices 58 = .ok (.getfield 40, 3) := by decide +kernel
theorem d_FM_greatestOfChoices_61 : decode b_FM_greatestOfChoices 61 = .ok (.goto 16, 3) := by decide +kernel
theorem d_FM_greatestOfChoices_64 : decode b_FM_greatestOfChoices 64 = .ok (.aload_n 0, 1) := by decide +kernel
theorem d_FM_greatestOfChoices_65 : decode b_FM_greatestOfChoices 65 = .ok (.getfield 11, 3) := by decide +kernel
theorem d_FM_greatestOfChoices_68 : decode b_FM_greatestOfChoices 68 = .ok (.iload 4, 2) := by decide +kernel
theorem d_FM_greatestOfChoices_70 : decode b_FM_greatestOfChoices 70 = .ok (.aaload, 1) := by decide +kernel
theorem d_FM_greatestOfChoices_71 : decode b_FM_greatestOfChoices 71 = .ok (.getfield 47, 3) := by decide +kernel
theorem d_FM_greatestOfChoices_74 : decode b_FM_greatestOfChoices 74 = .ok (.getfield 74, 3) := by decide +kernel
theorem d_FM_greatestOfChoices_77 : decode b_FM_greatestOfChoices 77 = .ok (.iadd, 1) := by decide +kernel
theorem d_FM_greatestOfChoices_78 : decode b_FM_greatestOfChoices 78 = .ok (.istore_n 3, 1) := by decide +kernel
theorem d_FM_greatestOfChoices_79 : decode b_FM_greatestOfChoices 79 = .ok (.iinc 4 1, 3) := by decide +kernel
theorem d_FM_greatestOfChoices_82 : decode b_FM_greatestOfChoices 82 = .ok (.goto (-63), 3) := by decide +kernel
theorem d_FM_greatestOfChoices_85 : decode b_FM_greatestOfChoices 85 = .ok (.iload_n 2, 1) := by decide +kernel
theorem d_FM_greatestOfChoices_86 : decode b_FM_greatestOfChoices 86 = .ok (.invokestatic 82, 3) := by decide +kernel
theorem d_FM_greatestOfChoices_89 : decode b_FM_greatestOfChoices 89 = .ok (.aload_n 0, 1) := by decide +kernel
theorem d_FM_greatestOfChoices_90 : decode b_FM_greatestOfChoices 90 = .ok (.getfield 31, 3) := by decide +kernel
theorem d_FM_greatestOfChoices_93 : decode b_FM_greatestOfChoices 93 = .ok (.if_icmp .ne 10, 3) := by decide +kernel
theorem d_FM_greatestOfChoices_96 : decode b_FM_greatestOfChoices 96 = .ok (.iload_n 3, 1) := by decide +kernel
theorem d_FM_greatestOfChoices_97 : decode b_FM_greatestOfChoices 97 = .ok (.iload_n 1, 1) := by decide +kernel
theorem d_FM_greatestOfChoices_98 : decode b_FM_greatestOfChoices 98 = .ok (.if_icmp .le 5, 3) := by decide +kernel
theorem d_FM_greatestOfChoices_101 : decode b_FM_greatestOfChoices 101 = .ok (.iload_n 3, 1) := by decide +kernel
theorem d_FM_greatestOfChoices_102 : decode b_FM_greatestOfChoices 102 = .ok (.istore_n 1, 1) := by decide +kernel
theorem d_FM_greatestOfChoices_103 : decode b_FM_greatestOfChoices 103 = .ok (.iinc 2 1, 3) := by decide +kernel
theorem d_FM_greatestOfChoices_106 : decode b_FM_greatestOfChoices 106 = .ok (.goto (-102), 3) := by decide +kernel
theorem d_FM_greatestOfChoices_109 : decode b_FM_greatestOfChoices 109 = .ok (.iload_n 1, 1) := by decide +kernel
theorem d_FM_greatestOfChoices_110 : decode b_FM_greatestOfChoices 110 = .ok (.ireturn, 1) := by decide +kernel
theorem fl_FM_40 : ab_fl "PolicyForge$Form" 40 3 9 0 := ⟨rfl, R_FM, T_FM, 10, rfl, uw_FM, by decide, rfl, (ab_in 189 (by decide +kernel) (by decide +kernel))⟩
theorem fl_FM_47 : ab_fl "PolicyForge$Form" 47 3 2 1 := ⟨rfl, R_FM, T_FM, 10, rfl, uw_FM, by decide, rfl, (ab_in 175 (by decide +kernel) (by decide +kernel))⟩
theorem fl_FM_74 : ab_fl "PolicyForge$Form" 74 4 2 0 := ⟨rfl, R_RW, T_RW, 4, rfl, uw_RW, by decide, rfl, (ab_in 157 (by decide +kernel) (by decide +kernel))⟩
theorem ls_FM_82 : ab_ls "PolicyForge$Form" 82 y_JI_bitCount b_JI_bitCount 1 (some FieldType.int) 1 := ⟨List.forall_mem_cons.mpr ⟨(ab_in 636 (by decide +kernel) (by decide +kernel)), List.forall_mem_cons.mpr ⟨(ab_in 637 (by decide +kernel) (by decide +kernel)), List.forall_mem_cons.mpr ⟨(ab_in 110 (by decide +kernel) (by decide +kernel)), List.forall_mem_cons.mpr ⟨(ab_in 638 (by decide +kernel) (by decide +kernel)), fun _ h => absurd h List.not_mem_nil⟩⟩⟩⟩, ⟨by decide +kernel, by decide +kernel, by decide +kernel⟩, by decide⟩
theorem fl_FM_31 : ab_fl "PolicyForge$Form" 31 3 6 0 := ⟨rfl, R_FM, T_FM, 10, rfl, uw_FM, by decide, rfl, (ab_in 183 (by decide +kernel) (by decide +kernel))⟩
set_option maxRecDepth 100000 in
set_option maxHeartbeats 1000000 in
theorem t_FM_greatestOfChoices (u : ab_S) (f : Nat) (h : CI u) (hf : f < 61) : ab_C false l D ca y_FM_greatestOfChoices b_FM_greatestOfChoices 6 (some FieldType.int) 1 ab_nQ u [ab_O 3 f] (fun u' v => u' = u ∧ ∃ x : Int32, v = some (ab_I x)) := by
  refine ab_C.of (by decide) (Nat.le_of_ble_eq_true rfl) ?_
  intro p e s m args below meth c ad X hZ hr0 hlk
  have P0 : cP [4, 8] u u := cQ.rf h
  obtain ⟨n, hn, en, he, -⟩ := h.form hf
  have tw := ci_tw hn
  have outer : ∀ (k c1 : Nat) (y : Int32), k + c1 = 17 → ab_J p l e (ab_rm 1 0 0) s m args below meth c (MQ below (ab_Q D ca ad ab_nQ s.heap.size (fun u' v => u' = u ∧ ∃ x : Int32, v = some (ab_I x))) args s 0 0 (ab_A ad ab_nQ s.heap.size)) D ca (ab_A ad ab_nQ s.heap.size) s.heap 6 0 0 ad ab_nQ u 4 [(2, ab_I (nI c1)), (1, ab_I y), (0, ab_O 3 f)] [] := by
    intro k
    induction k with
    | zero =>
      intro c1 y hc
      refine ab_iload_n X 0 d_FM_greatestOfChoices_4 rfl rfl ?_
      refine ab_iconst (v := 1) X d_FM_greatestOfChoices_5 (by decide) ?_
      refine ab_aload_n X 2 d_FM_greatestOfChoices_6 rfl rfl ?_
      refine ab_gI X fl_FM_34 d_FM_greatestOfChoices_7 (by first | assumption | decide | (show _ < 124; omega) | (show _ < 61; omega) | (show _ < 20; omega)) (en) ?_
      refine ab_ishl X d_FM_greatestOfChoices_10 ?_
      refine ab_top tw.1 ?_
      refine ab_icmp_ge X 109 d_FM_greatestOfChoices_11 rfl (fun _ => ?_) (fun hb => absurd ((nI_le (by omega) (by omega))) hb)
      refine ab_iload_n X 1 d_FM_greatestOfChoices_109 rfl rfl ?_
      exact ab_reti X hr0 hlk d_FM_greatestOfChoices_110 ⟨rfl, _, rfl⟩
    | succ k ih =>
      intro c1 y hc
      have inner : ∀ (k j : Nat) (z : Int32), k + j = 4 → ab_J p l e (ab_rm 1 0 0) s m args below meth c (MQ below (ab_Q D ca ad ab_nQ s.heap.size (fun u' v => u' = u ∧ ∃ x : Int32, v = some (ab_I x))) args s 0 0 (ab_A ad ab_nQ s.heap.size)) D ca (ab_A ad ab_nQ s.heap.size) s.heap 6 0 0 ad ab_nQ u 19 [(4, ab_I (nI j)), (3, ab_I z), (2, ab_I (nI c1)), (1, ab_I y), (0, ab_O 3 f)] [] := by
        intro k
        induction k with
        | zero =>
          intro j z hj
          refine ab_iload X 0 d_FM_greatestOfChoices_19 rfl ?_
          refine ab_aload_n X 4 d_FM_greatestOfChoices_21 rfl rfl ?_
          refine ab_gI X fl_FM_34 d_FM_greatestOfChoices_22 (by first | assumption | decide | (show _ < 124; omega) | (show _ < 61; omega) | (show _ < 20; omega)) (en) ?_
          refine ab_icmp_ge X 85 d_FM_greatestOfChoices_25 rfl (fun _ => ?_) (fun hb => absurd ((nI_le (by omega) (by omega))) hb)
          refine ab_iload_n X 2 d_FM_greatestOfChoices_85 rfl rfl ?_
          refine ab_callS (as := [ab_I (nI c1)]) X (fun h => by cases h) (t_JI_bitCount u (nI c1)) ls_FM_82 d_FM_greatestOfChoices_86 rfl rfl ⟨by first | exact Nat.le_of_ble_eq_true rfl | (simp only [ab_rm]; omega), by first | exact Nat.le_of_ble_eq_true rfl | (simp only [ab_rm]; omega)⟩ ⟨by first | exact Nat.le_of_ble_eq_true rfl | (simp only [ab_rm]; omega), by first | exact Nat.le_of_ble_eq_true rfl | (simp only [ab_rm]; omega)⟩ (Nat.le_of_ble_eq_true rfl) (fun u86 r86 h86 => ?_)
          obtain ⟨e86, x86, rfl⟩ := h86
          subst u86
          refine ab_aload_n X 4 d_FM_greatestOfChoices_89 rfl rfl ?_
          refine ab_gI X fl_FM_31 d_FM_greatestOfChoices_90 (by first | assumption | decide | (show _ < 124; omega) | (show _ < 61; omega) | (show _ < 20; omega)) (rfl) ?_
          refine ab_icmp_ne X 103 d_FM_greatestOfChoices_93 rfl (fun h93 => ?_) (fun h93 => ?_)
          ·
            refine ab_iinc4 X 2 0 1 3 4 d_FM_greatestOfChoices_103 rfl (by decide) rfl rfl rfl rfl rfl rfl rfl rfl ?_
            refine ab_goto X 4 d_FM_greatestOfChoices_106 rfl ?_
            refine ab_lv (List.forall_mem_cons.mpr ⟨List.mem_of_getElem? (i := 0) rfl, List.forall_mem_cons.mpr ⟨List.mem_of_getElem? (i := 3) rfl, List.forall_mem_cons.mpr ⟨List.mem_of_getElem? (i := 4) rfl, fun _ h => absurd h List.not_mem_nil⟩⟩⟩) ?_
            rw [show nI c1 + Int32.ofInt 1 = nI (c1 + 1) from nI_1 c1]
            exact ih (c1 + 1) _ (by omega)
          ·
            refine ab_iload_n X 1 d_FM_greatestOfChoices_96 rfl rfl ?_
            refine ab_iload_n X 3 d_FM_greatestOfChoices_97 rfl rfl ?_
            refine ab_icmp_le X 103 d_FM_greatestOfChoices_98 rfl (fun h98 => ?_) (fun h98 => ?_)
            ·
              refine ab_iinc4 X 2 0 1 3 4 d_FM_greatestOfChoices_103 rfl (by decide) rfl rfl rfl rfl rfl rfl rfl rfl ?_
              refine ab_goto X 4 d_FM_greatestOfChoices_106 rfl ?_
              refine ab_lv (List.forall_mem_cons.mpr ⟨List.mem_of_getElem? (i := 0) rfl, List.forall_mem_cons.mpr ⟨List.mem_of_getElem? (i := 3) rfl, List.forall_mem_cons.mpr ⟨List.mem_of_getElem? (i := 4) rfl, fun _ h => absurd h List.not_mem_nil⟩⟩⟩) ?_
              rw [show nI c1 + Int32.ofInt 1 = nI (c1 + 1) from nI_1 c1]
              exact ih (c1 + 1) _ (by omega)
            ·
              refine ab_iload_n X 1 d_FM_greatestOfChoices_101 rfl rfl ?_
              refine ab_istore_n4 X 0 1 2 4 d_FM_greatestOfChoices_102 rfl (by decide) rfl rfl rfl rfl rfl rfl rfl rfl ?_
              refine ab_iinc4 X 3 0 1 2 4 d_FM_greatestOfChoices_103 rfl (by decide) rfl rfl rfl rfl rfl rfl rfl rfl ?_
              refine ab_goto X 4 d_FM_greatestOfChoices_106 rfl ?_
              refine ab_lv (List.forall_mem_cons.mpr ⟨List.mem_of_getElem? (i := 0) rfl, List.forall_mem_cons.mpr ⟨List.mem_of_getElem? (i := 1) rfl, List.forall_mem_cons.mpr ⟨List.mem_of_getElem? (i := 4) rfl, fun _ h => absurd h List.not_mem_nil⟩⟩⟩) ?_
              rw [show nI c1 + Int32.ofInt 1 = nI (c1 + 1) from nI_1 c1]
              exact ih (c1 + 1) _ (by omega)
        | succ k ih2 =>
          intro j z hj
          refine ab_iload X 0 d_FM_greatestOfChoices_19 rfl ?_
          refine ab_aload_n X 4 d_FM_greatestOfChoices_21 rfl rfl ?_
          refine ab_gI X fl_FM_34 d_FM_greatestOfChoices_22 (by first | assumption | decide | (show _ < 124; omega) | (show _ < 61; omega) | (show _ < 20; omega)) (en) ?_
          refine ab_icmp_ge X 85 d_FM_greatestOfChoices_25 rfl (fun h25 => ?_) (fun h25 => ?_)
          ·
            refine ab_iload_n X 2 d_FM_greatestOfChoices_85 rfl rfl ?_
            refine ab_callS (as := [ab_I (nI c1)]) X (fun h => by cases h) (t_JI_bitCount u (nI c1)) ls_FM_82 d_FM_greatestOfChoices_86 rfl rfl ⟨by first | exact Nat.le_of_ble_eq_true rfl | (simp only [ab_rm]; omega), by first | exact Nat.le_of_ble_eq_true rfl | (simp only [ab_rm]; omega)⟩ ⟨by first | exact Nat.le_of_ble_eq_true rfl | (simp only [ab_rm]; omega), by first | exact Nat.le_of_ble_eq_true rfl | (simp only [ab_rm]; omega)⟩ (Nat.le_of_ble_eq_true rfl) (fun u86 r86 h86 => ?_)
            obtain ⟨e86, x86, rfl⟩ := h86
            subst u86
            refine ab_aload_n X 4 d_FM_greatestOfChoices_89 rfl rfl ?_
            refine ab_gI X fl_FM_31 d_FM_greatestOfChoices_90 (by first | assumption | decide | (show _ < 124; omega) | (show _ < 61; omega) | (show _ < 20; omega)) (rfl) ?_
            refine ab_icmp_ne X 103 d_FM_greatestOfChoices_93 rfl (fun h93 => ?_) (fun h93 => ?_)
            ·
              refine ab_iinc4 X 2 0 1 3 4 d_FM_greatestOfChoices_103 rfl (by decide) rfl rfl rfl rfl rfl rfl rfl rfl ?_
              refine ab_goto X 4 d_FM_greatestOfChoices_106 rfl ?_
              refine ab_lv (List.forall_mem_cons.mpr ⟨List.mem_of_getElem? (i := 0) rfl, List.forall_mem_cons.mpr ⟨List.mem_of_getElem? (i := 3) rfl, List.forall_mem_cons.mpr ⟨List.mem_of_getElem? (i := 4) rfl, fun _ h => absurd h List.not_mem_nil⟩⟩⟩) ?_
              rw [show nI c1 + Int32.ofInt 1 = nI (c1 + 1) from nI_1 c1]
              exact ih (c1 + 1) _ (by omega)
            ·
              refine ab_iload_n X 1 d_FM_greatestOfChoices_96 rfl rfl ?_
              refine ab_iload_n X 3 d_FM_greatestOfChoices_97 rfl rfl ?_
              refine ab_icmp_le X 103 d_FM_greatestOfChoices_98 rfl (fun h98 => ?_) (fun h98 => ?_)
              ·
                refine ab_iinc4 X 2 0 1 3 4 d_FM_greatestOfChoices_103 rfl (by decide) rfl rfl rfl rfl rfl rfl rfl rfl ?_
                refine ab_goto X 4 d_FM_greatestOfChoices_106 rfl ?_
                refine ab_lv (List.forall_mem_cons.mpr ⟨List.mem_of_getElem? (i := 0) rfl, List.forall_mem_cons.mpr ⟨List.mem_of_getElem? (i := 3) rfl, List.forall_mem_cons.mpr ⟨List.mem_of_getElem? (i := 4) rfl, fun _ h => absurd h List.not_mem_nil⟩⟩⟩) ?_
                rw [show nI c1 + Int32.ofInt 1 = nI (c1 + 1) from nI_1 c1]
                exact ih (c1 + 1) _ (by omega)
              ·
                refine ab_iload_n X 1 d_FM_greatestOfChoices_101 rfl rfl ?_
                refine ab_istore_n4 X 0 1 2 4 d_FM_greatestOfChoices_102 rfl (by decide) rfl rfl rfl rfl rfl rfl rfl rfl ?_
                refine ab_iinc4 X 3 0 1 2 4 d_FM_greatestOfChoices_103 rfl (by decide) rfl rfl rfl rfl rfl rfl rfl rfl ?_
                refine ab_goto X 4 d_FM_greatestOfChoices_106 rfl ?_
                refine ab_lv (List.forall_mem_cons.mpr ⟨List.mem_of_getElem? (i := 0) rfl, List.forall_mem_cons.mpr ⟨List.mem_of_getElem? (i := 1) rfl, List.forall_mem_cons.mpr ⟨List.mem_of_getElem? (i := 4) rfl, fun _ h => absurd h List.not_mem_nil⟩⟩⟩) ?_
                rw [show nI c1 + Int32.ofInt 1 = nI (c1 + 1) from nI_1 c1]
                exact ih (c1 + 1) _ (by omega)
          ·
            have hjn := nI_lt_of h25 (by omega)
            obtain ⟨g, hg, eg⟩ := he j hjn
            refine ab_iload_n X 2 d_FM_greatestOfChoices_28 rfl rfl ?_
            refine ab_iload X 0 d_FM_greatestOfChoices_29 rfl ?_
            refine ab_ishr X d_FM_greatestOfChoices_31 ?_
            refine ab_iconst (v := 1) X d_FM_greatestOfChoices_32 (by decide) ?_
            refine ab_iand X d_FM_greatestOfChoices_33 ?_
            refine ab_iconst (v := 1) X d_FM_greatestOfChoices_34 (by decide) ?_
            refine ab_icmp_ne X 42 d_FM_greatestOfChoices_35 rfl (fun h35 => ?_) (fun h35 => ?_)
            ·
              refine ab_iconst (v := 0) X d_FM_greatestOfChoices_42 (by decide) ?_
              refine ab_istore5 X 0 1 2 3 4 d_FM_greatestOfChoices_43 (by decide) rfl rfl rfl rfl rfl rfl rfl rfl rfl rfl ?_
              refine ab_iload_n X 2 d_FM_greatestOfChoices_45 rfl rfl ?_
              refine ab_iload X 0 d_FM_greatestOfChoices_46 rfl ?_
              refine ab_if_eq X 64 d_FM_greatestOfChoices_48 rfl (fun h48 => ?_) (fun h48 => ?_)
              ·
                refine ab_aload_n X 5 d_FM_greatestOfChoices_64 rfl rfl ?_
                refine ab_gR X fl_FM_11 d_FM_greatestOfChoices_65 (by first | assumption | decide | (show _ < 124; omega) | (show _ < 61; omega) | (show _ < 20; omega)) (P0.1.fm0 (by first | assumption | decide | omega)) ?_
                refine ab_iload X 1 d_FM_greatestOfChoices_68 rfl ?_
                refine ab_aalv X (j) ⟨rfl, _, fun _ => rfl⟩ d_FM_greatestOfChoices_70 (by first | assumption | decide | (show _ < 124; omega) | (show _ < 61; omega) | (show _ < 20; omega)) (rfl) (show j < 4 by omega) (ab_ln_lt _ _) (eg) ?_
                refine ab_gR X fl_FM_47 d_FM_greatestOfChoices_71 (by first | assumption | decide | (show _ < 124; omega) | (show _ < 61; omega) | (show _ < 20; omega)) (P0.1.fm2 (by first | assumption | decide | omega)) ?_
                refine ab_gI X fl_FM_74 d_FM_greatestOfChoices_74 (by first | assumption | decide | (show _ < 124; omega) | (show _ < 61; omega) | (show _ < 20; omega)) (rfl) ?_
                refine ab_iadd X d_FM_greatestOfChoices_77 ?_
                refine ab_istore_n5 X 0 1 3 4 5 d_FM_greatestOfChoices_78 rfl (by decide) rfl rfl rfl rfl rfl rfl rfl rfl rfl rfl ?_
                refine ab_iinc5 X 2 0 1 3 4 5 d_FM_greatestOfChoices_79 rfl (by decide) rfl rfl rfl rfl rfl rfl rfl rfl rfl rfl ?_
                refine ab_goto X 19 d_FM_greatestOfChoices_82 rfl ?_
                refine ab_lv (List.forall_mem_cons.mpr ⟨List.mem_of_getElem? (i := 0) rfl, List.forall_mem_cons.mpr ⟨List.mem_of_getElem? (i := 1) rfl, List.forall_mem_cons.mpr ⟨List.mem_of_getElem? (i := 3) rfl, List.forall_mem_cons.mpr ⟨List.mem_of_getElem? (i := 4) rfl, List.forall_mem_cons.mpr ⟨List.mem_of_getElem? (i := 5) rfl, fun _ h => absurd h List.not_mem_nil⟩⟩⟩⟩⟩) ?_
                rw [show nI j + Int32.ofInt 1 = nI (j + 1) from nI_1 j]
                exact ih2 (j + 1) _ (by omega)
              ·
                refine ab_aload_n X 5 d_FM_greatestOfChoices_51 rfl rfl ?_
                refine ab_gR X fl_FM_11 d_FM_greatestOfChoices_52 (by first | assumption | decide | (show _ < 124; omega) | (show _ < 61; omega) | (show _ < 20; omega)) (P0.1.fm0 (by first | assumption | decide | omega)) ?_
                refine ab_iload X 1 d_FM_greatestOfChoices_55 rfl ?_
                refine ab_aalv X (j) ⟨rfl, _, fun _ => rfl⟩ d_FM_greatestOfChoices_57 (by first | assumption | decide | (show _ < 124; omega) | (show _ < 61; omega) | (show _ < 20; omega)) (rfl) (show j < 4 by omega) (ab_ln_lt _ _) (eg) ?_
                refine ab_gI X fl_FM_40 d_FM_greatestOfChoices_58 (by first | assumption | decide | (show _ < 124; omega) | (show _ < 61; omega) | (show _ < 20; omega)) (rfl) ?_
                refine ab_goto X 77 d_FM_greatestOfChoices_61 rfl ?_
                refine ab_iadd X d_FM_greatestOfChoices_77 ?_
                refine ab_istore_n5 X 0 1 3 4 5 d_FM_greatestOfChoices_78 rfl (by decide) rfl rfl rfl rfl rfl rfl rfl rfl rfl rfl ?_
                refine ab_iinc5 X 2 0 1 3 4 5 d_FM_greatestOfChoices_79 rfl (by decide) rfl rfl rfl rfl rfl rfl rfl rfl rfl rfl ?_
                refine ab_goto X 19 d_FM_greatestOfChoices_82 rfl ?_
                refine ab_lv (List.forall_mem_cons.mpr ⟨List.mem_of_getElem? (i := 0) rfl, List.forall_mem_cons.mpr ⟨List.mem_of_getElem? (i := 1) rfl, List.forall_mem_cons.mpr ⟨List.mem_of_getElem? (i := 3) rfl, List.forall_mem_cons.mpr ⟨List.mem_of_getElem? (i := 4) rfl, List.forall_mem_cons.mpr ⟨List.mem_of_getElem? (i := 5) rfl, fun _ h => absurd h List.not_mem_nil⟩⟩⟩⟩⟩) ?_
                rw [show nI j + Int32.ofInt 1 = nI (j + 1) from nI_1 j]
                exact ih2 (j + 1) _ (by omega)
            ·
              refine ab_iconst (v := 1) X d_FM_greatestOfChoices_38 (by decide) ?_
              refine ab_goto X 43 d_FM_greatestOfChoices_39 rfl ?_
              refine ab_istore5 X 0 1 2 3 4 d_FM_greatestOfChoices_43 (by decide) rfl rfl rfl rfl rfl rfl rfl rfl rfl rfl ?_
              refine ab_iload_n X 2 d_FM_greatestOfChoices_45 rfl rfl ?_
              refine ab_iload X 0 d_FM_greatestOfChoices_46 rfl ?_
              refine ab_if_eq X 64 d_FM_greatestOfChoices_48 rfl (fun h48 => ?_) (fun h48 => ?_)
              ·
                refine ab_aload_n X 5 d_FM_greatestOfChoices_64 rfl rfl ?_
                refine ab_gR X fl_FM_11 d_FM_greatestOfChoices_65 (by first | assumption | decide | (show _ < 124; omega) | (show _ < 61; omega) | (show _ < 20; omega)) (P0.1.fm0 (by first | assumption | decide | omega)) ?_
                refine ab_iload X 1 d_FM_greatestOfChoices_68 rfl ?_
                refine ab_aalv X (j) ⟨rfl, _, fun _ => rfl⟩ d_FM_greatestOfChoices_70 (by first | assumption | decide | (show _ < 124; omega) | (show _ < 61; omega) | (show _ < 20; omega)) (rfl) (show j < 4 by omega) (ab_ln_lt _ _) (eg) ?_
                refine ab_gR X fl_FM_47 d_FM_greatestOfChoices_71 (by first | assumption | decide | (show _ < 124; omega) | (show _ < 61; omega) | (show _ < 20; omega)) (P0.1.fm2 (by first | assumption | decide | omega)) ?_
                refine ab_gI X fl_FM_74 d_FM_greatestOfChoices_74 (by first | assumption | decide | (show _ < 124; omega) | (show _ < 61; omega) | (show _ < 20; omega)) (rfl) ?_
                refine ab_iadd X d_FM_greatestOfChoices_77 ?_
                refine ab_istore_n5 X 0 1 3 4 5 d_FM_greatestOfChoices_78 rfl (by decide) rfl rfl rfl rfl rfl rfl rfl rfl rfl rfl ?_
                refine ab_iinc5 X 2 0 1 3 4 5 d_FM_greatestOfChoices_79 rfl (by decide) rfl rfl rfl rfl rfl rfl rfl rfl rfl rfl ?_
                refine ab_goto X 19 d_FM_greatestOfChoices_82 rfl ?_
                refine ab_lv (List.forall_mem_cons.mpr ⟨List.mem_of_getElem? (i := 0) rfl, List.forall_mem_cons.mpr ⟨List.mem_of_getElem? (i := 1) rfl, List.forall_mem_cons.mpr ⟨List.mem_of_getElem? (i := 3) rfl, List.forall_mem_cons.mpr ⟨List.mem_of_getElem? (i := 4) rfl, List.forall_mem_cons.mpr ⟨List.mem_of_getElem? (i := 5) rfl, fun _ h => absurd h List.not_mem_nil⟩⟩⟩⟩⟩) ?_
                rw [show nI j + Int32.ofInt 1 = nI (j + 1) from nI_1 j]
                exact ih2 (j + 1) _ (by omega)
              ·
                refine ab_aload_n X 5 d_FM_greatestOfChoices_51 rfl rfl ?_
                refine ab_gR X fl_FM_11 d_FM_greatestOfChoices_52 (by first | assumption | decide | (show _ < 124; omega) | (show _ < 61; omega) | (show _ < 20; omega)) (P0.1.fm0 (by first | assumption | decide | omega)) ?_
                refine ab_iload X 1 d_FM_greatestOfChoices_55 rfl ?_
                refine ab_aalv X (j) ⟨rfl, _, fun _ => rfl⟩ d_FM_greatestOfChoices_57 (by first | assumption | decide | (show _ < 124; omega) | (show _ < 61; omega) | (show _ < 20; omega)) (rfl) (show j < 4 by omega) (ab_ln_lt _ _) (eg) ?_
                refine ab_gI X fl_FM_40 d_FM_greatestOfChoices_58 (by first | assumption | decide | (show _ < 124; omega) | (show _ < 61; omega) | (show _ < 20; omega)) (rfl) ?_
                refine ab_goto X 77 d_FM_greatestOfChoices_61 rfl ?_
                refine ab_iadd X d_FM_greatestOfChoices_77 ?_
                refine ab_istore_n5 X 0 1 3 4 5 d_FM_greatestOfChoices_78 rfl (by decide) rfl rfl rfl rfl rfl rfl rfl rfl rfl rfl ?_
                refine ab_iinc5 X 2 0 1 3 4 5 d_FM_greatestOfChoices_79 rfl (by decide) rfl rfl rfl rfl rfl rfl rfl rfl rfl rfl ?_
                refine ab_goto X 19 d_FM_greatestOfChoices_82 rfl ?_
                refine ab_lv (List.forall_mem_cons.mpr ⟨List.mem_of_getElem? (i := 0) rfl, List.forall_mem_cons.mpr ⟨List.mem_of_getElem? (i := 1) rfl, List.forall_mem_cons.mpr ⟨List.mem_of_getElem? (i := 3) rfl, List.forall_mem_cons.mpr ⟨List.mem_of_getElem? (i := 4) rfl, List.forall_mem_cons.mpr ⟨List.mem_of_getElem? (i := 5) rfl, fun _ h => absurd h List.not_mem_nil⟩⟩⟩⟩⟩) ?_
                rw [show nI j + Int32.ofInt 1 = nI (j + 1) from nI_1 j]
                exact ih2 (j + 1) _ (by omega)
      refine ab_iload_n X 0 d_FM_greatestOfChoices_4 rfl rfl ?_
      refine ab_iconst (v := 1) X d_FM_greatestOfChoices_5 (by decide) ?_
      refine ab_aload_n X 2 d_FM_greatestOfChoices_6 rfl rfl ?_
      refine ab_gI X fl_FM_34 d_FM_greatestOfChoices_7 (by first | assumption | decide | (show _ < 124; omega) | (show _ < 61; omega) | (show _ < 20; omega)) (en) ?_
      refine ab_ishl X d_FM_greatestOfChoices_10 ?_
      refine ab_top tw.1 ?_
      refine ab_icmp_ge X 109 d_FM_greatestOfChoices_11 rfl (fun h11 => ?_) (fun h11 => ?_)
      ·
        refine ab_iload_n X 1 d_FM_greatestOfChoices_109 rfl rfl ?_
        exact ab_reti X hr0 hlk d_FM_greatestOfChoices_110 ⟨rfl, _, rfl⟩
      ·
        refine ab_iconst (v := 0) X d_FM_greatestOfChoices_14 (by decide) ?_
        refine ab_istore_n3 X 0 1 2 d_FM_greatestOfChoices_15 rfl (by decide) rfl rfl rfl rfl rfl rfl ?_
        refine ab_iconst (v := 0) X d_FM_greatestOfChoices_16 (by decide) ?_
        refine ab_istore4 X 0 1 2 3 d_FM_greatestOfChoices_17 (by decide) rfl rfl rfl rfl rfl rfl rfl rfl ?_
        exact inner 4 0 _ rfl
  refine ab_iconst (v := 0) X d_FM_greatestOfChoices_0 (by decide) ?_
  refine ab_istore_n1 X 0 d_FM_greatestOfChoices_1 rfl (by decide) rfl rfl ?_
  refine ab_iconst (v := 0) X d_FM_greatestOfChoices_2 (by decide) ?_
  refine ab_istore_n2 X 0 1 d_FM_greatestOfChoices_3 rfl (by decide) rfl rfl rfl rfl ?_
  exact outer 17 0 _ rfl
abbrev b_FM_greatestWeight : ByteArray := prog_3_method_6_code
def y_FM_greatestWeight : MethodName := ⟨"PolicyForge$Form", "greatestWeight", "()I"⟩
theorem d_FM_greatestWeight_0 : decode b_FM_greatestWeight 0 = .ok (.aload_n 0, 1) := by decide +kernel
theorem d_FM_greatestWeight_1 : decode b_FM_greatestWeight 1 = .ok (.getfield 24, 3) := by decide +kernel
theorem d_FM_greatestWeight_4 : decode b_FM_greatestWeight 4 = .ok (.tableswitch 124 1 8 #[48, 124, 124, 124, 53, 77, 89, 89], 48) := by decide +kernel
theorem d_FM_greatestWeight_52 : decode b_FM_greatestWeight 52 = .ok (.aload_n 0, 1) := by decide +kernel
theorem d_FM_greatestWeight_53 : decode b_FM_greatestWeight 53 = .ok (.invokevirtual 65, 3) := by decide +kernel
theorem d_FM_greatestWeight_56 : decode b_FM_greatestWeight 56 = .ok (.ireturn, 1) := by decide +kernel
theorem d_FM_greatestWeight_57 : decode b_FM_greatestWeight 57 = .ok (.iconst 1, 1) := by decide +kernel
theorem d_FM_greatestWeight_58 : decode b_FM_greatestWeight 58 = .ok (.aload_n 0, 1) := by decide +kernel
theorem d_FM_greatestWeight_59 : decode b_FM_greatestWeight 59 = .ok (.getfield 11, 3) := by decide +kernel
theorem d_FM_greatestWeight_62 : decode b_FM_greatestWeight 62 = .ok (.iconst 0, 1) := by decide +kernel
theorem d_FM_greatestWeight_63 : decode b_FM_greatestWeight 63 = .ok (.aaload, 1) := by decide +kernel
theorem d_FM_greatestWeight_64 : decode b_FM_greatestWeight 64 = .ok (.getfield 40, 3) := by decide +kernel
theorem d_FM_greatestWeight_67 : decode b_FM_greatestWeight 67 = .ok (.aload_n 0, 1) := by decide +kernel
theorem d_FM_greatestWeight_68 : decode b_FM_greatestWeight 68 = .ok (.getfield 11, 3) := by decide +kernel
theorem d_FM_greatestWeight_71 : decode b_FM_greatestWeight 71 = .ok (.iconst 1, 1) := by decide +kernel
theorem d_FM_greatestWeight_72 : decode b_FM_greatestWeight 72 = .ok (.aaload, 1) := by decide +kernel
theorem d_FM_greatestWeight_73 : decode b_FM_greatestWeight 73 = .ok (.getfield 40, 3) := by decide +kernel
theorem d_FM_greatestWeight_76 : decode b_FM_greatestWeight 76 = .ok (.invokestatic 68, 3) := by decide +kernel
theorem d_FM_greatestWeight_79 : decode b_FM_greatestWeight 79 = .ok (.iadd, 1) := by decide +kernel
theorem d_FM_greatestWeight_80 : decode b_FM_greatestWeight 80 = .ok (.ireturn, 1) := by decide +kernel
theorem d_FM_greatestWeight_81 : decode b_FM_greatestWeight 81 = .ok (.iconst 1, 1) := by decide +kernel
theorem d_FM_greatestWeight_82 : decode b_FM_greatestWeight 82 = .ok (.aload_n 0, 1) := by decide +kernel
theorem d_FM_greatestWeight_83 : decode b_FM_greatestWeight 83 = .ok (.getfield 11, 3) := by decide +kernel
theorem d_FM_greatestWeight_86 : decode b_FM_greatestWeight 86 = .ok (.iconst 0, 1) := by decide +kernel
theorem d_FM_greatestWeight_87 : decode b_FM_greatestWeight 87 = .ok (.aaload, 1) := by decide +kernel
theorem d_FM_greatestWeight_88 : decode b_FM_greatestWeight 88 = .ok (.getfield 40, 3) := by decide +kernel
theorem d_FM_greatestWeight_91 : decode b_FM_greatestWeight 91 = .ok (.iadd, 1) := by decide +kernel
theorem d_FM_greatestWeight_92 : decode b_FM_greatestWeight 92 = .ok (.ireturn, 1) := by decide +kernel
theorem d_FM_greatestWeight_93 : decode b_FM_greatestWeight 93 = .ok (.aload_n 0, 1) := by decide +kernel
theorem d_FM_greatestWeight_94 : decode b_FM_greatestWeight 94 = .ok (.getfield 11, 3) := by decide +kernel
theorem d_FM_greatestWeight_97 : decode b_FM_greatestWeight 97 = .ok (.iconst 0, 1) := by decide +kernel
theorem d_FM_greatestWeight_98 : decode b_FM_greatestWeight 98 = .ok (.aaload, 1) := by decide +kernel
theorem d_FM_greatestWeight_99 : decode b_FM_greatestWeight 99 = .ok (.getfield 40, 3) := by decide +kernel
theorem d_FM_greatestWeight_102 : decode b_FM_greatestWeight 102 = .ok (.aload_n 0, 1) := by decide +kernel
theorem d_FM_greatestWeight_103 : decode b_FM_greatestWeight 103 = .ok (.getfield 11, 3) := by decide +kernel
theorem d_FM_greatestWeight_106 : decode b_FM_greatestWeight 106 = .ok (.iconst 0, 1) := by decide +kernel
theorem d_FM_greatestWeight_107 : decode b_FM_greatestWeight 107 = .ok (.aaload, 1) := by decide +kernel
theorem d_FM_greatestWeight_108 : decode b_FM_greatestWeight 108 = .ok (.getfield 47, 3) := by decide +kernel
theorem d_FM_greatestWeight_111 : decode b_FM_greatestWeight 111 = .ok (.getfield 74, 3) := by decide +kernel
theorem d_FM_greatestWeight_114 : decode b_FM_greatestWeight 114 = .ok (.aload_n 0, 1) := by decide +kernel
theorem d_FM_greatestWeight_115 : decode b_FM_greatestWeight 115 = .ok (.getfield 11, 3) := by decide +kernel
theorem d_FM_greatestWeight_118 : decode b_FM_greatestWeight 118 = .ok (.iconst 1, 1) := by decide +kernel
theorem d_FM_greatestWeight_119 : decode b_FM_greatestWeight 119 = .ok (.aaload, 1) := by decide +kernel
theorem d_FM_greatestWeight_120 : decode b_FM_greatestWeight 120 = .ok (.getfield 40, 3) := by decide +kernel
theorem d_FM_greatestWeight_123 : decode b_FM_greatestWeight 123 = .ok (.iadd, 1) := by decide +kernel
theorem d_FM_greatestWeight_124 : decode b_FM_greatestWeight 124 = .ok (.invokestatic 68, 3) := by decide +kernel
theorem d_FM_greatestWeight_127 : decode b_FM_greatestWeight 127 = .ok (.ireturn, 1) := by decide +kernel
theorem d_FM_greatestWeight_128 : decode b_FM_greatestWeight 128 = .ok (.aload_n 0, 1) := by decide +kernel
theorem d_FM_greatestWeight_129 : decode b_FM_greatestWeight 129 = .ok (.invokevirtual 75, 3) := by decide +kernel
theorem d_FM_greatestWeight_132 : decode b_FM_greatestWeight 132 = .ok (.ireturn, 1) := by decide +kernel
theorem lk_FM_65 : ab_lk "PolicyForge$Form" 65 y_FM_leafWeight b_FM_leafWeight 2 (some FieldType.int) 0 3 := ⟨⟨rfl, T_FM, 10, rfl⟩, List.forall_mem_cons.mpr ⟨(ab_in 624 (by decide +kernel) (by decide +kernel)), List.forall_mem_cons.mpr ⟨(ab_in 626 (by decide +kernel) (by decide +kernel)), List.forall_mem_cons.mpr ⟨(ab_in 15 (by decide +kernel) (by decide +kernel)), List.forall_mem_cons.mpr ⟨(ab_in 95 (by decide +kernel) (by decide +kernel)), List.forall_mem_cons.mpr ⟨(ab_in 627 (by decide +kernel) (by decide +kernel)), fun _ h => absurd h List.not_mem_nil⟩⟩⟩⟩⟩, ⟨by decide +kernel, by decide +kernel, by decide +kernel⟩, by decide⟩
abbrev b_JM_max : ByteArray := prog_16_method_65_code
def y_JM_max : MethodName := ⟨"java/lang/Math", "max", "(II)I"⟩
theorem ls_FM_68 : ab_ls "PolicyForge$Form" 68 y_JM_max b_JM_max 2 (some FieldType.int) 2 := ⟨List.forall_mem_cons.mpr ⟨(ab_in 631 (by decide +kernel) (by decide +kernel)), List.forall_mem_cons.mpr ⟨(ab_in 493 (by decide +kernel) (by decide +kernel)), List.forall_mem_cons.mpr ⟨(ab_in 105 (by decide +kernel) (by decide +kernel)), List.forall_mem_cons.mpr ⟨(ab_in 494 (by decide +kernel) (by decide +kernel)), fun _ h => absurd h List.not_mem_nil⟩⟩⟩⟩, ⟨by decide +kernel, by decide +kernel, by decide +kernel⟩, by decide⟩
theorem lk_FM_75 : ab_lk "PolicyForge$Form" 75 y_FM_greatestOfChoices b_FM_greatestOfChoices 6 (some FieldType.int) 0 3 := ⟨⟨rfl, T_FM, 10, rfl⟩, List.forall_mem_cons.mpr ⟨(ab_in 632 (by decide +kernel) (by decide +kernel)), List.forall_mem_cons.mpr ⟨(ab_in 634 (by decide +kernel) (by decide +kernel)), List.forall_mem_cons.mpr ⟨(ab_in 16 (by decide +kernel) (by decide +kernel)), List.forall_mem_cons.mpr ⟨(ab_in 95 (by decide +kernel) (by decide +kernel)), List.forall_mem_cons.mpr ⟨(ab_in 635 (by decide +kernel) (by decide +kernel)), fun _ h => absurd h List.not_mem_nil⟩⟩⟩⟩⟩, ⟨by decide +kernel, by decide +kernel, by decide +kernel⟩, by decide⟩
set_option maxRecDepth 100000 in
set_option maxHeartbeats 1000000 in
theorem t_FM_greatestWeight (u : ab_S) (f : Nat) (h : CI u) (hf : f < 61) : ab_C false l D ca y_FM_greatestWeight b_FM_greatestWeight 1 (some FieldType.int) 2 ab_nQ u [ab_O 3 f] (fun u' v => u' = u ∧ ∃ x : Int32, v = some (ab_I x)) := by
  refine ab_C.of (by decide) (Nat.le_of_ble_eq_true rfl) ?_
  intro p e s m args below meth c ad X hZ hr0 hlk
  have P0 : cP [4, 8] u u := cQ.rf h
  obtain ⟨n, hn, en, he, hc⟩ := h.form hf
  have hc := hc (by omega)
  refine ab_aload_n X 0 d_FM_greatestWeight_0 rfl rfl ?_
  refine ab_gI X fl_FM_24 d_FM_greatestWeight_1 (by first | assumption | decide | (show _ < 124; omega) | (show _ < 61; omega) | (show _ < 20; omega)) (rfl) ?_
  refine ab_tsw X [(1, 52), (5, 57), (6, 81), (7, 93), (8, 93)] 128 d_FM_greatestWeight_4 (by decide +kernel) rfl (List.forall_mem_cons.mpr ⟨fun h4_1 => ?_, List.forall_mem_cons.mpr ⟨fun h4_5 => ?_, List.forall_mem_cons.mpr ⟨fun h4_6 => ?_, List.forall_mem_cons.mpr ⟨fun h4_7 => ?_, List.forall_mem_cons.mpr ⟨fun h4_8 => ?_, fun _ h => absurd h List.not_mem_nil⟩⟩⟩⟩⟩) (fun h4 => ?_)
  ·
    refine ab_aload_n X 0 d_FM_greatestWeight_52 rfl rfl ?_
    refine ab_callV (as := []) X (fun h => by cases h) (t_FM_leafWeight u f h hf) lk_FM_65 d_FM_greatestWeight_53 rfl rfl (by first | assumption | decide | (show _ < 124; omega) | (show _ < 61; omega) | (show _ < 20; omega)) ⟨by first | exact Nat.le_of_ble_eq_true rfl | (simp only [ab_rm]; omega), by first | exact Nat.le_of_ble_eq_true rfl | (simp only [ab_rm]; omega)⟩ ⟨by first | exact Nat.le_of_ble_eq_true rfl | (simp only [ab_rm]; omega), by first | exact Nat.le_of_ble_eq_true rfl | (simp only [ab_rm]; omega)⟩ (Nat.le_of_ble_eq_true rfl) (fun u53 r53 h53 => ?_)
    obtain ⟨e53, x53, rfl⟩ := h53
    subst u53
    exact ab_reti X hr0 hlk d_FM_greatestWeight_56 ⟨rfl, _, rfl⟩
  ·
    have h2 := hc.1 (Or.inl h4_5)
    obtain ⟨g0, hg0, eg0⟩ := he 0 (by omega)
    obtain ⟨g1, hg1, eg1⟩ := he 1 (by omega)
    refine ab_iconst (v := 1) X d_FM_greatestWeight_57 (by decide) ?_
    refine ab_aload_n X 0 d_FM_greatestWeight_58 rfl rfl ?_
    refine ab_gR X fl_FM_11 d_FM_greatestWeight_59 (by first | assumption | decide | (show _ < 124; omega) | (show _ < 61; omega) | (show _ < 20; omega)) (P0.1.fm0 (by first | assumption | decide | omega)) ?_
    refine ab_iconst (v := 0) X d_FM_greatestWeight_62 (by decide) ?_
    refine ab_aalv X (0) ⟨rfl, _, fun _ => rfl⟩ d_FM_greatestWeight_63 (by first | assumption | decide | (show _ < 124; omega) | (show _ < 61; omega) | (show _ < 20; omega)) (rfl) (show 0 < 4 by decide) (ab_ln_lt _ _) (eg0) ?_
    refine ab_gI X fl_FM_40 d_FM_greatestWeight_64 (by first | assumption | decide | (show _ < 124; omega) | (show _ < 61; omega) | (show _ < 20; omega)) (rfl) ?_
    refine ab_aload_n X 0 d_FM_greatestWeight_67 rfl rfl ?_
    refine ab_gR X fl_FM_11 d_FM_greatestWeight_68 (by first | assumption | decide | (show _ < 124; omega) | (show _ < 61; omega) | (show _ < 20; omega)) (P0.1.fm0 (by first | assumption | decide | omega)) ?_
    refine ab_iconst (v := 1) X d_FM_greatestWeight_71 (by decide) ?_
    refine ab_aalv X (1) ⟨rfl, _, fun _ => rfl⟩ d_FM_greatestWeight_72 (by first | assumption | decide | (show _ < 124; omega) | (show _ < 61; omega) | (show _ < 20; omega)) (rfl) (show 1 < 4 by decide) (ab_ln_lt _ _) (eg1) ?_
    refine ab_gI X fl_FM_40 d_FM_greatestWeight_73 (by first | assumption | decide | (show _ < 124; omega) | (show _ < 61; omega) | (show _ < 20; omega)) (rfl) ?_
    refine ab_mmax X mm_FM_68 ⟨Nat.le_of_ble_eq_true rfl, Nat.le_of_ble_eq_true rfl⟩ ⟨Nat.le_of_ble_eq_true rfl, Nat.le_of_ble_eq_true rfl⟩ (Nat.le_of_ble_eq_true rfl) d_FM_greatestWeight_76 ?_
    refine ab_iadd X d_FM_greatestWeight_79 ?_
    exact ab_reti X hr0 hlk d_FM_greatestWeight_80 ⟨rfl, _, rfl⟩
  ·
    have h2 := hc.2 h4_6
    obtain ⟨g0, hg0, eg0⟩ := he 0 (by omega)
    refine ab_iconst (v := 1) X d_FM_greatestWeight_81 (by decide) ?_
    refine ab_aload_n X 0 d_FM_greatestWeight_82 rfl rfl ?_
    refine ab_gR X fl_FM_11 d_FM_greatestWeight_83 (by first | assumption | decide | (show _ < 124; omega) | (show _ < 61; omega) | (show _ < 20; omega)) (P0.1.fm0 (by first | assumption | decide | omega)) ?_
    refine ab_iconst (v := 0) X d_FM_greatestWeight_86 (by decide) ?_
    refine ab_aalv X (0) ⟨rfl, _, fun _ => rfl⟩ d_FM_greatestWeight_87 (by first | assumption | decide | (show _ < 124; omega) | (show _ < 61; omega) | (show _ < 20; omega)) (rfl) (show 0 < 4 by decide) (ab_ln_lt _ _) (eg0) ?_
    refine ab_gI X fl_FM_40 d_FM_greatestWeight_88 (by first | assumption | decide | (show _ < 124; omega) | (show _ < 61; omega) | (show _ < 20; omega)) (rfl) ?_
    refine ab_iadd X d_FM_greatestWeight_91 ?_
    exact ab_reti X hr0 hlk d_FM_greatestWeight_92 ⟨rfl, _, rfl⟩
  ·
    have h2 := hc.1 (Or.inr (Or.inl h4_7))
    obtain ⟨g0, hg0, eg0⟩ := he 0 (by omega)
    obtain ⟨g1, hg1, eg1⟩ := he 1 (by omega)
    refine ab_aload_n X 0 d_FM_greatestWeight_93 rfl rfl ?_
    refine ab_gR X fl_FM_11 d_FM_greatestWeight_94 (by first | assumption | decide | (show _ < 124; omega) | (show _ < 61; omega) | (show _ < 20; omega)) (P0.1.fm0 (by first | assumption | decide | omega)) ?_
    refine ab_iconst (v := 0) X d_FM_greatestWeight_97 (by decide) ?_
    refine ab_aalv X (0) ⟨rfl, _, fun _ => rfl⟩ d_FM_greatestWeight_98 (by first | assumption | decide | (show _ < 124; omega) | (show _ < 61; omega) | (show _ < 20; omega)) (rfl) (show 0 < 4 by decide) (ab_ln_lt _ _) (eg0) ?_
    refine ab_gI X fl_FM_40 d_FM_greatestWeight_99 (by first | assumption | decide | (show _ < 124; omega) | (show _ < 61; omega) | (show _ < 20; omega)) (rfl) ?_
    refine ab_aload_n X 0 d_FM_greatestWeight_102 rfl rfl ?_
    refine ab_gR X fl_FM_11 d_FM_greatestWeight_103 (by first | assumption | decide | (show _ < 124; omega) | (show _ < 61; omega) | (show _ < 20; omega)) (P0.1.fm0 (by first | assumption | decide | omega)) ?_
    refine ab_iconst (v := 0) X d_FM_greatestWeight_106 (by decide) ?_
    refine ab_aalv X (0) ⟨rfl, _, fun _ => rfl⟩ d_FM_greatestWeight_107 (by first | assumption | decide | (show _ < 124; omega) | (show _ < 61; omega) | (show _ < 20; omega)) (rfl) (show 0 < 4 by decide) (ab_ln_lt _ _) (eg0) ?_
    refine ab_gR X fl_FM_47 d_FM_greatestWeight_108 (by first | assumption | decide | (show _ < 124; omega) | (show _ < 61; omega) | (show _ < 20; omega)) (P0.1.fm2 (by first | assumption | decide | omega)) ?_
    refine ab_gI X fl_FM_74 d_FM_greatestWeight_111 (by first | assumption | decide | (show _ < 124; omega) | (show _ < 61; omega) | (show _ < 20; omega)) (rfl) ?_
    refine ab_aload_n X 0 d_FM_greatestWeight_114 rfl rfl ?_
    refine ab_gR X fl_FM_11 d_FM_greatestWeight_115 (by first | assumption | decide | (show _ < 124; omega) | (show _ < 61; omega) | (show _ < 20; omega)) (P0.1.fm0 (by first | assumption | decide | omega)) ?_
    refine ab_iconst (v := 1) X d_FM_greatestWeight_118 (by decide) ?_
    refine ab_aalv X (1) ⟨rfl, _, fun _ => rfl⟩ d_FM_greatestWeight_119 (by first | assumption | decide | (show _ < 124; omega) | (show _ < 61; omega) | (show _ < 20; omega)) (rfl) (show 1 < 4 by decide) (ab_ln_lt _ _) (eg1) ?_
    refine ab_gI X fl_FM_40 d_FM_greatestWeight_120 (by first | assumption | decide | (show _ < 124; omega) | (show _ < 61; omega) | (show _ < 20; omega)) (rfl) ?_
    refine ab_iadd X d_FM_greatestWeight_123 ?_
    refine ab_mmax X mm_FM_68 ⟨Nat.le_of_ble_eq_true rfl, Nat.le_of_ble_eq_true rfl⟩ ⟨Nat.le_of_ble_eq_true rfl, Nat.le_of_ble_eq_true rfl⟩ (Nat.le_of_ble_eq_true rfl) d_FM_greatestWeight_124 ?_
    exact ab_reti X hr0 hlk d_FM_greatestWeight_127 ⟨rfl, _, rfl⟩
  ·
    have h2 := hc.1 (Or.inr (Or.inr h4_8))
    obtain ⟨g0, hg0, eg0⟩ := he 0 (by omega)
    obtain ⟨g1, hg1, eg1⟩ := he 1 (by omega)
    refine ab_aload_n X 0 d_FM_greatestWeight_93 rfl rfl ?_
    refine ab_gR X fl_FM_11 d_FM_greatestWeight_94 (by first | assumption | decide | (show _ < 124; omega) | (show _ < 61; omega) | (show _ < 20; omega)) (P0.1.fm0 (by first | assumption | decide | omega)) ?_
    refine ab_iconst (v := 0) X d_FM_greatestWeight_97 (by decide) ?_
    refine ab_aalv X (0) ⟨rfl, _, fun _ => rfl⟩ d_FM_greatestWeight_98 (by first | assumption | decide | (show _ < 124; omega) | (show _ < 61; omega) | (show _ < 20; omega)) (rfl) (show 0 < 4 by decide) (ab_ln_lt _ _) (eg0) ?_
    refine ab_gI X fl_FM_40 d_FM_greatestWeight_99 (by first | assumption | decide | (show _ < 124; omega) | (show _ < 61; omega) | (show _ < 20; omega)) (rfl) ?_
    refine ab_aload_n X 0 d_FM_greatestWeight_102 rfl rfl ?_
    refine ab_gR X fl_FM_11 d_FM_greatestWeight_103 (by first | assumption | decide | (show _ < 124; omega) | (show _ < 61; omega) | (show _ < 20; omega)) (P0.1.fm0 (by first | assumption | decide | omega)) ?_
    refine ab_iconst (v := 0) X d_FM_greatestWeight_106 (by decide) ?_
    refine ab_aalv X (0) ⟨rfl, _, fun _ => rfl⟩ d_FM_greatestWeight_107 (by first | assumption | decide | (show _ < 124; omega) | (show _ < 61; omega) | (show _ < 20; omega)) (rfl) (show 0 < 4 by decide) (ab_ln_lt _ _) (eg0) ?_
    refine ab_gR X fl_FM_47 d_FM_greatestWeight_108 (by first | assumption | decide | (show _ < 124; omega) | (show _ < 61; omega) | (show _ < 20; omega)) (P0.1.fm2 (by first | assumption | decide | omega)) ?_
    refine ab_gI X fl_FM_74 d_FM_greatestWeight_111 (by first | assumption | decide | (show _ < 124; omega) | (show _ < 61; omega) | (show _ < 20; omega)) (rfl) ?_
    refine ab_aload_n X 0 d_FM_greatestWeight_114 rfl rfl ?_
    refine ab_gR X fl_FM_11 d_FM_greatestWeight_115 (by first | assumption | decide | (show _ < 124; omega) | (show _ < 61; omega) | (show _ < 20; omega)) (P0.1.fm0 (by first | assumption | decide | omega)) ?_
    refine ab_iconst (v := 1) X d_FM_greatestWeight_118 (by decide) ?_
    refine ab_aalv X (1) ⟨rfl, _, fun _ => rfl⟩ d_FM_greatestWeight_119 (by first | assumption | decide | (show _ < 124; omega) | (show _ < 61; omega) | (show _ < 20; omega)) (rfl) (show 1 < 4 by decide) (ab_ln_lt _ _) (eg1) ?_
    refine ab_gI X fl_FM_40 d_FM_greatestWeight_120 (by first | assumption | decide | (show _ < 124; omega) | (show _ < 61; omega) | (show _ < 20; omega)) (rfl) ?_
    refine ab_iadd X d_FM_greatestWeight_123 ?_
    refine ab_mmax X mm_FM_68 ⟨Nat.le_of_ble_eq_true rfl, Nat.le_of_ble_eq_true rfl⟩ ⟨Nat.le_of_ble_eq_true rfl, Nat.le_of_ble_eq_true rfl⟩ (Nat.le_of_ble_eq_true rfl) d_FM_greatestWeight_124 ?_
    exact ab_reti X hr0 hlk d_FM_greatestWeight_127 ⟨rfl, _, rfl⟩
  ·
    refine ab_aload_n X 0 d_FM_greatestWeight_128 rfl rfl ?_
    refine ab_callV (as := []) X (fun h => by cases h) (t_FM_greatestOfChoices u f h hf) lk_FM_75 d_FM_greatestWeight_129 rfl rfl (by first | assumption | decide | (show _ < 124; omega) | (show _ < 61; omega) | (show _ < 20; omega)) ⟨by first | exact Nat.le_of_ble_eq_true rfl | (simp only [ab_rm]; omega), by first | exact Nat.le_of_ble_eq_true rfl | (simp only [ab_rm]; omega)⟩ ⟨by first | exact Nat.le_of_ble_eq_true rfl | (simp only [ab_rm]; omega), by first | exact Nat.le_of_ble_eq_true rfl | (simp only [ab_rm]; omega)⟩ (Nat.le_of_ble_eq_true rfl) (fun u129 r129 h129 => ?_)
    obtain ⟨e129, x129, rfl⟩ := h129
    subst u129
    exact ab_reti X hr0 hlk d_FM_greatestWeight_132 ⟨rfl, _, rfl⟩
abbrev b_FM_offer : ByteArray := prog_3_method_4_code
def y_FM_offer : MethodName := ⟨"PolicyForge$Form", "offer", "(LPolicyForge$Form;)V"⟩
theorem d_FM_offer_0 : decode b_FM_offer 0 = .ok (.aload_n 1, 1) := by decide +kernel
theorem d_FM_offer_1 : decode b_FM_offer 1 = .ok (.invokevirtual 50, 3) := by decide +kernel
theorem d_FM_offer_4 : decode b_FM_offer 4 = .ok (.istore_n 2, 1) := by decide +kernel
theorem d_FM_offer_5 : decode b_FM_offer 5 = .ok (.aload_n 1, 1) := by decide +kernel
theorem d_FM_offer_6 : decode b_FM_offer 6 = .ok (.invokevirtual 54, 3) := by decide +kernel
theorem d_FM_offer_9 : decode b_FM_offer 9 = .ok (.istore_n 3, 1) := by decide +kernel
theorem d_FM_offer_10 : decode b_FM_offer 10 = .ok (.aload_n 0, 1) := by decide +kernel
theorem d_FM_offer_11 : decode b_FM_offer 11 = .ok (.getfield 24, 3) := by decide +kernel
theorem d_FM_offer_14 : decode b_FM_offer 14 = .ok (.ifCond .eq 27, 3) := by decide +kernel
theorem d_FM_offer_17 : decode b_FM_offer 17 = .ok (.iload_n 2, 1) := by decide +kernel
theorem d_FM_offer_18 : decode b_FM_offer 18 = .ok (.aload_n 0, 1) := by decide +kernel
theorem d_FM_offer_19 : decode b_FM_offer 19 = .ok (.getfield 37, 3) := by decide +kernel
theorem d_FM_offer_22 : decode b_FM_offer 22 = .ok (.if_icmp .lt 19, 3) := by decide +kernel
theorem d_FM_offer_25 : decode b_FM_offer 25 = .ok (.iload_n 2, 1) := by decide +kernel
theorem d_FM_offer_26 : decode b_FM_offer 26 = .ok (.aload_n 0, 1) := by decide +kernel
theorem d_FM_offer_27 : decode b_FM_offer 27 = .ok (.getfield 37, 3) := by decide +kernel
theorem d_FM_offer_30 : decode b_FM_offer 30 = .ok (.if_icmp .ne 15, 3) := by decide +kernel
theorem d_FM_offer_33 : decode b_FM_offer 33 = .ok (.iload_n 3, 1) := by decide +kernel
theorem d_FM_offer_34 : decode b_FM_offer 34 = .ok (.aload_n 0, 1) := by decide +kernel
theorem d_FM_offer_35 : decode b_FM_offer 35 = .ok (.getfield 40, 3) := by decide +kernel
theorem d_FM_offer_38 : decode b_FM_offer 38 = .ok (.if_icmp .ge 7, 3) := by decide +kernel
theorem d_FM_offer_41 : decode b_FM_offer 41 = .ok (.iconst 1, 1) := by decide +kernel
theorem d_FM_offer_42 : decode b_FM_offer 42 = .ok (.goto 4, 3) := by decide +kernel
theorem d_FM_offer_45 : decode b_FM_offer 45 = .ok (.iconst 0, 1) := by decide +kernel
theorem d_FM_offer_46 : decode b_FM_offer 46 = .ok (.istore 4, 2) := by decide +kernel
theorem d_FM_offer_48 : decode b_FM_offer 48 = .ok (.iload 4, 2) := by decide +kernel
theorem d_FM_offer_50 : decode b_FM_offer 50 = .ok (.ifCond .eq 60, 3) := by decide +kernel
theorem d_FM_offer_53 : decode b_FM_offer 53 = .ok (.aload_n 0, 1) := by decide +kernel
theorem d_FM_offer_54 : decode b_FM_offer 54 = .ok (.aload_n 1, 1) := by decide +kernel
theorem d_FM_offer_55 : decode b_FM_offer 55 = .ok (.getfield 24, 3) := by decide +kernel
theorem d_FM_offer_58 : decode b_FM_offer 58 = .ok (.aload_n 1, 1) := by decide +kernel
theorem d_FM_offer_59 : decode b_FM_offer 59 = .ok (.getfield 28, 3) := by decide +kernel
theorem d_FM_offer_62 : decode b_FM_offer 62 = .ok (.aload_n 1, 1) := by decide +kernel
theorem d_FM_offer_63 : decode b_FM_offer 63 = .ok (.getfield 31, 3) := by decide +kernel
theorem d_FM_offer_66 : decode b_FM_offer 66 = .ok (.invokevirtual 57, 3) := by decide +kernel
theorem d_FM_offer_69 : decode b_FM_offer 69 = .ok (.pop, 1) := by decide +kernel
theorem d_FM_offer_70 : decode b_FM_offer 70 = .ok (.iconst 0, 1) := by decide +kernel
theorem d_FM_offer_71 : decode b_FM_offer 71 = .ok (.istore 5, 2) := by decide +kernel
theorem d_FM_offer_73 : decode b_FM_offer 73 = .ok (.iload 5, 2) := by decide +kernel
theorem d_FM_offer_75 : decode b_FM_offer 75 = .ok (.aload_n 1, 1) := by decide +kernel
theorem d_FM_offer_76 : decode b_FM_offer 76 = .ok (.getfield 34, 3) := by decide +kernel
theorem d_FM_offer_79 : decode b_FM_offer 79 = .ok (.if_icmp .ge 21, 3) := by decide +kernel
theorem d_FM_offer_82 : decode b_FM_offer 82 = .ok (.aload_n 0, 1) := by decide +kernel
theorem d_FM_offer_83 : decode b_FM_offer 83 = .ok (.aload_n 1, 1) := by decide +kernel
theorem d_FM_offer_84 : decode b_FM_offer 84 = .ok (.getfield 11, 3) := by decide +kernel
theorem d_FM_offer_87 : decode b_FM_offer 87 = .ok (.iload 5, 2) := by decide +kernel
theorem d_FM_offer_89 : decode b_FM_offer 89 = .ok (.aaload, 1) := by decide +kernel
theorem d_FM_offer_90 : decode b_FM_offer 90 = .ok (.invokevirtual 61, 3) := by decide +kernel
theorem d_FM_offer_93 : decode b_FM_offer 93 = .ok (.pop, 1) := by decide +kernel
theorem d_FM_offer_94 : decode b_FM_offer 94 = .ok (.iinc 5 1, 3) := by decide +kernel
theorem d_FM_offer_97 : decode b_FM_offer 97 = .ok (.goto (-24), 3) := by decide +kernel
theorem d_FM_offer_100 : decode b_FM_offer 100 = .ok (.aload_n 0, 1) := by decide +kernel
theorem d_FM_offer_101 : decode b_FM_offer 101 = .ok (.iload_n 2, 1) := by decide +kernel
theorem d_FM_offer_102 : decode b_FM_offer 102 = .ok (.putfield 37, 3) := by decide +kernel
theorem d_FM_offer_105 : decode b_FM_offer 105 = .ok (.aload_n 0, 1) := by decide +kernel
theorem d_FM_offer_106 : decode b_FM_offer 106 = .ok (.iload_n 3, 1) := by decide +kernel
theorem d_FM_offer_107 : decode b_FM_offer 107 = .ok (.putfield 40, 3) := by decide +kernel
theorem d_FM_offer_110 : decode b_FM_offer 110 = .ok (.return_, 1) := by decide +kernel
theorem lk_FM_50 : ab_lk "PolicyForge$Form" 50 y_FM_countWords b_FM_countWords 3 (some FieldType.int) 0 3 := ⟨⟨rfl, T_FM, 10, rfl⟩, List.forall_mem_cons.mpr ⟨(ab_in 616 (by decide +kernel) (by decide +kernel)), List.forall_mem_cons.mpr ⟨(ab_in 618 (by decide +kernel) (by decide +kernel)), List.forall_mem_cons.mpr ⟨(ab_in 13 (by decide +kernel) (by decide +kernel)), List.forall_mem_cons.mpr ⟨(ab_in 95 (by decide +kernel) (by decide +kernel)), List.forall_mem_cons.mpr ⟨(ab_in 619 (by decide +kernel) (by decide +kernel)), fun _ h => absurd h List.not_mem_nil⟩⟩⟩⟩⟩, ⟨by decide +kernel, by decide +kernel, by decide +kernel⟩, by decide⟩
theorem lk_FM_54 : ab_lk "PolicyForge$Form" 54 y_FM_greatestWeight b_FM_greatestWeight 1 (some FieldType.int) 0 3 := ⟨⟨rfl, T_FM, 10, rfl⟩, List.forall_mem_cons.mpr ⟨(ab_in 620 (by decide +kernel) (by decide +kernel)), List.forall_mem_cons.mpr ⟨(ab_in 622 (by decide +kernel) (by decide +kernel)), List.forall_mem_cons.mpr ⟨(ab_in 14 (by decide +kernel) (by decide +kernel)), List.forall_mem_cons.mpr ⟨(ab_in 95 (by decide +kernel) (by decide +kernel)), List.forall_mem_cons.mpr ⟨(ab_in 623 (by decide +kernel) (by decide +kernel)), fun _ h => absurd h List.not_mem_nil⟩⟩⟩⟩⟩, ⟨by decide +kernel, by decide +kernel, by decide +kernel⟩, by decide⟩
theorem lk_FM_57 : ab_lk "PolicyForge$Form" 57 y_FM_start b_FM_start 4 (some (FieldType.object "PolicyForge$Form")) 3 3 := ⟨⟨rfl, T_FM, 10, rfl⟩, List.forall_mem_cons.mpr ⟨(ab_in 642 (by decide +kernel) (by decide +kernel)), List.forall_mem_cons.mpr ⟨(ab_in 609 (by decide +kernel) (by decide +kernel)), List.forall_mem_cons.mpr ⟨(ab_in 610 (by decide +kernel) (by decide +kernel)), List.forall_mem_cons.mpr ⟨(ab_in 95 (by decide +kernel) (by decide +kernel)), List.forall_mem_cons.mpr ⟨(ab_in 611 (by decide +kernel) (by decide +kernel)), fun _ h => absurd h List.not_mem_nil⟩⟩⟩⟩⟩, ⟨by decide +kernel, by decide +kernel, by decide +kernel⟩, by decide⟩
theorem lk_FM_61 : ab_lk "PolicyForge$Form" 61 y_FM_with b_FM_with 2 (some (FieldType.object "PolicyForge$Form")) 1 3 := ⟨⟨rfl, T_FM, 10, rfl⟩, List.forall_mem_cons.mpr ⟨(ab_in 643 (by decide +kernel) (by decide +kernel)), List.forall_mem_cons.mpr ⟨(ab_in 644 (by decide +kernel) (by decide +kernel)), List.forall_mem_cons.mpr ⟨(ab_in 645 (by decide +kernel) (by decide +kernel)), List.forall_mem_cons.mpr ⟨(ab_in 95 (by decide +kernel) (by decide +kernel)), List.forall_mem_cons.mpr ⟨(ab_in 646 (by decide +kernel) (by decide +kernel)), fun _ h => absurd h List.not_mem_nil⟩⟩⟩⟩⟩, ⟨by decide +kernel, by decide +kernel, by decide +kernel⟩, by decide⟩
set_option maxRecDepth 100000 in
set_option maxHeartbeats 1000000 in
theorem s_FM_offer (u : ab_S) (f o : Nat) (h : CI u) (hf : f < 61) (ho : o < 61) (hfo : o ≠ f) : ab_C false l D ca y_FM_offer b_FM_offer 6 none 3 ab_nQ u [ab_O 3 f, ab_O 3 o] (fun u' v => cP [3, 9] u u' ∧ v = none) := by
  refine ab_C.of (by decide) (Nat.le_of_ble_eq_true rfl) ?_
  intro p e s m args below meth c ad X hZ hr0 hlk
  have P0 : cP [3, 9] u u := cQ.rf h
  obtain ⟨n, hn, en, he, hc⟩ := h.form ho
  have hc := hc (by omega)
  have loop : ∀ (k j : Nat) (u1 : ab_S) (y z w : Int32), k + j = n → cQ f [3, 9] u u1 → u1.1 3 o 7 = nI n → u1.1 3 f 4 = u.1 3 o 4 → u1.1 3 f 7 = nI j → ab_J p l e (ab_rm 3 0 0) s m args below meth c (MQ below (ab_Q D ca ad ab_nQ s.heap.size (fun u' v => cP [3, 9] u u' ∧ v = none)) args s 0 0 (ab_A ad ab_nQ s.heap.size)) D ca (ab_A ad ab_nQ s.heap.size) s.heap 6 0 0 ad ab_nQ u1 73 [(5, ab_I (nI j)), (4, ab_I y), (3, ab_I z), (2, ab_I w), (0, ab_O 3 f), (1, ab_O 3 o)] [] := by
    intro k
    induction k with
    | zero =>
      intro j u1 y z w hj P1 a1 a2 a3
      have P2 : cP [3, 9] u u1 := P1.un (fun m hm em => by
        rw [a2]
        obtain rfl : m = n := (nI_eq (by omega) (by omega)).mp (em.symm.trans (a3.trans (by rw [show j = n by omega])))
        exact hc)
      refine ab_iload X 0 d_FM_offer_73 rfl ?_
      refine ab_aload_n X 5 d_FM_offer_75 rfl rfl ?_
      refine ab_gI X fl_FM_34 d_FM_offer_76 (by first | assumption | decide | (show _ < 124; omega) | (show _ < 61; omega) | (show _ < 20; omega)) (a1) ?_
      refine ab_icmp_ge X 100 d_FM_offer_79 rfl (fun _ => ?_) (fun hb => absurd ((nI_le (by omega) (by omega))) hb)
      refine ab_aload_n X 4 d_FM_offer_100 rfl rfl ?_
      refine ab_iload_n X 3 d_FM_offer_101 rfl rfl ?_
      refine ab_putI X fp_FM_37 d_FM_offer_102 (by first | assumption | decide | (show _ < 124; omega) | (show _ < 61; omega) | (show _ < 20; omega)) rfl rfl ?_
      refine ab_gen (fun u102 e102 => ?_)
      have P102 : cP [3, 9] u u102 := by rw [e102]; exact P2.ui rfl (by decide)
      refine ab_aload_n X 4 d_FM_offer_105 rfl rfl ?_
      refine ab_iload_n X 2 d_FM_offer_106 rfl rfl ?_
      refine ab_putI X fp_FM_40 d_FM_offer_107 (by first | assumption | decide | (show _ < 124; omega) | (show _ < 61; omega) | (show _ < 20; omega)) rfl rfl ?_
      refine ab_gen (fun u107 e107 => ?_)
      have P107 : cP [3, 9] u u107 := by rw [e107]; exact P102.ui rfl (by decide)
      exact ab_retv X hr0 hlk d_FM_offer_110 ⟨P107, rfl⟩
    | succ k ih =>
      intro j u1 y z w hj P1 a1 a2 a3
      obtain ⟨m, hm, em, hem, -⟩ := P1.1.form ho
      obtain rfl : m = n := (nI_eq (by omega) (by omega)).mp (em.symm.trans a1)
      obtain ⟨g, hg, eg⟩ := hem j (by omega)
      refine ab_iload X 0 d_FM_offer_73 rfl ?_
      refine ab_aload_n X 5 d_FM_offer_75 rfl rfl ?_
      refine ab_gI X fl_FM_34 d_FM_offer_76 (by first | assumption | decide | (show _ < 124; omega) | (show _ < 61; omega) | (show _ < 20; omega)) (a1) ?_
      refine ab_icmp_ge X 100 d_FM_offer_79 rfl (fun hb => absurd hb ((nI_ge (by omega) (by omega)))) (fun _ => ?_)
      refine ab_aload_n X 4 d_FM_offer_82 rfl rfl ?_
      refine ab_aload_n X 5 d_FM_offer_83 rfl rfl ?_
      refine ab_gR X fl_FM_11 d_FM_offer_84 (by first | assumption | decide | (show _ < 124; omega) | (show _ < 61; omega) | (show _ < 20; omega)) (P1.1.fm0 (by first | assumption | decide | omega)) ?_
      refine ab_iload X 0 d_FM_offer_87 rfl ?_
      refine ab_aalv X (j) ⟨rfl, _, fun _ => rfl⟩ d_FM_offer_89 (by first | assumption | decide | (show _ < 124; omega) | (show _ < 61; omega) | (show _ < 20; omega)) (rfl) (show j < 4 by omega) (ab_ln_lt _ _) (eg) ?_
      refine ab_callV (as := [ab_O 3 g]) X (fun h => by cases h) (s_FM_with u1 f g j P1.1 hf hg a3 (by omega)) lk_FM_61 d_FM_offer_90 rfl rfl (by first | assumption | decide | (show _ < 124; omega) | (show _ < 61; omega) | (show _ < 20; omega)) ⟨by first | exact Nat.le_of_ble_eq_true rfl | (simp only [ab_rm]; omega), by first | exact Nat.le_of_ble_eq_true rfl | (simp only [ab_rm]; omega)⟩ ⟨by first | exact Nat.le_of_ble_eq_true rfl | (simp only [ab_rm]; omega), by first | exact Nat.le_of_ble_eq_true rfl | (simp only [ab_rm]; omega)⟩ (Nat.le_of_ble_eq_true rfl) (fun u90 r90 h90 => ?_)
      obtain ⟨⟨q90, b1, b2, b3⟩, rfl⟩ := h90
      have P90 := P1.trans q90 (by decide)
      refine ab_pop X d_FM_offer_93 rfl ?_
      refine ab_iinc5 X 0 1 2 3 4 5 d_FM_offer_94 rfl (by decide) rfl rfl rfl rfl rfl rfl rfl rfl rfl rfl ?_
      refine ab_goto X 73 d_FM_offer_97 rfl ?_
      rw [show nI j + Int32.ofInt 1 = nI (j + 1) from nI_1 j]
      exact ih (j + 1) _ _ _ _ (by omega) P90 ((b1 o hfo).1.trans a1) (b2.trans a2) b3
  refine ab_aload_n X 1 d_FM_offer_0 rfl rfl ?_
  refine ab_callV (as := []) X (fun h => by cases h) (t_FM_countWords u o h ho) lk_FM_50 d_FM_offer_1 rfl rfl (by first | assumption | decide | (show _ < 124; omega) | (show _ < 61; omega) | (show _ < 20; omega)) ⟨by first | exact Nat.le_of_ble_eq_true rfl | (simp only [ab_rm]; omega), by first | exact Nat.le_of_ble_eq_true rfl | (simp only [ab_rm]; omega)⟩ ⟨by first | exact Nat.le_of_ble_eq_true rfl | (simp only [ab_rm]; omega), by first | exact Nat.le_of_ble_eq_true rfl | (simp only [ab_rm]; omega)⟩ (Nat.le_of_ble_eq_true rfl) (fun u1 r1 h1 => ?_)
  obtain ⟨e1, x1, rfl⟩ := h1
  subst u1
  refine ab_istore_n2 X 0 1 d_FM_offer_4 rfl (by decide) rfl rfl rfl rfl ?_
  refine ab_aload_n X 2 d_FM_offer_5 rfl rfl ?_
  refine ab_callV (as := []) X (fun h => by cases h) (t_FM_greatestWeight u o h ho) lk_FM_54 d_FM_offer_6 rfl rfl (by first | assumption | decide | (show _ < 124; omega) | (show _ < 61; omega) | (show _ < 20; omega)) ⟨by first | exact Nat.le_of_ble_eq_true rfl | (simp only [ab_rm]; omega), by first | exact Nat.le_of_ble_eq_true rfl | (simp only [ab_rm]; omega)⟩ ⟨by first | exact Nat.le_of_ble_eq_true rfl | (simp only [ab_rm]; omega), by first | exact Nat.le_of_ble_eq_true rfl | (simp only [ab_rm]; omega)⟩ (Nat.le_of_ble_eq_true rfl) (fun u6 r6 h6 => ?_)
  obtain ⟨e6, x6, rfl⟩ := h6
  subst u6
  refine ab_istore_n3 X 0 1 2 d_FM_offer_9 rfl (by decide) rfl rfl rfl rfl rfl rfl ?_
  refine ab_aload_n X 2 d_FM_offer_10 rfl rfl ?_
  refine ab_gI X fl_FM_24 d_FM_offer_11 (by first | assumption | decide | (show _ < 124; omega) | (show _ < 61; omega) | (show _ < 20; omega)) (rfl) ?_
  refine ab_if_eq X 41 d_FM_offer_14 rfl (fun h14 => ?_) (fun h14 => ?_)
  ·
    refine ab_iconst (v := 1) X d_FM_offer_41 (by decide) ?_
    refine ab_goto X 46 d_FM_offer_42 rfl ?_
    refine ab_istore4 X 0 1 2 3 d_FM_offer_46 (by decide) rfl rfl rfl rfl rfl rfl rfl rfl ?_
    refine ab_iload X 0 d_FM_offer_48 rfl ?_
    refine ab_if_eq X 110 d_FM_offer_50 rfl (fun h50 => ?_) (fun h50 => ?_)
    ·
      exact ab_retv X hr0 hlk d_FM_offer_110 ⟨P0, rfl⟩
    ·
      refine ab_aload_n X 3 d_FM_offer_53 rfl rfl ?_
      refine ab_aload_n X 4 d_FM_offer_54 rfl rfl ?_
      refine ab_gI X fl_FM_24 d_FM_offer_55 (by first | assumption | decide | (show _ < 124; omega) | (show _ < 61; omega) | (show _ < 20; omega)) (rfl) ?_
      refine ab_aload_n X 4 d_FM_offer_58 rfl rfl ?_
      refine ab_gI X fl_FM_28 d_FM_offer_59 (by first | assumption | decide | (show _ < 124; omega) | (show _ < 61; omega) | (show _ < 20; omega)) (rfl) ?_
      refine ab_aload_n X 4 d_FM_offer_62 rfl rfl ?_
      refine ab_gI X fl_FM_31 d_FM_offer_63 (by first | assumption | decide | (show _ < 124; omega) | (show _ < 61; omega) | (show _ < 20; omega)) (rfl) ?_
      refine ab_callV (as := [ab_I (u.1 3 o 4), ab_I (u.1 3 o 5), ab_I (u.1 3 o 6)]) X (fun h => by cases h) (s_FM_start u f _ _ _ (P0.ex f).1 hf) lk_FM_57 d_FM_offer_66 rfl rfl (by first | assumption | decide | (show _ < 124; omega) | (show _ < 61; omega) | (show _ < 20; omega)) ⟨by first | exact Nat.le_of_ble_eq_true rfl | (simp only [ab_rm]; omega), by first | exact Nat.le_of_ble_eq_true rfl | (simp only [ab_rm]; omega)⟩ ⟨by first | exact Nat.le_of_ble_eq_true rfl | (simp only [ab_rm]; omega), by first | exact Nat.le_of_ble_eq_true rfl | (simp only [ab_rm]; omega)⟩ (Nat.le_of_ble_eq_true rfl) (fun u66 r66 h66 => ?_)
      obtain ⟨⟨q66, b1, b2, b3⟩, rfl⟩ := h66
      have P66 := P0.trans q66 (by decide)
      refine ab_pop X d_FM_offer_69 rfl ?_
      refine ab_iconst (v := 0) X d_FM_offer_70 (by decide) ?_
      refine ab_istore5 X 0 1 2 3 4 d_FM_offer_71 (by decide) rfl rfl rfl rfl rfl rfl rfl rfl rfl rfl ?_
      exact loop n 0 _ _ _ _ (by omega) P66 ((b1 o hfo).1.trans en) b2 b3
  ·
    refine ab_iload_n X 1 d_FM_offer_17 rfl rfl ?_
    refine ab_aload_n X 2 d_FM_offer_18 rfl rfl ?_
    refine ab_gI X fl_FM_37 d_FM_offer_19 (by first | assumption | decide | (show _ < 124; omega) | (show _ < 61; omega) | (show _ < 20; omega)) (rfl) ?_
    refine ab_icmp_lt X 41 d_FM_offer_22 rfl (fun h22 => ?_) (fun h22 => ?_)
    ·
      refine ab_iconst (v := 1) X d_FM_offer_41 (by decide) ?_
      refine ab_goto X 46 d_FM_offer_42 rfl ?_
      refine ab_istore4 X 0 1 2 3 d_FM_offer_46 (by decide) rfl rfl rfl rfl rfl rfl rfl rfl ?_
      refine ab_iload X 0 d_FM_offer_48 rfl ?_
      refine ab_if_eq X 110 d_FM_offer_50 rfl (fun h50 => ?_) (fun h50 => ?_)
      ·
        exact ab_retv X hr0 hlk d_FM_offer_110 ⟨P0, rfl⟩
      ·
        refine ab_aload_n X 3 d_FM_offer_53 rfl rfl ?_
        refine ab_aload_n X 4 d_FM_offer_54 rfl rfl ?_
        refine ab_gI X fl_FM_24 d_FM_offer_55 (by first | assumption | decide | (show _ < 124; omega) | (show _ < 61; omega) | (show _ < 20; omega)) (rfl) ?_
        refine ab_aload_n X 4 d_FM_offer_58 rfl rfl ?_
        refine ab_gI X fl_FM_28 d_FM_offer_59 (by first | assumption | decide | (show _ < 124; omega) | (show _ < 61; omega) | (show _ < 20; omega)) (rfl) ?_
        refine ab_aload_n X 4 d_FM_offer_62 rfl rfl ?_
        refine ab_gI X fl_FM_31 d_FM_offer_63 (by first | assumption | decide | (show _ < 124; omega) | (show _ < 61; omega) | (show _ < 20; omega)) (rfl) ?_
        refine ab_callV (as := [ab_I (u.1 3 o 4), ab_I (u.1 3 o 5), ab_I (u.1 3 o 6)]) X (fun h => by cases h) (s_FM_start u f _ _ _ (P0.ex f).1 hf) lk_FM_57 d_FM_offer_66 rfl rfl (by first | assumption | decide | (show _ < 124; omega) | (show _ < 61; omega) | (show _ < 20; omega)) ⟨by first | exact Nat.le_of_ble_eq_true rfl | (simp only [ab_rm]; omega), by first | exact Nat.le_of_ble_eq_true rfl | (simp only [ab_rm]; omega)⟩ ⟨by first | exact Nat.le_of_ble_eq_true rfl | (simp only [ab_rm]; omega), by first | exact Nat.le_of_ble_eq_true rfl | (simp only [ab_rm]; omega)⟩ (Nat.le_of_ble_eq_true rfl) (fun u66 r66 h66 => ?_)
        obtain ⟨⟨q66, b1, b2, b3⟩, rfl⟩ := h66
        have P66 := P0.trans q66 (by decide)
        refine ab_pop X d_FM_offer_69 rfl ?_
        refine ab_iconst (v := 0) X d_FM_offer_70 (by decide) ?_
        refine ab_istore5 X 0 1 2 3 4 d_FM_offer_71 (by decide) rfl rfl rfl rfl rfl rfl rfl rfl rfl rfl ?_
        exact loop n 0 _ _ _ _ (by omega) P66 ((b1 o hfo).1.trans en) b2 b3
    ·
      refine ab_iload_n X 1 d_FM_offer_25 rfl rfl ?_
      refine ab_aload_n X 2 d_FM_offer_26 rfl rfl ?_
      refine ab_gI X fl_FM_37 d_FM_offer_27 (by first | assumption | decide | (show _ < 124; omega) | (show _ < 61; omega) | (show _ < 20; omega)) (rfl) ?_
      refine ab_icmp_ne X 45 d_FM_offer_30 rfl (fun h30 => ?_) (fun h30 => ?_)
      ·
        refine ab_iconst (v := 0) X d_FM_offer_45 (by decide) ?_
        refine ab_istore4 X 0 1 2 3 d_FM_offer_46 (by decide) rfl rfl rfl rfl rfl rfl rfl rfl ?_
        refine ab_iload X 0 d_FM_offer_48 rfl ?_
        refine ab_if_eq X 110 d_FM_offer_50 rfl (fun h50 => ?_) (fun h50 => ?_)
        ·
          exact ab_retv X hr0 hlk d_FM_offer_110 ⟨P0, rfl⟩
        ·
          refine ab_aload_n X 3 d_FM_offer_53 rfl rfl ?_
          refine ab_aload_n X 4 d_FM_offer_54 rfl rfl ?_
          refine ab_gI X fl_FM_24 d_FM_offer_55 (by first | assumption | decide | (show _ < 124; omega) | (show _ < 61; omega) | (show _ < 20; omega)) (rfl) ?_
          refine ab_aload_n X 4 d_FM_offer_58 rfl rfl ?_
          refine ab_gI X fl_FM_28 d_FM_offer_59 (by first | assumption | decide | (show _ < 124; omega) | (show _ < 61; omega) | (show _ < 20; omega)) (rfl) ?_
          refine ab_aload_n X 4 d_FM_offer_62 rfl rfl ?_
          refine ab_gI X fl_FM_31 d_FM_offer_63 (by first | assumption | decide | (show _ < 124; omega) | (show _ < 61; omega) | (show _ < 20; omega)) (rfl) ?_
          refine ab_callV (as := [ab_I (u.1 3 o 4), ab_I (u.1 3 o 5), ab_I (u.1 3 o 6)]) X (fun h => by cases h) (s_FM_start u f _ _ _ (P0.ex f).1 hf) lk_FM_57 d_FM_offer_66 rfl rfl (by first | assumption | decide | (show _ < 124; omega) | (show _ < 61; omega) | (show _ < 20; omega)) ⟨by first | exact Nat.le_of_ble_eq_true rfl | (simp only [ab_rm]; omega), by first | exact Nat.le_of_ble_eq_true rfl | (simp only [ab_rm]; omega)⟩ ⟨by first | exact Nat.le_of_ble_eq_true rfl | (simp only [ab_rm]; omega), by first | exact Nat.le_of_ble_eq_true rfl | (simp only [ab_rm]; omega)⟩ (Nat.le_of_ble_eq_true rfl) (fun u66 r66 h66 => ?_)
          obtain ⟨⟨q66, b1, b2, b3⟩, rfl⟩ := h66
          have P66 := P0.trans q66 (by decide)
          refine ab_pop X d_FM_offer_69 rfl ?_
          refine ab_iconst (v := 0) X d_FM_offer_70 (by decide) ?_
          refine ab_istore5 X 0 1 2 3 4 d_FM_offer_71 (by decide) rfl rfl rfl rfl rfl rfl rfl rfl rfl rfl ?_
          exact loop n 0 _ _ _ _ (by omega) P66 ((b1 o hfo).1.trans en) b2 b3
      ·
        refine ab_iload_n X 0 d_FM_offer_33 rfl rfl ?_
        refine ab_aload_n X 2 d_FM_offer_34 rfl rfl ?_
        refine ab_gI X fl_FM_40 d_FM_offer_35 (by first | assumption | decide | (show _ < 124; omega) | (show _ < 61; omega) | (show _ < 20; omega)) (rfl) ?_
        refine ab_icmp_ge X 45 d_FM_offer_38 rfl (fun h38 => ?_) (fun h38 => ?_)
        ·
          refine ab_iconst (v := 0) X d_FM_offer_45 (by decide) ?_
          refine ab_istore4 X 0 1 2 3 d_FM_offer_46 (by decide) rfl rfl rfl rfl rfl rfl rfl rfl ?_
          refine ab_iload X 0 d_FM_offer_48 rfl ?_
          refine ab_if_eq X 110 d_FM_offer_50 rfl (fun h50 => ?_) (fun h50 => ?_)
          ·
            exact ab_retv X hr0 hlk d_FM_offer_110 ⟨P0, rfl⟩
          ·
            refine ab_aload_n X 3 d_FM_offer_53 rfl rfl ?_
            refine ab_aload_n X 4 d_FM_offer_54 rfl rfl ?_
            refine ab_gI X fl_FM_24 d_FM_offer_55 (by first | assumption | decide | (show _ < 124; omega) | (show _ < 61; omega) | (show _ < 20; omega)) (rfl) ?_
            refine ab_aload_n X 4 d_FM_offer_58 rfl rfl ?_
            refine ab_gI X fl_FM_28 d_FM_offer_59 (by first | assumption | decide | (show _ < 124; omega) | (show _ < 61; omega) | (show _ < 20; omega)) (rfl) ?_
            refine ab_aload_n X 4 d_FM_offer_62 rfl rfl ?_
            refine ab_gI X fl_FM_31 d_FM_offer_63 (by first | assumption | decide | (show _ < 124; omega) | (show _ < 61; omega) | (show _ < 20; omega)) (rfl) ?_
            refine ab_callV (as := [ab_I (u.1 3 o 4), ab_I (u.1 3 o 5), ab_I (u.1 3 o 6)]) X (fun h => by cases h) (s_FM_start u f _ _ _ (P0.ex f).1 hf) lk_FM_57 d_FM_offer_66 rfl rfl (by first | assumption | decide | (show _ < 124; omega) | (show _ < 61; omega) | (show _ < 20; omega)) ⟨by first | exact Nat.le_of_ble_eq_true rfl | (simp only [ab_rm]; omega), by first | exact Nat.le_of_ble_eq_true rfl | (simp only [ab_rm]; omega)⟩ ⟨by first | exact Nat.le_of_ble_eq_true rfl | (simp only [ab_rm]; omega), by first | exact Nat.le_of_ble_eq_true rfl | (simp only [ab_rm]; omega)⟩ (Nat.le_of_ble_eq_true rfl) (fun u66 r66 h66 => ?_)
            obtain ⟨⟨q66, b1, b2, b3⟩, rfl⟩ := h66
            have P66 := P0.trans q66 (by decide)
            refine ab_pop X d_FM_offer_69 rfl ?_
            refine ab_iconst (v := 0) X d_FM_offer_70 (by decide) ?_
            refine ab_istore5 X 0 1 2 3 4 d_FM_offer_71 (by decide) rfl rfl rfl rfl rfl rfl rfl rfl rfl rfl ?_
            exact loop n 0 _ _ _ _ (by omega) P66 ((b1 o hfo).1.trans en) b2 b3
        ·
          refine ab_iconst (v := 1) X d_FM_offer_41 (by decide) ?_
          refine ab_goto X 46 d_FM_offer_42 rfl ?_
          refine ab_istore4 X 0 1 2 3 d_FM_offer_46 (by decide) rfl rfl rfl rfl rfl rfl rfl rfl ?_
          refine ab_iload X 0 d_FM_offer_48 rfl ?_
          refine ab_if_eq X 110 d_FM_offer_50 rfl (fun h50 => ?_) (fun h50 => ?_)
          ·
            exact ab_retv X hr0 hlk d_FM_offer_110 ⟨P0, rfl⟩
          ·
            refine ab_aload_n X 3 d_FM_offer_53 rfl rfl ?_
            refine ab_aload_n X 4 d_FM_offer_54 rfl rfl ?_
            refine ab_gI X fl_FM_24 d_FM_offer_55 (by first | assumption | decide | (show _ < 124; omega) | (show _ < 61; omega) | (show _ < 20; omega)) (rfl) ?_
            refine ab_aload_n X 4 d_FM_offer_58 rfl rfl ?_
            refine ab_gI X fl_FM_28 d_FM_offer_59 (by first | assumption | decide | (show _ < 124; omega) | (show _ < 61; omega) | (show _ < 20; omega)) (rfl) ?_
            refine ab_aload_n X 4 d_FM_offer_62 rfl rfl ?_
            refine ab_gI X fl_FM_31 d_FM_offer_63 (by first | assumption | decide | (show _ < 124; omega) | (show _ < 61; omega) | (show _ < 20; omega)) (rfl) ?_
            refine ab_callV (as := [ab_I (u.1 3 o 4), ab_I (u.1 3 o 5), ab_I (u.1 3 o 6)]) X (fun h => by cases h) (s_FM_start u f _ _ _ (P0.ex f).1 hf) lk_FM_57 d_FM_offer_66 rfl rfl (by first | assumption | decide | (show _ < 124; omega) | (show _ < 61; omega) | (show _ < 20; omega)) ⟨by first | exact Nat.le_of_ble_eq_true rfl | (simp only [ab_rm]; omega), by first | exact Nat.le_of_ble_eq_true rfl | (simp only [ab_rm]; omega)⟩ ⟨by first | exact Nat.le_of_ble_eq_true rfl | (simp only [ab_rm]; omega), by first | exact Nat.le_of_ble_eq_true rfl | (simp only [ab_rm]; omega)⟩ (Nat.le_of_ble_eq_true rfl) (fun u66 r66 h66 => ?_)
            obtain ⟨⟨q66, b1, b2, b3⟩, rfl⟩ := h66
            have P66 := P0.trans q66 (by decide)
            refine ab_pop X d_FM_offer_69 rfl ?_
            refine ab_iconst (v := 0) X d_FM_offer_70 (by decide) ?_
            refine ab_istore5 X 0 1 2 3 4 d_FM_offer_71 (by decide) rfl rfl rfl rfl rfl rfl rfl rfl rfl rfl ?_
            exact loop n 0 _ _ _ _ (by omega) P66 ((b1 o hfo).1.trans en) b2 b3
abbrev b_FM_makeRefusal : ByteArray := prog_3_method_9_code
def y_FM_makeRefusal : MethodName := ⟨"PolicyForge$Form", "makeRefusal", "()V"⟩
theorem d_FM_makeRefusal_0 : decode b_FM_makeRefusal 0 = .ok (.aload_n 0, 1) := by decide +kernel
theorem d_FM_makeRefusal_1 : decode b_FM_makeRefusal 1 = .ok (.getfield 47, 3) := by decide +kernel
theorem d_FM_makeRefusal_4 : decode b_FM_makeRefusal 4 = .ok (.invokevirtual 87, 3) := by decide +kernel
theorem d_FM_makeRefusal_7 : decode b_FM_makeRefusal 7 = .ok (.aload_n 0, 1) := by decide +kernel
theorem d_FM_makeRefusal_8 : decode b_FM_makeRefusal 8 = .ok (.getfield 24, 3) := by decide +kernel
theorem d_FM_makeRefusal_11 : decode b_FM_makeRefusal 11 = .ok (.iconst 1, 1) := by decide +kernel
theorem d_FM_makeRefusal_12 : decode b_FM_makeRefusal 12 = .ok (.if_icmp .eq 12, 3) := by decide +kernel
theorem d_FM_makeRefusal_15 : decode b_FM_makeRefusal 15 = .ok (.aload_n 0, 1) := by decide +kernel
theorem d_FM_makeRefusal_16 : decode b_FM_makeRefusal 16 = .ok (.getfield 24, 3) := by decide +kernel
theorem d_FM_makeRefusal_19 : decode b_FM_makeRefusal 19 = .ok (.bipush 6, 2) := by decide +kernel
theorem d_FM_makeRefusal_21 : decode b_FM_makeRefusal 21 = .ok (.if_icmp .ne 14, 3) := by decide +kernel
theorem d_FM_makeRefusal_24 : decode b_FM_makeRefusal 24 = .ok (.aload_n 0, 1) := by decide +kernel
theorem d_FM_makeRefusal_25 : decode b_FM_makeRefusal 25 = .ok (.getfield 47, 3) := by decide +kernel
theorem d_FM_makeRefusal_28 : decode b_FM_makeRefusal 28 = .ok (.iconst 0, 1) := by decide +kernel
theorem d_FM_makeRefusal_29 : decode b_FM_makeRefusal 29 = .ok (.invokevirtual 89, 3) := by decide +kernel
theorem d_FM_makeRefusal_32 : decode b_FM_makeRefusal 32 = .ok (.goto 104, 3) := by decide +kernel
theorem d_FM_makeRefusal_35 : decode b_FM_makeRefusal 35 = .ok (.aload_n 0, 1) := by decide +kernel
theorem d_FM_makeRefusal_36 : decode b_FM_makeRefusal 36 = .ok (.getfield 24, 3) := by decide +kernel
theorem d_FM_makeRefusal_39 : decode b_FM_makeRefusal 39 = .ok (.iconst 5, 1) := by decide +kernel
theorem d_FM_makeRefusal_40 : decode b_FM_makeRefusal 40 = .ok (.if_icmp .ne 64, 3) := by decide +kernel
theorem d_FM_makeRefusal_43 : decode b_FM_makeRefusal 43 = .ok (.aload_n 0, 1) := by decide +kernel
theorem d_FM_makeRefusal_44 : decode b_FM_makeRefusal 44 = .ok (.getfield 11, 3) := by decide +kernel
theorem d_FM_makeRefusal_47 : decode b_FM_makeRefusal 47 = .ok (.iconst 0, 1) := by decide +kernel
theorem d_FM_makeRefusal_48 : decode b_FM_makeRefusal 48 = .ok (.aaload, 1) := by decide +kernel
theorem d_FM_makeRefusal_49 : decode b_FM_makeRefusal 49 = .ok (.getfield 43, 3) := by decide +kernel
theorem d_FM_makeRefusal_52 : decode b_FM_makeRefusal 52 = .ok (.istore_n 1, 1) := by decide +kernel
theorem d_FM_makeRefusal_53 : decode b_FM_makeRefusal 53 = .ok (.aload_n 0, 1) := by decide +kernel
theorem d_FM_makeRefusal_54 : decode b_FM_makeRefusal 54 = .ok (.getfield 47, 3) := by decide +kernel
theorem d_FM_makeRefusal_57 : decode b_FM_makeRefusal 57 = .ok (.iload_n 1, 1) := by decide +kernel
theorem d_FM_makeRefusal_58 : decode b_FM_makeRefusal 58 = .ok (.ifCond .eq 7, 3) := by decide +kernel
theorem d_FM_makeRefusal_61 : decode b_FM_makeRefusal 61 = .ok (.iconst 1, 1) := by decide +kernel
theorem d_FM_makeRefusal_62 : decode b_FM_makeRefusal 62 = .ok (.goto 4, 3) := by decide +kernel
theorem d_FM_makeRefusal_65 : decode b_FM_makeRefusal 65 = .ok (.iconst 0, 1) := by decide +kernel
theorem d_FM_makeRefusal_66 : decode b_FM_makeRefusal 66 = .ok (.invokevirtual 89, 3) := by decide +kernel
theorem d_FM_makeRefusal_69 : decode b_FM_makeRefusal 69 = .ok (.aload_n 0, 1) := by decide +kernel
theorem d_FM_makeRefusal_70 : decode b_FM_makeRefusal 70 = .ok (.getfield 47, 3) := by decide +kernel
theorem d_FM_makeRefusal_73 : decode b_FM_makeRefusal 73 = .ok (.iload_n 1, 1) := by decide +kernel
theorem d_FM_makeRefusal_74 : decode b_FM_makeRefusal 74 = .ok (.ifCond .eq 15, 3) := by decide +kernel
theorem d_FM_makeRefusal_77 : decode b_FM_makeRefusal 77 = .ok (.aload_n 0, 1) := by decide +kernel
theorem d_FM_makeRefusal_78 : decode b_FM_makeRefusal 78 = .ok (.getfield 11, 3) := by decide +kernel
theorem d_FM_makeRefusal_81 : decode b_FM_makeRefusal 81 = .ok (.iconst 0, 1) := by decide +kernel
theorem d_FM_makeRefusal_82 : decode b_FM_makeRefusal 82 = .ok (.aaload, 1) := by decide +kernel
theorem d_FM_makeRefusal_83 : decode b_FM_makeRefusal 83 = .ok (.getfield 47, 3) := by decide +kernel
theorem d_FM_makeRefusal_86 : decode b_FM_makeRefusal 86 = .ok (.goto 12, 3) := by decide +kernel
theorem d_FM_makeRefusal_89 : decode b_FM_makeRefusal 89 = .ok (.aload_n 0, 1) := by decide +kernel
theorem d_FM_makeRefusal_90 : decode b_FM_makeRefusal 90 = .ok (.getfield 11, 3) := by decide +kernel
theorem d_FM_makeRefusal_93 : decode b_FM_makeRefusal 93 = .ok (.iconst 1, 1) := by decide +kernel
theorem d_FM_makeRefusal_94 : decode b_FM_makeRefusal 94 = .ok (.aaload, 1) := by decide +kernel
theorem d_FM_makeRefusal_95 : decode b_FM_makeRefusal 95 = .ok (.getfield 47, 3) := by decide +kernel
theorem d_FM_makeRefusal_98 : decode b_FM_makeRefusal 98 = .ok (.invokevirtual 92, 3) := by decide +kernel
theorem d_FM_makeRefusal_101 : decode b_FM_makeRefusal 101 = .ok (.goto 35, 3) := by decide +kernel
theorem d_FM_makeRefusal_104 : decode b_FM_makeRefusal 104 = .ok (.iconst 0, 1) := by decide +kernel
theorem d_FM_makeRefusal_105 : decode b_FM_makeRefusal 105 = .ok (.istore_n 1, 1) := by decide +kernel
theorem d_FM_makeRefusal_106 : decode b_FM_makeRefusal 106 = .ok (.iload_n 1, 1) := by decide +kernel
theorem d_FM_makeRefusal_107 : decode b_FM_makeRefusal 107 = .ok (.aload_n 0, 1) := by decide +kernel
theorem d_FM_makeRefusal_108 : decode b_FM_makeRefusal 108 = .ok (.getfield 34, 3) := by decide +kernel
theorem d_FM_makeRefusal_111 : decode b_FM_makeRefusal 111 = .ok (.if_icmp .ge 25, 3) := by decide +kernel
theorem d_FM_makeRefusal_114 : decode b_FM_makeRefusal 114 = .ok (.aload_n 0, 1) := by decide +kernel
theorem d_FM_makeRefusal_115 : decode b_FM_makeRefusal 115 = .ok (.getfield 47, 3) := by decide +kernel
theorem d_FM_makeRefusal_118 : decode b_FM_makeRefusal 118 = .ok (.aload_n 0, 1) := by decide +kernel
theorem d_FM_makeRefusal_119 : decode b_FM_makeRefusal 119 = .ok (.getfield 11, 3) := by decide +kernel
theorem d_FM_makeRefusal_122 : decode b_FM_makeRefusal 122 = .ok (.iload_n 1, 1) := by decide +kernel
theorem d_FM_makeRefusal_123 : decode b_FM_makeRefusal 123 = .ok (.aaload, 1) := by decide +kernel
theorem d_FM_makeRefusal_124 : decode b_FM_makeRefusal 124 = .ok (.getfield 47, 3) := by decide +kernel
theorem d_FM_makeRefusal_127 : decode b_FM_makeRefusal 127 = .ok (.invokevirtual 92, 3) := by decide +kernel
theorem d_FM_makeRefusal_130 : decode b_FM_makeRefusal 130 = .ok (.iinc 1 1, 3) := by decide +kernel
theorem d_FM_makeRefusal_133 : decode b_FM_makeRefusal 133 = .ok (.goto (-27), 3) := by decide +kernel
theorem d_FM_makeRefusal_136 : decode b_FM_makeRefusal 136 = .ok (.return_, 1) := by decide +kernel
theorem lk_FM_87 : ab_lk "PolicyForge$Form" 87 y_RW_start b_RW_start 1 none 0 4 := ⟨⟨rfl, T_RW, 4, rfl⟩, List.forall_mem_cons.mpr ⟨(ab_in 667 (by decide +kernel) (by decide +kernel)), List.forall_mem_cons.mpr ⟨(ab_in 352 (by decide +kernel) (by decide +kernel)), List.forall_mem_cons.mpr ⟨(ab_in 353 (by decide +kernel) (by decide +kernel)), List.forall_mem_cons.mpr ⟨(ab_in 96 (by decide +kernel) (by decide +kernel)), List.forall_mem_cons.mpr ⟨(ab_in 354 (by decide +kernel) (by decide +kernel)), fun _ h => absurd h List.not_mem_nil⟩⟩⟩⟩⟩, ⟨by decide +kernel, by decide +kernel, by decide +kernel⟩, by decide⟩
theorem lk_FM_89 : ab_lk "PolicyForge$Form" 89 y_RW_add b_RW_add 2 none 1 4 := ⟨⟨rfl, T_RW, 4, rfl⟩, List.forall_mem_cons.mpr ⟨(ab_in 668 (by decide +kernel) (by decide +kernel)), List.forall_mem_cons.mpr ⟨(ab_in 669 (by decide +kernel) (by decide +kernel)), List.forall_mem_cons.mpr ⟨(ab_in 670 (by decide +kernel) (by decide +kernel)), List.forall_mem_cons.mpr ⟨(ab_in 96 (by decide +kernel) (by decide +kernel)), List.forall_mem_cons.mpr ⟨(ab_in 671 (by decide +kernel) (by decide +kernel)), fun _ h => absurd h List.not_mem_nil⟩⟩⟩⟩⟩, ⟨by decide +kernel, by decide +kernel, by decide +kernel⟩, by decide⟩
theorem fl_FM_43 : ab_fl "PolicyForge$Form" 43 3 1 0 := ⟨rfl, R_FM, T_FM, 10, rfl, uw_FM, by decide, rfl, (ab_in 174 (by decide +kernel) (by decide +kernel))⟩
theorem lk_FM_92 : ab_lk "PolicyForge$Form" 92 y_RW_join b_RW_join 3 none 1 4 := ⟨⟨rfl, T_RW, 4, rfl⟩, List.forall_mem_cons.mpr ⟨(ab_in 673 (by decide +kernel) (by decide +kernel)), List.forall_mem_cons.mpr ⟨(ab_in 674 (by decide +kernel) (by decide +kernel)), List.forall_mem_cons.mpr ⟨(ab_in 675 (by decide +kernel) (by decide +kernel)), List.forall_mem_cons.mpr ⟨(ab_in 96 (by decide +kernel) (by decide +kernel)), List.forall_mem_cons.mpr ⟨(ab_in 676 (by decide +kernel) (by decide +kernel)), fun _ h => absurd h List.not_mem_nil⟩⟩⟩⟩⟩, ⟨by decide +kernel, by decide +kernel, by decide +kernel⟩, by decide⟩
set_option maxRecDepth 100000 in
set_option maxHeartbeats 1000000 in
theorem s_FM_makeRefusal (u : ab_S) (f : Nat) (h : CI u) (hf : f < 61) : ab_C false l D ca y_FM_makeRefusal b_FM_makeRefusal 2 none 2 ab_nQ u [ab_O 3 f] (fun u' v => cP [4, 8] u u' ∧ v = none) := by
  refine ab_C.of (by decide) (Nat.le_of_ble_eq_true rfl) ?_
  intro p e s m args below meth c ad X hZ hr0 hlk
  have P0 : cP [4, 8] u u := cQ.rf h
  obtain ⟨n, hn, en, he, hc⟩ := h.form hf
  have hc := hc (by omega)
  have loop : ∀ (k j : Nat) (u1 : ab_S), k + j = 4 → cP [4, 8] u u1 → ab_J p l e (ab_rm 2 0 0) s m args below meth c (MQ below (ab_Q D ca ad ab_nQ s.heap.size (fun u' v => cP [4, 8] u u' ∧ v = none)) args s 0 0 (ab_A ad ab_nQ s.heap.size)) D ca (ab_A ad ab_nQ s.heap.size) s.heap 2 0 0 ad ab_nQ u1 106 [(1, ab_I (nI j)), (0, ab_O 3 f)] [] := by
    intro k
    induction k with
    | zero =>
      intro j u1 hj P1
      refine ab_iload_n X 0 d_FM_makeRefusal_106 rfl rfl ?_
      refine ab_aload_n X 1 d_FM_makeRefusal_107 rfl rfl ?_
      refine ab_gI X fl_FM_34 d_FM_makeRefusal_108 (by first | assumption | decide | (show _ < 124; omega) | (show _ < 61; omega) | (show _ < 20; omega)) (P1.ii (by decide) en) ?_
      refine ab_icmp_ge X 136 d_FM_makeRefusal_111 rfl (fun _ => ?_) (fun hb => absurd ((nI_le (by omega) (by omega))) hb)
      exact ab_retv X hr0 hlk d_FM_makeRefusal_136 ⟨P1, rfl⟩
    | succ k ih =>
      intro j u1 hj P1
      refine ab_iload_n X 0 d_FM_makeRefusal_106 rfl rfl ?_
      refine ab_aload_n X 1 d_FM_makeRefusal_107 rfl rfl ?_
      refine ab_gI X fl_FM_34 d_FM_makeRefusal_108 (by first | assumption | decide | (show _ < 124; omega) | (show _ < 61; omega) | (show _ < 20; omega)) (P1.ii (by decide) en) ?_
      refine ab_icmp_ge X 136 d_FM_makeRefusal_111 rfl (fun h111 => ?_) (fun h111 => ?_)
      ·
        exact ab_retv X hr0 hlk d_FM_makeRefusal_136 ⟨P1, rfl⟩
      ·
        have hjn := nI_lt_of h111 (by omega)
        obtain ⟨g, hg, eg⟩ := he j hjn
        refine ab_aload_n X 1 d_FM_makeRefusal_114 rfl rfl ?_
        refine ab_gR X fl_FM_47 d_FM_makeRefusal_115 (by first | assumption | decide | (show _ < 124; omega) | (show _ < 61; omega) | (show _ < 20; omega)) (P1.1.fm2 (by first | assumption | decide | omega)) ?_
        refine ab_aload_n X 1 d_FM_makeRefusal_118 rfl rfl ?_
        refine ab_gR X fl_FM_11 d_FM_makeRefusal_119 (by first | assumption | decide | (show _ < 124; omega) | (show _ < 61; omega) | (show _ < 20; omega)) (P1.1.fm0 (by first | assumption | decide | omega)) ?_
        refine ab_iload_n X 0 d_FM_makeRefusal_122 rfl rfl ?_
        refine ab_aalv X (j) ⟨rfl, _, fun _ => rfl⟩ d_FM_makeRefusal_123 (by first | assumption | decide | (show _ < 124; omega) | (show _ < 61; omega) | (show _ < 20; omega)) (rfl) (show j < 4 by omega) (ab_ln_lt _ _) (P1.rr (by decide) eg) ?_
        refine ab_gR X fl_FM_47 d_FM_makeRefusal_124 (by first | assumption | decide | (show _ < 124; omega) | (show _ < 61; omega) | (show _ < 20; omega)) (P1.1.fm2 (by first | assumption | decide | omega)) ?_
        refine ab_callV (as := [ab_O 4 (2 * g + 1)]) X (fun h => by cases h) (s_RW_join u1 (2 * f + 1) (2 * g + 1) P1.1 (by omega) (by omega)) lk_FM_92 d_FM_makeRefusal_127 rfl rfl (by first | assumption | decide | (show _ < 124; omega) | (show _ < 61; omega) | (show _ < 20; omega)) ⟨by first | exact Nat.le_of_ble_eq_true rfl | (simp only [ab_rm]; omega), by first | exact Nat.le_of_ble_eq_true rfl | (simp only [ab_rm]; omega)⟩ ⟨by first | exact Nat.le_of_ble_eq_true rfl | (simp only [ab_rm]; omega), by first | exact Nat.le_of_ble_eq_true rfl | (simp only [ab_rm]; omega)⟩ (Nat.le_of_ble_eq_true rfl) (fun u127 r127 h127 => ?_)
        obtain ⟨q127, rfl⟩ := h127
        have P127 := P1.trans q127 (by decide)
        refine ab_iinc1 X 0 1 d_FM_makeRefusal_130 rfl (by decide) rfl rfl ?_
        refine ab_goto X 106 d_FM_makeRefusal_133 rfl ?_
        rw [show nI j + Int32.ofInt 1 = nI (j + 1) from nI_1 j]
        exact ih (j + 1) _ (by omega) P127
  refine ab_aload_n X 0 d_FM_makeRefusal_0 rfl rfl ?_
  refine ab_gR X fl_FM_47 d_FM_makeRefusal_1 (by first | assumption | decide | (show _ < 124; omega) | (show _ < 61; omega) | (show _ < 20; omega)) (P0.1.fm2 (by first | assumption | decide | omega)) ?_
  refine ab_callV (as := []) X (fun h => by cases h) (s_RW_start u (2 * f + 1) h (by omega)) lk_FM_87 d_FM_makeRefusal_4 rfl rfl (by first | assumption | decide | (show _ < 124; omega) | (show _ < 61; omega) | (show _ < 20; omega)) ⟨by first | exact Nat.le_of_ble_eq_true rfl | (simp only [ab_rm]; omega), by first | exact Nat.le_of_ble_eq_true rfl | (simp only [ab_rm]; omega)⟩ ⟨by first | exact Nat.le_of_ble_eq_true rfl | (simp only [ab_rm]; omega), by first | exact Nat.le_of_ble_eq_true rfl | (simp only [ab_rm]; omega)⟩ (Nat.le_of_ble_eq_true rfl) (fun u4 r4 h4 => ?_)
  obtain ⟨q4, rfl⟩ := h4
  have P4 := P0.trans q4 (by decide)
  refine ab_aload_n X 0 d_FM_makeRefusal_7 rfl rfl ?_
  refine ab_gI X fl_FM_24 d_FM_makeRefusal_8 (by first | assumption | decide | (show _ < 124; omega) | (show _ < 61; omega) | (show _ < 20; omega)) (rfl) ?_
  refine ab_iconst (v := 1) X d_FM_makeRefusal_11 (by decide) ?_
  refine ab_icmp_eq X 24 d_FM_makeRefusal_12 rfl (fun h12 => ?_) (fun h12 => ?_)
  ·
    refine ab_aload_n X 0 d_FM_makeRefusal_24 rfl rfl ?_
    refine ab_gR X fl_FM_47 d_FM_makeRefusal_25 (by first | assumption | decide | (show _ < 124; omega) | (show _ < 61; omega) | (show _ < 20; omega)) (P4.1.fm2 (by first | assumption | decide | omega)) ?_
    refine ab_iconst (v := 0) X d_FM_makeRefusal_28 (by decide) ?_
    refine ab_callV (as := [ab_I 0]) X (fun h => by cases h) (s_RW_add u4 (2 * f + 1) 0 P4.1 (by omega)) lk_FM_89 d_FM_makeRefusal_29 rfl rfl (by first | assumption | decide | (show _ < 124; omega) | (show _ < 61; omega) | (show _ < 20; omega)) ⟨by first | exact Nat.le_of_ble_eq_true rfl | (simp only [ab_rm]; omega), by first | exact Nat.le_of_ble_eq_true rfl | (simp only [ab_rm]; omega)⟩ ⟨by first | exact Nat.le_of_ble_eq_true rfl | (simp only [ab_rm]; omega), by first | exact Nat.le_of_ble_eq_true rfl | (simp only [ab_rm]; omega)⟩ (Nat.le_of_ble_eq_true rfl) (fun u29 r29 h29 => ?_)
    obtain ⟨q29, rfl⟩ := h29
    have P29 := P4.trans q29 (by decide)
    refine ab_goto X 136 d_FM_makeRefusal_32 rfl ?_
    exact ab_retv X hr0 hlk d_FM_makeRefusal_136 ⟨P29, rfl⟩
  ·
    refine ab_aload_n X 0 d_FM_makeRefusal_15 rfl rfl ?_
    refine ab_gI X fl_FM_24 d_FM_makeRefusal_16 (by first | assumption | decide | (show _ < 124; omega) | (show _ < 61; omega) | (show _ < 20; omega)) (rfl) ?_
    refine ab_bipush (v := 6) X d_FM_makeRefusal_19 (by decide) ?_
    refine ab_icmp_ne X 35 d_FM_makeRefusal_21 rfl (fun h21 => ?_) (fun h21 => ?_)
    ·
      refine ab_aload_n X 0 d_FM_makeRefusal_35 rfl rfl ?_
      refine ab_gI X fl_FM_24 d_FM_makeRefusal_36 (by first | assumption | decide | (show _ < 124; omega) | (show _ < 61; omega) | (show _ < 20; omega)) (rfl) ?_
      refine ab_iconst (v := 5) X d_FM_makeRefusal_39 (by decide) ?_
      refine ab_icmp_ne X 104 d_FM_makeRefusal_40 rfl (fun h40 => ?_) (fun h40 => ?_)
      ·
        refine ab_iconst (v := 0) X d_FM_makeRefusal_104 (by decide) ?_
        refine ab_istore_n1 X 0 d_FM_makeRefusal_105 rfl (by decide) rfl rfl ?_
        exact loop 4 0 _ rfl P4
      ·
        have h2 := hc.1 (Or.inl ((P4.2.2.1 3 f 4 (by decide)).1.symm.trans h40))
        obtain ⟨g0, hg0, eg0⟩ := he 0 (by omega)
        obtain ⟨g1, hg1, eg1⟩ := he 1 (by omega)
        refine ab_aload_n X 0 d_FM_makeRefusal_43 rfl rfl ?_
        refine ab_gR X fl_FM_11 d_FM_makeRefusal_44 (by first | assumption | decide | (show _ < 124; omega) | (show _ < 61; omega) | (show _ < 20; omega)) (P4.1.fm0 (by first | assumption | decide | omega)) ?_
        refine ab_iconst (v := 0) X d_FM_makeRefusal_47 (by decide) ?_
        refine ab_aalv X (0) ⟨rfl, _, fun _ => rfl⟩ d_FM_makeRefusal_48 (by first | assumption | decide | (show _ < 124; omega) | (show _ < 61; omega) | (show _ < 20; omega)) (rfl) (show 0 < 4 by decide) (ab_ln_lt _ _) (P4.rr (by decide) eg0) ?_
        refine ab_gI X fl_FM_43 d_FM_makeRefusal_49 (by first | assumption | decide | (show _ < 124; omega) | (show _ < 61; omega) | (show _ < 20; omega)) (rfl) ?_
        refine ab_istore_n1 X 0 d_FM_makeRefusal_52 rfl (by decide) rfl rfl ?_
        refine ab_aload_n X 1 d_FM_makeRefusal_53 rfl rfl ?_
        refine ab_gR X fl_FM_47 d_FM_makeRefusal_54 (by first | assumption | decide | (show _ < 124; omega) | (show _ < 61; omega) | (show _ < 20; omega)) (P4.1.fm2 (by first | assumption | decide | omega)) ?_
        refine ab_iload_n X 0 d_FM_makeRefusal_57 rfl rfl ?_
        refine ab_if_eq X 65 d_FM_makeRefusal_58 rfl (fun h58 => ?_) (fun h58 => ?_)
        ·
          refine ab_iconst (v := 0) X d_FM_makeRefusal_65 (by decide) ?_
          refine ab_callV (as := [ab_I _]) X (fun h => by cases h) (s_RW_add u4 (2 * f + 1) _ P4.1 (by omega)) lk_FM_89 d_FM_makeRefusal_66 rfl rfl (by first | assumption | decide | (show _ < 124; omega) | (show _ < 61; omega) | (show _ < 20; omega)) ⟨by first | exact Nat.le_of_ble_eq_true rfl | (simp only [ab_rm]; omega), by first | exact Nat.le_of_ble_eq_true rfl | (simp only [ab_rm]; omega)⟩ ⟨by first | exact Nat.le_of_ble_eq_true rfl | (simp only [ab_rm]; omega), by first | exact Nat.le_of_ble_eq_true rfl | (simp only [ab_rm]; omega)⟩ (Nat.le_of_ble_eq_true rfl) (fun u66 r66 h66 => ?_)
          obtain ⟨q66, rfl⟩ := h66
          have P66 := P4.trans q66 (by decide)
          refine ab_aload_n X 1 d_FM_makeRefusal_69 rfl rfl ?_
          refine ab_gR X fl_FM_47 d_FM_makeRefusal_70 (by first | assumption | decide | (show _ < 124; omega) | (show _ < 61; omega) | (show _ < 20; omega)) (P66.1.fm2 (by first | assumption | decide | omega)) ?_
          refine ab_iload_n X 0 d_FM_makeRefusal_73 rfl rfl ?_
          refine ab_if_eq X 89 d_FM_makeRefusal_74 rfl (fun h74 => ?_) (fun h74 => ?_)
          ·
            refine ab_aload_n X 1 d_FM_makeRefusal_89 rfl rfl ?_
            refine ab_gR X fl_FM_11 d_FM_makeRefusal_90 (by first | assumption | decide | (show _ < 124; omega) | (show _ < 61; omega) | (show _ < 20; omega)) (P66.1.fm0 (by first | assumption | decide | omega)) ?_
            refine ab_iconst (v := 1) X d_FM_makeRefusal_93 (by decide) ?_
            refine ab_aalv X (1) ⟨rfl, _, fun _ => rfl⟩ d_FM_makeRefusal_94 (by first | assumption | decide | (show _ < 124; omega) | (show _ < 61; omega) | (show _ < 20; omega)) (rfl) (show 1 < 4 by decide) (ab_ln_lt _ _) (P66.rr (by decide) eg1) ?_
            refine ab_gR X fl_FM_47 d_FM_makeRefusal_95 (by first | assumption | decide | (show _ < 124; omega) | (show _ < 61; omega) | (show _ < 20; omega)) (P66.1.fm2 (by first | assumption | decide | omega)) ?_
            refine ab_callV (as := [ab_O 4 _]) X (fun h => by cases h) (s_RW_join u66 (2 * f + 1) _ P66.1 (by omega) (by omega)) lk_FM_92 d_FM_makeRefusal_98 rfl rfl (by first | assumption | decide | (show _ < 124; omega) | (show _ < 61; omega) | (show _ < 20; omega)) ⟨by first | exact Nat.le_of_ble_eq_true rfl | (simp only [ab_rm]; omega), by first | exact Nat.le_of_ble_eq_true rfl | (simp only [ab_rm]; omega)⟩ ⟨by first | exact Nat.le_of_ble_eq_true rfl | (simp only [ab_rm]; omega), by first | exact Nat.le_of_ble_eq_true rfl | (simp only [ab_rm]; omega)⟩ (Nat.le_of_ble_eq_true rfl) (fun u98 r98 h98 => ?_)
            obtain ⟨q98, rfl⟩ := h98
            have P98 := P66.trans q98 (by decide)
            refine ab_goto X 136 d_FM_makeRefusal_101 rfl ?_
            exact ab_retv X hr0 hlk d_FM_makeRefusal_136 ⟨P98, rfl⟩
          ·
            refine ab_aload_n X 1 d_FM_makeRefusal_77 rfl rfl ?_
            refine ab_gR X fl_FM_11 d_FM_makeRefusal_78 (by first | assumption | decide | (show _ < 124; omega) | (show _ < 61; omega) | (show _ < 20; omega)) (P66.1.fm0 (by first | assumption | decide | omega)) ?_
            refine ab_iconst (v := 0) X d_FM_makeRefusal_81 (by decide) ?_
            refine ab_aalv X (0) ⟨rfl, _, fun _ => rfl⟩ d_FM_makeRefusal_82 (by first | assumption | decide | (show _ < 124; omega) | (show _ < 61; omega) | (show _ < 20; omega)) (rfl) (show 0 < 4 by decide) (ab_ln_lt _ _) (P66.rr (by decide) eg0) ?_
            refine ab_gR X fl_FM_47 d_FM_makeRefusal_83 (by first | assumption | decide | (show _ < 124; omega) | (show _ < 61; omega) | (show _ < 20; omega)) (P66.1.fm2 (by first | assumption | decide | omega)) ?_
            refine ab_goto X 98 d_FM_makeRefusal_86 rfl ?_
            refine ab_callV (as := [ab_O 4 _]) X (fun h => by cases h) (s_RW_join u66 (2 * f + 1) _ P66.1 (by omega) (by omega)) lk_FM_92 d_FM_makeRefusal_98 rfl rfl (by first | assumption | decide | (show _ < 124; omega) | (show _ < 61; omega) | (show _ < 20; omega)) ⟨by first | exact Nat.le_of_ble_eq_true rfl | (simp only [ab_rm]; omega), by first | exact Nat.le_of_ble_eq_true rfl | (simp only [ab_rm]; omega)⟩ ⟨by first | exact Nat.le_of_ble_eq_true rfl | (simp only [ab_rm]; omega), by first | exact Nat.le_of_ble_eq_true rfl | (simp only [ab_rm]; omega)⟩ (Nat.le_of_ble_eq_true rfl) (fun u98 r98 h98 => ?_)
            obtain ⟨q98, rfl⟩ := h98
            have P98 := P66.trans q98 (by decide)
            refine ab_goto X 136 d_FM_makeRefusal_101 rfl ?_
            exact ab_retv X hr0 hlk d_FM_makeRefusal_136 ⟨P98, rfl⟩
        ·
          refine ab_iconst (v := 1) X d_FM_makeRefusal_61 (by decide) ?_
          refine ab_goto X 66 d_FM_makeRefusal_62 rfl ?_
          refine ab_callV (as := [ab_I _]) X (fun h => by cases h) (s_RW_add u4 (2 * f + 1) _ P4.1 (by omega)) lk_FM_89 d_FM_makeRefusal_66 rfl rfl (by first | assumption | decide | (show _ < 124; omega) | (show _ < 61; omega) | (show _ < 20; omega)) ⟨by first | exact Nat.le_of_ble_eq_true rfl | (simp only [ab_rm]; omega), by first | exact Nat.le_of_ble_eq_true rfl | (simp only [ab_rm]; omega)⟩ ⟨by first | exact Nat.le_of_ble_eq_true rfl | (simp only [ab_rm]; omega), by first | exact Nat.le_of_ble_eq_true rfl | (simp only [ab_rm]; omega)⟩ (Nat.le_of_ble_eq_true rfl) (fun u66 r66 h66 => ?_)
          obtain ⟨q66, rfl⟩ := h66
          have P66 := P4.trans q66 (by decide)
          refine ab_aload_n X 1 d_FM_makeRefusal_69 rfl rfl ?_
          refine ab_gR X fl_FM_47 d_FM_makeRefusal_70 (by first | assumption | decide | (show _ < 124; omega) | (show _ < 61; omega) | (show _ < 20; omega)) (P66.1.fm2 (by first | assumption | decide | omega)) ?_
          refine ab_iload_n X 0 d_FM_makeRefusal_73 rfl rfl ?_
          refine ab_if_eq X 89 d_FM_makeRefusal_74 rfl (fun h74 => ?_) (fun h74 => ?_)
          ·
            refine ab_aload_n X 1 d_FM_makeRefusal_89 rfl rfl ?_
            refine ab_gR X fl_FM_11 d_FM_makeRefusal_90 (by first | assumption | decide | (show _ < 124; omega) | (show _ < 61; omega) | (show _ < 20; omega)) (P66.1.fm0 (by first | assumption | decide | omega)) ?_
            refine ab_iconst (v := 1) X d_FM_makeRefusal_93 (by decide) ?_
            refine ab_aalv X (1) ⟨rfl, _, fun _ => rfl⟩ d_FM_makeRefusal_94 (by first | assumption | decide | (show _ < 124; omega) | (show _ < 61; omega) | (show _ < 20; omega)) (rfl) (show 1 < 4 by decide) (ab_ln_lt _ _) (P66.rr (by decide) eg1) ?_
            refine ab_gR X fl_FM_47 d_FM_makeRefusal_95 (by first | assumption | decide | (show _ < 124; omega) | (show _ < 61; omega) | (show _ < 20; omega)) (P66.1.fm2 (by first | assumption | decide | omega)) ?_
            refine ab_callV (as := [ab_O 4 _]) X (fun h => by cases h) (s_RW_join u66 (2 * f + 1) _ P66.1 (by omega) (by omega)) lk_FM_92 d_FM_makeRefusal_98 rfl rfl (by first | assumption | decide | (show _ < 124; omega) | (show _ < 61; omega) | (show _ < 20; omega)) ⟨by first | exact Nat.le_of_ble_eq_true rfl | (simp only [ab_rm]; omega), by first | exact Nat.le_of_ble_eq_true rfl | (simp only [ab_rm]; omega)⟩ ⟨by first | exact Nat.le_of_ble_eq_true rfl | (simp only [ab_rm]; omega), by first | exact Nat.le_of_ble_eq_true rfl | (simp only [ab_rm]; omega)⟩ (Nat.le_of_ble_eq_true rfl) (fun u98 r98 h98 => ?_)
            obtain ⟨q98, rfl⟩ := h98
            have P98 := P66.trans q98 (by decide)
            refine ab_goto X 136 d_FM_makeRefusal_101 rfl ?_
            exact ab_retv X hr0 hlk d_FM_makeRefusal_136 ⟨P98, rfl⟩
          ·
            refine ab_aload_n X 1 d_FM_makeRefusal_77 rfl rfl ?_
            refine ab_gR X fl_FM_11 d_FM_makeRefusal_78 (by first | assumption | decide | (show _ < 124; omega) | (show _ < 61; omega) | (show _ < 20; omega)) (P66.1.fm0 (by first | assumption | decide | omega)) ?_
            refine ab_iconst (v := 0) X d_FM_makeRefusal_81 (by decide) ?_
            refine ab_aalv X (0) ⟨rfl, _, fun _ => rfl⟩ d_FM_makeRefusal_82 (by first | assumption | decide | (show _ < 124; omega) | (show _ < 61; omega) | (show _ < 20; omega)) (rfl) (show 0 < 4 by decide) (ab_ln_lt _ _) (P66.rr (by decide) eg0) ?_
            refine ab_gR X fl_FM_47 d_FM_makeRefusal_83 (by first | assumption | decide | (show _ < 124; omega) | (show _ < 61; omega) | (show _ < 20; omega)) (P66.1.fm2 (by first | assumption | decide | omega)) ?_
            refine ab_goto X 98 d_FM_makeRefusal_86 rfl ?_
            refine ab_callV (as := [ab_O 4 _]) X (fun h => by cases h) (s_RW_join u66 (2 * f + 1) _ P66.1 (by omega) (by omega)) lk_FM_92 d_FM_makeRefusal_98 rfl rfl (by first | assumption | decide | (show _ < 124; omega) | (show _ < 61; omega) | (show _ < 20; omega)) ⟨by first | exact Nat.le_of_ble_eq_true rfl | (simp only [ab_rm]; omega), by first | exact Nat.le_of_ble_eq_true rfl | (simp only [ab_rm]; omega)⟩ ⟨by first | exact Nat.le_of_ble_eq_true rfl | (simp only [ab_rm]; omega), by first | exact Nat.le_of_ble_eq_true rfl | (simp only [ab_rm]; omega)⟩ (Nat.le_of_ble_eq_true rfl) (fun u98 r98 h98 => ?_)
            obtain ⟨q98, rfl⟩ := h98
            have P98 := P66.trans q98 (by decide)
            refine ab_goto X 136 d_FM_makeRefusal_101 rfl ?_
            exact ab_retv X hr0 hlk d_FM_makeRefusal_136 ⟨P98, rfl⟩
    ·
      refine ab_aload_n X 0 d_FM_makeRefusal_24 rfl rfl ?_
      refine ab_gR X fl_FM_47 d_FM_makeRefusal_25 (by first | assumption | decide | (show _ < 124; omega) | (show _ < 61; omega) | (show _ < 20; omega)) (P4.1.fm2 (by first | assumption | decide | omega)) ?_
      refine ab_iconst (v := 0) X d_FM_makeRefusal_28 (by decide) ?_
      refine ab_callV (as := [ab_I 0]) X (fun h => by cases h) (s_RW_add u4 (2 * f + 1) 0 P4.1 (by omega)) lk_FM_89 d_FM_makeRefusal_29 rfl rfl (by first | assumption | decide | (show _ < 124; omega) | (show _ < 61; omega) | (show _ < 20; omega)) ⟨by first | exact Nat.le_of_ble_eq_true rfl | (simp only [ab_rm]; omega), by first | exact Nat.le_of_ble_eq_true rfl | (simp only [ab_rm]; omega)⟩ ⟨by first | exact Nat.le_of_ble_eq_true rfl | (simp only [ab_rm]; omega), by first | exact Nat.le_of_ble_eq_true rfl | (simp only [ab_rm]; omega)⟩ (Nat.le_of_ble_eq_true rfl) (fun u29 r29 h29 => ?_)
      obtain ⟨q29, rfl⟩ := h29
      have P29 := P4.trans q29 (by decide)
      refine ab_goto X 136 d_FM_makeRefusal_32 rfl ?_
      exact ab_retv X hr0 hlk d_FM_makeRefusal_136 ⟨P29, rfl⟩
end SaForm

