/-! The reference's choice of forms: every call comes to its end, lengths are known. -/
def lnu (u : ab_S) (f : Nat) : Nat := (u.1 18 6 f).toNatClampNeg
theorem lnu_of {u : ab_S} {f n : Nat} (h : u.1 18 6 f = nI n) (hn : n < 2 ^ 31) : lnu u f = n := by unfold lnu; rw [h]; exact nI_clamp hn
/-- a length that is known -/
def lk (u : ab_S) (f : Nat) : Prop := u.1 18 6 f = nI (lnu u f) ∧ 1 ≤ lnu u f ∧ lnu u f ≤ 100
def wl (u : ab_S) (p n : Nat) (cs : Nat → Nat) (w : Nat) : Nat :=
  if w = 1 ∨ w = 11 ∨ w = 12 then 1
  else if w = 2 ∨ w = 3 ∨ w = 4 then lnu u (3 * cs 0 + 1) + lnu u (3 * cs 1 + 1) + 3
  else if w = 5 then lnu u (3 * cs 0 + 1) + lnu u (3 * cs 1) + 3
  else if w = 6 then lnu u (3 * cs 0) + lnu u (3 * cs 1 + 1) + 3
  else if w = 7 then 1 + sm (fun i => lnu u (3 * cs i + 1) + (if 0 < i then 3 else 0)) n
  else if w = 8 then lnu u (3 * p) + 4
  else if w = 13 then lnu u (3 * cs 0 + 2) + lnu u (3 * cs 1)
  else if w = 14 then lnu u (3 * cs 1 + 2) + lnu u (3 * cs 0)
  else if w = 15 then lnu u (3 * cs 0 + 1) + lnu u (3 * cs 1) + 3
  else if w = 16 then lnu u (3 * cs 1 + 1) + lnu u (3 * cs 0) + 3
  else if w = 17 then lnu u (3 * cs 0) + lnu u (3 * cs 1) + 3
  else if w = 18 then sm (fun i => if i + 1 < n then lnu u (3 * cs i + 2) else lnu u (3 * cs i)) n
  else if w = 21 then lnu u (3 * cs 0 + 2) + lnu u (3 * cs 1 + 2)
  else if w = 22 then lnu u (3 * cs 0 + 1) + lnu u (3 * cs 1 + 2) + 2
  else if w = 23 then lnu u (3 * cs 0 + 2) + lnu u (3 * cs 1 + 2) + 3
  else lnu u (3 * p) + 1
def app (k a n w : Nat) : Prop := (w = 1 ∧ k = 1) ∨ (w = 2 ∧ k = 5) ∨ w = 8 ∨ (w = 11 ∧ k = 2) ∨ (w = 12 ∧ (k = 3 ∨ k = 4)) ∨ (w = 13 ∧ k = 5) ∨ (w = 14 ∧ k = 5) ∨ (w = 18 ∧ k = 7 ∧ a = n) ∨ (w = 7 ∧ k = 7) ∨ (w = 21 ∧ k = 5) ∨ w = 24 ∨ (k = 6 ∧ (w = 3 ∨ w = 4 ∨ w = 5 ∨ w = 6 ∨ w = 15 ∨ w = 16 ∨ w = 17 ∨ w = 22 ∨ w = 23))
def ways (w : Nat) : Prop := w = 1 ∨ w = 2 ∨ w = 3 ∨ w = 4 ∨ w = 5 ∨ w = 6 ∨ w = 7 ∨ w = 8 ∨ w = 11 ∨ w = 12 ∨ w = 13 ∨ w = 14 ∨ w = 15 ∨ w = 16 ∨ w = 17 ∨ w = 18 ∨ w = 21 ∨ w = 22 ∨ w = 23 ∨ w = 24
section SaMForm
variable {l : Launch} {D : va_G} {ca : Nat → ClassId}
abbrev b_MO_greater : ByteArray := prog_10_method_14_code
def y_MO_greater : MethodName := ⟨"PolicyForgeModel", "greater", "(II)I"⟩
theorem d_MO_greater_0 : decode b_MO_greater 0 = .ok (.iload_n 0, 1) := by decide +kernel
theorem d_MO_greater_1 : decode b_MO_greater 1 = .ok (.iload_n 1, 1) := by decide +kernel
theorem d_MO_greater_2 : decode b_MO_greater 2 = .ok (.if_icmp .le 7, 3) := by decide +kernel
theorem d_MO_greater_5 : decode b_MO_greater 5 = .ok (.iload_n 0, 1) := by decide +kernel
theorem d_MO_greater_6 : decode b_MO_greater 6 = .ok (.goto 4, 3) := by decide +kernel
theorem d_MO_greater_9 : decode b_MO_greater 9 = .ok (.iload_n 1, 1) := by decide +kernel
theorem d_MO_greater_10 : decode b_MO_greater 10 = .ok (.ireturn, 1) := by decide +kernel
set_option maxRecDepth 100000 in
set_option maxHeartbeats 1000000 in
theorem t_MO_greater (u : ab_S) (a b : Int32) : ab_C false l D ca y_MO_greater b_MO_greater 2 (some FieldType.int) 0 ab_nQ u [ab_I a, ab_I b] (fun u' v => u' = u ∧ ∃ x : Int32, v = some (ab_I x)) := by
  refine ab_C.of (by decide) (Nat.le_of_ble_eq_true rfl) ?_
  intro p e s m args below meth c ad X hZ hr0 hlk
  refine ab_iload_n X 0 d_MO_greater_0 rfl rfl ?_
  refine ab_iload_n X 1 d_MO_greater_1 rfl rfl ?_
  refine ab_icmp_le X 9 d_MO_greater_2 rfl (fun h2 => ?_) (fun h2 => ?_)
  ·
    refine ab_iload_n X 1 d_MO_greater_9 rfl rfl ?_
    exact ab_reti X hr0 hlk d_MO_greater_10 ⟨rfl, _, rfl⟩
  ·
    refine ab_iload_n X 0 d_MO_greater_5 rfl rfl ?_
    refine ab_goto X 10 d_MO_greater_6 rfl ?_
    exact ab_reti X hr0 hlk d_MO_greater_10 ⟨rfl, _, rfl⟩
abbrev b_MO_is : ByteArray := prog_10_method_15_code
def y_MO_is : MethodName := ⟨"PolicyForgeModel", "is", "(II)V"⟩
theorem d_MO_is_0 : decode b_MO_is 0 = .ok (.aload_n 0, 1) := by decide +kernel
theorem d_MO_is_1 : decode b_MO_is 1 = .ok (.iload_n 1, 1) := by decide +kernel
theorem d_MO_is_2 : decode b_MO_is 2 = .ok (.putfield 66, 3) := by decide +kernel
theorem d_MO_is_5 : decode b_MO_is 5 = .ok (.aload_n 0, 1) := by decide +kernel
theorem d_MO_is_6 : decode b_MO_is 6 = .ok (.iload_n 2, 1) := by decide +kernel
theorem d_MO_is_7 : decode b_MO_is 7 = .ok (.putfield 69, 3) := by decide +kernel
theorem d_MO_is_10 : decode b_MO_is 10 = .ok (.return_, 1) := by decide +kernel
set_option maxRecDepth 100000 in
set_option maxHeartbeats 1000000 in
theorem s_MO_is (u : ab_S) (a b : Int32) (h : mR u.2.1) : ab_C false l D ca y_MO_is b_MO_is 3 none 0 ab_nQ u [ab_O 17 0, ab_I a, ab_I b] (fun u' v => (gP [18, 19] u u' ∧ u'.1 17 0 18 = a) ∧ v = none) := by
  refine ab_C.of (by decide) (Nat.le_of_ble_eq_true rfl) ?_
  intro p e s m args below meth c ad X hZ hr0 hlk
  have P0 : gP [18, 19] u u := gP.rf h
  refine ab_aload_n X 0 d_MO_is_0 rfl rfl ?_
  refine ab_iload_n X 1 d_MO_is_1 rfl rfl ?_
  refine ab_putI X fp_MO_66 d_MO_is_2 (by first | assumption | decide | (show _ < 124; omega) | (show _ < 61; omega) | (show _ < 20; omega)) rfl rfl ?_
  refine ab_gen (fun u2 e2 => ?_)
  have P2 : gP [18, 19] u u2 := by rw [e2]; exact P0.ui rfl (by decide)
  refine ab_aload_n X 0 d_MO_is_5 rfl rfl ?_
  refine ab_iload_n X 2 d_MO_is_6 rfl rfl ?_
  refine ab_putI X fp_MO_69 d_MO_is_7 (by first | assumption | decide | (show _ < 124; omega) | (show _ < 61; omega) | (show _ < 20; omega)) rfl rfl ?_
  refine ab_gen (fun u7 e7 => ?_)
  have P7 : gP [18, 19] u u7 := by rw [e7]; exact P2.ui rfl (by decide)
  exact ab_retv X hr0 hlk d_MO_is_10 ⟨⟨P7, by rw [e7, e2]; simp [ab_up]⟩, rfl⟩
abbrev b_MO_both : ByteArray := prog_10_method_16_code
def y_MO_both : MethodName := ⟨"PolicyForgeModel", "both", "(III)V"⟩
theorem d_MO_both_0 : decode b_MO_both 0 = .ok (.aload_n 0, 1) := by decide +kernel
theorem d_MO_both_1 : decode b_MO_both 1 = .ok (.aload_n 0, 1) := by decide +kernel
theorem d_MO_both_2 : decode b_MO_both 2 = .ok (.getfield 48, 3) := by decide +kernel
theorem d_MO_both_5 : decode b_MO_both 5 = .ok (.iload_n 1, 1) := by decide +kernel
theorem d_MO_both_6 : decode b_MO_both 6 = .ok (.iaload, 1) := by decide +kernel
theorem d_MO_both_7 : decode b_MO_both 7 = .ok (.aload_n 0, 1) := by decide +kernel
theorem d_MO_both_8 : decode b_MO_both 8 = .ok (.getfield 48, 3) := by decide +kernel
theorem d_MO_both_11 : decode b_MO_both 11 = .ok (.iload_n 2, 1) := by decide +kernel
theorem d_MO_both_12 : decode b_MO_both 12 = .ok (.iaload, 1) := by decide +kernel
theorem d_MO_both_13 : decode b_MO_both 13 = .ok (.iadd, 1) := by decide +kernel
theorem d_MO_both_14 : decode b_MO_both 14 = .ok (.iload_n 3, 1) := by decide +kernel
theorem d_MO_both_15 : decode b_MO_both 15 = .ok (.iadd, 1) := by decide +kernel
theorem d_MO_both_16 : decode b_MO_both 16 = .ok (.aload_n 0, 1) := by decide +kernel
theorem d_MO_both_17 : decode b_MO_both 17 = .ok (.getfield 51, 3) := by decide +kernel
theorem d_MO_both_20 : decode b_MO_both 20 = .ok (.iload_n 1, 1) := by decide +kernel
theorem d_MO_both_21 : decode b_MO_both 21 = .ok (.iaload, 1) := by decide +kernel
theorem d_MO_both_22 : decode b_MO_both 22 = .ok (.aload_n 0, 1) := by decide +kernel
theorem d_MO_both_23 : decode b_MO_both 23 = .ok (.getfield 51, 3) := by decide +kernel
theorem d_MO_both_26 : decode b_MO_both 26 = .ok (.iload_n 2, 1) := by decide +kernel
theorem d_MO_both_27 : decode b_MO_both 27 = .ok (.iaload, 1) := by decide +kernel
theorem d_MO_both_28 : decode b_MO_both 28 = .ok (.iadd, 1) := by decide +kernel
theorem d_MO_both_29 : decode b_MO_both 29 = .ok (.invokevirtual 188, 3) := by decide +kernel
theorem d_MO_both_32 : decode b_MO_both 32 = .ok (.return_, 1) := by decide +kernel
theorem lk_MO_188 : ab_lk "PolicyForgeModel" 188 y_MO_is b_MO_is 3 none 2 17 := ⟨⟨rfl, T_MO, 44, rfl⟩, List.forall_mem_cons.mpr ⟨(ab_in 1128 (by decide +kernel) (by decide +kernel)), List.forall_mem_cons.mpr ⟨(ab_in 1130 (by decide +kernel) (by decide +kernel)), List.forall_mem_cons.mpr ⟨(ab_in 56 (by decide +kernel) (by decide +kernel)), List.forall_mem_cons.mpr ⟨(ab_in 100 (by decide +kernel) (by decide +kernel)), List.forall_mem_cons.mpr ⟨(ab_in 1131 (by decide +kernel) (by decide +kernel)), fun _ h => absurd h List.not_mem_nil⟩⟩⟩⟩⟩, ⟨by decide +kernel, by decide +kernel, by decide +kernel⟩, by decide⟩
set_option maxRecDepth 100000 in
set_option maxHeartbeats 1000000 in
theorem s_MO_both (u : ab_S) (f g k : Nat) (h : mR u.2.1) (hf : f < 72) (hg : g < 72) (ef : lk u f) (eg : lk u g) : ab_C false l D ca y_MO_both b_MO_both 4 none 1 ab_nQ u [ab_O 17 0, ab_I (nI f), ab_I (nI g), ab_I (nI k)] (fun u' v => (gP [18, 19] u u' ∧ u'.1 17 0 18 = nI  (lnu u f + lnu u g + k)) ∧ v = none) := by
  refine ab_C.of (by decide) (Nat.le_of_ble_eq_true rfl) ?_
  intro p e s m args below meth c ad X hZ hr0 hlk
  have P0 : gP [18, 19] u u := gP.rf h
  refine ab_aload_n X 0 d_MO_both_0 rfl rfl ?_
  refine ab_aload_n X 0 d_MO_both_1 rfl rfl ?_
  refine ab_gR X fl_MO_48 d_MO_both_2 (by first | assumption | decide | (show _ < 124; omega) | (show _ < 61; omega) | (show _ < 20; omega)) (P0.1.mo12) ?_
  refine ab_iload_n X 1 d_MO_both_5 rfl rfl ?_
  refine ab_iald X (f) ⟨rfl, rfl⟩ d_MO_both_6 (by first | assumption | decide | (show _ < 124; omega) | (show _ < 61; omega) | (show _ < 20; omega)) (rfl) (show f < 72 by omega) (ab_ln_lt _ _) ?_
  refine ab_top ef.1 ?_
  refine ab_aload_n X 0 d_MO_both_7 rfl rfl ?_
  refine ab_gR X fl_MO_48 d_MO_both_8 (by first | assumption | decide | (show _ < 124; omega) | (show _ < 61; omega) | (show _ < 20; omega)) (P0.1.mo12) ?_
  refine ab_iload_n X 2 d_MO_both_11 rfl rfl ?_
  refine ab_iald X (g) ⟨rfl, rfl⟩ d_MO_both_12 (by first | assumption | decide | (show _ < 124; omega) | (show _ < 61; omega) | (show _ < 20; omega)) (rfl) (show g < 72 by omega) (ab_ln_lt _ _) ?_
  refine ab_top eg.1 ?_
  refine ab_iadd X d_MO_both_13 ?_
  refine ab_top (nI_add _ _) ?_
  refine ab_iload_n X 3 d_MO_both_14 rfl rfl ?_
  refine ab_iadd X d_MO_both_15 ?_
  refine ab_top (nI_add _ _) ?_
  refine ab_aload_n X 0 d_MO_both_16 rfl rfl ?_
  refine ab_gR X fl_MO_51 d_MO_both_17 (by first | assumption | decide | (show _ < 124; omega) | (show _ < 61; omega) | (show _ < 20; omega)) (P0.1.mo13) ?_
  refine ab_iload_n X 1 d_MO_both_20 rfl rfl ?_
  refine ab_iald X (f) ⟨rfl, rfl⟩ d_MO_both_21 (by first | assumption | decide | (show _ < 124; omega) | (show _ < 61; omega) | (show _ < 20; omega)) (rfl) (show f < 72 by omega) (ab_ln_lt _ _) ?_
  refine ab_aload_n X 0 d_MO_both_22 rfl rfl ?_
  refine ab_gR X fl_MO_51 d_MO_both_23 (by first | assumption | decide | (show _ < 124; omega) | (show _ < 61; omega) | (show _ < 20; omega)) (P0.1.mo13) ?_
  refine ab_iload_n X 2 d_MO_both_26 rfl rfl ?_
  refine ab_iald X (g) ⟨rfl, rfl⟩ d_MO_both_27 (by first | assumption | decide | (show _ < 124; omega) | (show _ < 61; omega) | (show _ < 20; omega)) (rfl) (show g < 72 by omega) (ab_ln_lt _ _) ?_
  refine ab_iadd X d_MO_both_28 ?_
  refine ab_callV (as := [ab_I _, ab_I _]) X (fun h => by cases h) (s_MO_is u _ _ h) lk_MO_188 d_MO_both_29 rfl rfl (by first | assumption | decide | (show _ < 124; omega) | (show _ < 61; omega) | (show _ < 20; omega)) ⟨by first | exact Nat.le_of_ble_eq_true rfl | (simp only [ab_rm]; omega), by first | exact Nat.le_of_ble_eq_true rfl | (simp only [ab_rm]; omega)⟩ ⟨by first | exact Nat.le_of_ble_eq_true rfl | (simp only [ab_rm]; omega), by first | exact Nat.le_of_ble_eq_true rfl | (simp only [ab_rm]; omega)⟩ (Nat.le_of_ble_eq_true rfl) (fun u29 r29 h29 => ?_)
  obtain ⟨⟨q29, a29⟩, rfl⟩ := h29
  have P29 := P0.trans q29 (by decide)
  exact ab_retv X hr0 hlk d_MO_both_32 ⟨⟨P29, a29⟩, rfl⟩
abbrev b_MO_either : ByteArray := prog_10_method_17_code
def y_MO_either : MethodName := ⟨"PolicyForgeModel", "either", "(IIII)V"⟩
theorem d_MO_either_0 : decode b_MO_either 0 = .ok (.aload_n 0, 1) := by decide +kernel
theorem d_MO_either_1 : decode b_MO_either 1 = .ok (.aload_n 0, 1) := by decide +kernel
theorem d_MO_either_2 : decode b_MO_either 2 = .ok (.getfield 48, 3) := by decide +kernel
theorem d_MO_either_5 : decode b_MO_either 5 = .ok (.iload_n 1, 1) := by decide +kernel
theorem d_MO_either_6 : decode b_MO_either 6 = .ok (.iaload, 1) := by decide +kernel
theorem d_MO_either_7 : decode b_MO_either 7 = .ok (.aload_n 0, 1) := by decide +kernel
theorem d_MO_either_8 : decode b_MO_either 8 = .ok (.getfield 48, 3) := by decide +kernel
theorem d_MO_either_11 : decode b_MO_either 11 = .ok (.iload_n 3, 1) := by decide +kernel
theorem d_MO_either_12 : decode b_MO_either 12 = .ok (.iaload, 1) := by decide +kernel
theorem d_MO_either_13 : decode b_MO_either 13 = .ok (.iadd, 1) := by decide +kernel
theorem d_MO_either_14 : decode b_MO_either 14 = .ok (.iload 4, 2) := by decide +kernel
theorem d_MO_either_16 : decode b_MO_either 16 = .ok (.iadd, 1) := by decide +kernel
theorem d_MO_either_17 : decode b_MO_either 17 = .ok (.aload_n 0, 1) := by decide +kernel
theorem d_MO_either_18 : decode b_MO_either 18 = .ok (.getfield 51, 3) := by decide +kernel
theorem d_MO_either_21 : decode b_MO_either 21 = .ok (.iload_n 1, 1) := by decide +kernel
theorem d_MO_either_22 : decode b_MO_either 22 = .ok (.iaload, 1) := by decide +kernel
theorem d_MO_either_23 : decode b_MO_either 23 = .ok (.iload_n 2, 1) := by decide +kernel
theorem d_MO_either_24 : decode b_MO_either 24 = .ok (.aload_n 0, 1) := by decide +kernel
theorem d_MO_either_25 : decode b_MO_either 25 = .ok (.getfield 51, 3) := by decide +kernel
theorem d_MO_either_28 : decode b_MO_either 28 = .ok (.iload_n 3, 1) := by decide +kernel
theorem d_MO_either_29 : decode b_MO_either 29 = .ok (.iaload, 1) := by decide +kernel
theorem d_MO_either_30 : decode b_MO_either 30 = .ok (.iadd, 1) := by decide +kernel
theorem d_MO_either_31 : decode b_MO_either 31 = .ok (.invokestatic 192, 3) := by decide +kernel
theorem d_MO_either_34 : decode b_MO_either 34 = .ok (.invokevirtual 188, 3) := by decide +kernel
theorem d_MO_either_37 : decode b_MO_either 37 = .ok (.return_, 1) := by decide +kernel
theorem ls_MO_192 : ab_ls "PolicyForgeModel" 192 y_MO_greater b_MO_greater 2 (some FieldType.int) 2 := ⟨List.forall_mem_cons.mpr ⟨(ab_in 1158 (by decide +kernel) (by decide +kernel)), List.forall_mem_cons.mpr ⟨(ab_in 1159 (by decide +kernel) (by decide +kernel)), List.forall_mem_cons.mpr ⟨(ab_in 100 (by decide +kernel) (by decide +kernel)), List.forall_mem_cons.mpr ⟨(ab_in 1160 (by decide +kernel) (by decide +kernel)), fun _ h => absurd h List.not_mem_nil⟩⟩⟩⟩, ⟨by decide +kernel, by decide +kernel, by decide +kernel⟩, by decide⟩
set_option maxRecDepth 100000 in
set_option maxHeartbeats 1000000 in
theorem s_MO_either (u : ab_S) (f g k : Nat) (x : Int32) (h : mR u.2.1) (hf : f < 72) (hg : g < 72) (ef : lk u f) (eg : lk u g) : ab_C false l D ca y_MO_either b_MO_either 5 none 1 ab_nQ u [ab_O 17 0, ab_I (nI f), ab_I x, ab_I (nI g), ab_I (nI k)] (fun u' v => (gP [18, 19] u u' ∧ u'.1 17 0 18 = nI  (lnu u f + lnu u g + k)) ∧ v = none) := by
  refine ab_C.of (by decide) (Nat.le_of_ble_eq_true rfl) ?_
  intro p e s m args below meth c ad X hZ hr0 hlk
  have P0 : gP [18, 19] u u := gP.rf h
  refine ab_aload_n X 0 d_MO_either_0 rfl rfl ?_
  refine ab_aload_n X 0 d_MO_either_1 rfl rfl ?_
  refine ab_gR X fl_MO_48 d_MO_either_2 (by first | assumption | decide | (show _ < 124; omega) | (show _ < 61; omega) | (show _ < 20; omega)) (P0.1.mo12) ?_
  refine ab_iload_n X 1 d_MO_either_5 rfl rfl ?_
  refine ab_iald X (f) ⟨rfl, rfl⟩ d_MO_either_6 (by first | assumption | decide | (show _ < 124; omega) | (show _ < 61; omega) | (show _ < 20; omega)) (rfl) (show f < 72 by omega) (ab_ln_lt _ _) ?_
  refine ab_top ef.1 ?_
  refine ab_aload_n X 0 d_MO_either_7 rfl rfl ?_
  refine ab_gR X fl_MO_48 d_MO_either_8 (by first | assumption | decide | (show _ < 124; omega) | (show _ < 61; omega) | (show _ < 20; omega)) (P0.1.mo12) ?_
  refine ab_iload_n X 3 d_MO_either_11 rfl rfl ?_
  refine ab_iald X (g) ⟨rfl, rfl⟩ d_MO_either_12 (by first | assumption | decide | (show _ < 124; omega) | (show _ < 61; omega) | (show _ < 20; omega)) (rfl) (show g < 72 by omega) (ab_ln_lt _ _) ?_
  refine ab_top eg.1 ?_
  refine ab_iadd X d_MO_either_13 ?_
  refine ab_top (nI_add _ _) ?_
  refine ab_iload X 4 d_MO_either_14 rfl ?_
  refine ab_iadd X d_MO_either_16 ?_
  refine ab_top (nI_add _ _) ?_
  refine ab_aload_n X 0 d_MO_either_17 rfl rfl ?_
  refine ab_gR X fl_MO_51 d_MO_either_18 (by first | assumption | decide | (show _ < 124; omega) | (show _ < 61; omega) | (show _ < 20; omega)) (P0.1.mo13) ?_
  refine ab_iload_n X 1 d_MO_either_21 rfl rfl ?_
  refine ab_iald X (f) ⟨rfl, rfl⟩ d_MO_either_22 (by first | assumption | decide | (show _ < 124; omega) | (show _ < 61; omega) | (show _ < 20; omega)) (rfl) (show f < 72 by omega) (ab_ln_lt _ _) ?_
  refine ab_iload_n X 2 d_MO_either_23 rfl rfl ?_
  refine ab_aload_n X 0 d_MO_either_24 rfl rfl ?_
  refine ab_gR X fl_MO_51 d_MO_either_25 (by first | assumption | decide | (show _ < 124; omega) | (show _ < 61; omega) | (show _ < 20; omega)) (P0.1.mo13) ?_
  refine ab_iload_n X 3 d_MO_either_28 rfl rfl ?_
  refine ab_iald X (g) ⟨rfl, rfl⟩ d_MO_either_29 (by first | assumption | decide | (show _ < 124; omega) | (show _ < 61; omega) | (show _ < 20; omega)) (rfl) (show g < 72 by omega) (ab_ln_lt _ _) ?_
  refine ab_iadd X d_MO_either_30 ?_
  refine ab_callS (as := [ab_I _, ab_I _]) X (fun h => by cases h) (t_MO_greater u _ _) ls_MO_192 d_MO_either_31 rfl rfl ⟨by first | exact Nat.le_of_ble_eq_true rfl | (simp only [ab_rm]; omega), by first | exact Nat.le_of_ble_eq_true rfl | (simp only [ab_rm]; omega)⟩ ⟨by first | exact Nat.le_of_ble_eq_true rfl | (simp only [ab_rm]; omega), by first | exact Nat.le_of_ble_eq_true rfl | (simp only [ab_rm]; omega)⟩ (Nat.le_of_ble_eq_true rfl) (fun u31 r31 h31 => ?_)
  obtain ⟨e31, x31, rfl⟩ := h31
  subst u31
  refine ab_callV (as := [ab_I _, ab_I _]) X (fun h => by cases h) (s_MO_is u _ _ h) lk_MO_188 d_MO_either_34 rfl rfl (by first | assumption | decide | (show _ < 124; omega) | (show _ < 61; omega) | (show _ < 20; omega)) ⟨by first | exact Nat.le_of_ble_eq_true rfl | (simp only [ab_rm]; omega), by first | exact Nat.le_of_ble_eq_true rfl | (simp only [ab_rm]; omega)⟩ ⟨by first | exact Nat.le_of_ble_eq_true rfl | (simp only [ab_rm]; omega), by first | exact Nat.le_of_ble_eq_true rfl | (simp only [ab_rm]; omega)⟩ (Nat.le_of_ble_eq_true rfl) (fun u34 r34 h34 => ?_)
  obtain ⟨⟨q34, a34⟩, rfl⟩ := h34
  have P34 := P0.trans q34 (by decide)
  exact ab_retv X hr0 hlk d_MO_either_37 ⟨⟨P34, a34⟩, rfl⟩
abbrev b_MO_choice : ByteArray := prog_10_method_18_code
def y_MO_choice : MethodName := ⟨"PolicyForgeModel", "choice", "(II)V"⟩
theorem d_MO_choice_0 : decode b_MO_choice 0 = .ok (.aload_n 0, 1) := by decide +kernel
theorem d_MO_choice_1 : decode b_MO_choice 1 = .ok (.aload_n 0, 1) := by decide +kernel
theorem d_MO_choice_2 : decode b_MO_choice 2 = .ok (.getfield 48, 3) := by decide +kernel
theorem d_MO_choice_5 : decode b_MO_choice 5 = .ok (.iload_n 1, 1) := by decide +kernel
theorem d_MO_choice_6 : decode b_MO_choice 6 = .ok (.iaload, 1) := by decide +kernel
theorem d_MO_choice_7 : decode b_MO_choice 7 = .ok (.aload_n 0, 1) := by decide +kernel
theorem d_MO_choice_8 : decode b_MO_choice 8 = .ok (.getfield 48, 3) := by decide +kernel
theorem d_MO_choice_11 : decode b_MO_choice 11 = .ok (.iload_n 2, 1) := by decide +kernel
theorem d_MO_choice_12 : decode b_MO_choice 12 = .ok (.iaload, 1) := by decide +kernel
theorem d_MO_choice_13 : decode b_MO_choice 13 = .ok (.iadd, 1) := by decide +kernel
theorem d_MO_choice_14 : decode b_MO_choice 14 = .ok (.iconst 3, 1) := by decide +kernel
theorem d_MO_choice_15 : decode b_MO_choice 15 = .ok (.iadd, 1) := by decide +kernel
theorem d_MO_choice_16 : decode b_MO_choice 16 = .ok (.iconst 1, 1) := by decide +kernel
theorem d_MO_choice_17 : decode b_MO_choice 17 = .ok (.aload_n 0, 1) := by decide +kernel
theorem d_MO_choice_18 : decode b_MO_choice 18 = .ok (.getfield 51, 3) := by decide +kernel
theorem d_MO_choice_21 : decode b_MO_choice 21 = .ok (.iload_n 1, 1) := by decide +kernel
theorem d_MO_choice_22 : decode b_MO_choice 22 = .ok (.iaload, 1) := by decide +kernel
theorem d_MO_choice_23 : decode b_MO_choice 23 = .ok (.aload_n 0, 1) := by decide +kernel
theorem d_MO_choice_24 : decode b_MO_choice 24 = .ok (.getfield 51, 3) := by decide +kernel
theorem d_MO_choice_27 : decode b_MO_choice 27 = .ok (.iload_n 2, 1) := by decide +kernel
theorem d_MO_choice_28 : decode b_MO_choice 28 = .ok (.iaload, 1) := by decide +kernel
theorem d_MO_choice_29 : decode b_MO_choice 29 = .ok (.invokestatic 192, 3) := by decide +kernel
theorem d_MO_choice_32 : decode b_MO_choice 32 = .ok (.iadd, 1) := by decide +kernel
theorem d_MO_choice_33 : decode b_MO_choice 33 = .ok (.invokevirtual 188, 3) := by decide +kernel
theorem d_MO_choice_36 : decode b_MO_choice 36 = .ok (.return_, 1) := by decide +kernel
set_option maxRecDepth 100000 in
set_option maxHeartbeats 1000000 in
theorem s_MO_choice (u : ab_S) (f g : Nat) (h : mR u.2.1) (hf : f < 72) (hg : g < 72) (ef : lk u f) (eg : lk u g) : ab_C false l D ca y_MO_choice b_MO_choice 3 none 1 ab_nQ u [ab_O 17 0, ab_I (nI f), ab_I (nI g)] (fun u' v => (gP [18, 19] u u' ∧ u'.1 17 0 18 = nI  (lnu u f + lnu u g + 3)) ∧ v = none) := by
  refine ab_C.of (by decide) (Nat.le_of_ble_eq_true rfl) ?_
  intro p e s m args below meth c ad X hZ hr0 hlk
  have P0 : gP [18, 19] u u := gP.rf h
  refine ab_aload_n X 0 d_MO_choice_0 rfl rfl ?_
  refine ab_aload_n X 0 d_MO_choice_1 rfl rfl ?_
  refine ab_gR X fl_MO_48 d_MO_choice_2 (by first | assumption | decide | (show _ < 124; omega) | (show _ < 61; omega) | (show _ < 20; omega)) (P0.1.mo12) ?_
  refine ab_iload_n X 1 d_MO_choice_5 rfl rfl ?_
  refine ab_iald X (f) ⟨rfl, rfl⟩ d_MO_choice_6 (by first | assumption | decide | (show _ < 124; omega) | (show _ < 61; omega) | (show _ < 20; omega)) (rfl) (show f < 72 by omega) (ab_ln_lt _ _) ?_
  refine ab_top ef.1 ?_
  refine ab_aload_n X 0 d_MO_choice_7 rfl rfl ?_
  refine ab_gR X fl_MO_48 d_MO_choice_8 (by first | assumption | decide | (show _ < 124; omega) | (show _ < 61; omega) | (show _ < 20; omega)) (P0.1.mo12) ?_
  refine ab_iload_n X 2 d_MO_choice_11 rfl rfl ?_
  refine ab_iald X (g) ⟨rfl, rfl⟩ d_MO_choice_12 (by first | assumption | decide | (show _ < 124; omega) | (show _ < 61; omega) | (show _ < 20; omega)) (rfl) (show g < 72 by omega) (ab_ln_lt _ _) ?_
  refine ab_top eg.1 ?_
  refine ab_iadd X d_MO_choice_13 ?_
  refine ab_top (nI_add _ _) ?_
  refine ab_iconst (v := 3) X d_MO_choice_14 (by decide) ?_
  refine ab_iadd X d_MO_choice_15 ?_
  refine ab_top (nI_add _ 3) ?_
  refine ab_iconst (v := 1) X d_MO_choice_16 (by decide) ?_
  refine ab_aload_n X 0 d_MO_choice_17 rfl rfl ?_
  refine ab_gR X fl_MO_51 d_MO_choice_18 (by first | assumption | decide | (show _ < 124; omega) | (show _ < 61; omega) | (show _ < 20; omega)) (P0.1.mo13) ?_
  refine ab_iload_n X 1 d_MO_choice_21 rfl rfl ?_
  refine ab_iald X (f) ⟨rfl, rfl⟩ d_MO_choice_22 (by first | assumption | decide | (show _ < 124; omega) | (show _ < 61; omega) | (show _ < 20; omega)) (rfl) (show f < 72 by omega) (ab_ln_lt _ _) ?_
  refine ab_aload_n X 0 d_MO_choice_23 rfl rfl ?_
  refine ab_gR X fl_MO_51 d_MO_choice_24 (by first | assumption | decide | (show _ < 124; omega) | (show _ < 61; omega) | (show _ < 20; omega)) (P0.1.mo13) ?_
  refine ab_iload_n X 2 d_MO_choice_27 rfl rfl ?_
  refine ab_iald X (g) ⟨rfl, rfl⟩ d_MO_choice_28 (by first | assumption | decide | (show _ < 124; omega) | (show _ < 61; omega) | (show _ < 20; omega)) (rfl) (show g < 72 by omega) (ab_ln_lt _ _) ?_
  refine ab_callS (as := [ab_I _, ab_I _]) X (fun h => by cases h) (t_MO_greater u _ _) ls_MO_192 d_MO_choice_29 rfl rfl ⟨by first | exact Nat.le_of_ble_eq_true rfl | (simp only [ab_rm]; omega), by first | exact Nat.le_of_ble_eq_true rfl | (simp only [ab_rm]; omega)⟩ ⟨by first | exact Nat.le_of_ble_eq_true rfl | (simp only [ab_rm]; omega), by first | exact Nat.le_of_ble_eq_true rfl | (simp only [ab_rm]; omega)⟩ (Nat.le_of_ble_eq_true rfl) (fun u29 r29 h29 => ?_)
  obtain ⟨e29, x29, rfl⟩ := h29
  subst u29
  refine ab_iadd X d_MO_choice_32 ?_
  refine ab_callV (as := [ab_I _, ab_I _]) X (fun h => by cases h) (s_MO_is u _ _ h) lk_MO_188 d_MO_choice_33 rfl rfl (by first | assumption | decide | (show _ < 124; omega) | (show _ < 61; omega) | (show _ < 20; omega)) ⟨by first | exact Nat.le_of_ble_eq_true rfl | (simp only [ab_rm]; omega), by first | exact Nat.le_of_ble_eq_true rfl | (simp only [ab_rm]; omega)⟩ ⟨by first | exact Nat.le_of_ble_eq_true rfl | (simp only [ab_rm]; omega), by first | exact Nat.le_of_ble_eq_true rfl | (simp only [ab_rm]; omega)⟩ (Nat.le_of_ble_eq_true rfl) (fun u33 r33 h33 => ?_)
  obtain ⟨⟨q33, a33⟩, rfl⟩ := h33
  have P33 := P0.trans q33 (by decide)
  exact ab_retv X hr0 hlk d_MO_choice_36 ⟨⟨P33, a33⟩, rfl⟩
abbrev b_MO_triesOr : ByteArray := prog_10_method_23_code
def y_MO_triesOr : MethodName := ⟨"PolicyForgeModel", "triesOr", "(III)V"⟩
theorem d_MO_triesOr_0 : decode b_MO_triesOr 0 = .ok (.iload_n 3, 1) := by decide +kernel
theorem d_MO_triesOr_1 : decode b_MO_triesOr 1 = .ok (.iconst 3, 1) := by decide +kernel
theorem d_MO_triesOr_2 : decode b_MO_triesOr 2 = .ok (.if_icmp .ne 63, 3) := by decide +kernel
theorem d_MO_triesOr_5 : decode b_MO_triesOr 5 = .ok (.aload_n 0, 1) := by decide +kernel
theorem d_MO_triesOr_6 : decode b_MO_triesOr 6 = .ok (.aload_n 0, 1) := by decide +kernel
theorem d_MO_triesOr_7 : decode b_MO_triesOr 7 = .ok (.getfield 48, 3) := by decide +kernel
theorem d_MO_triesOr_10 : decode b_MO_triesOr 10 = .ok (.iload_n 1, 1) := by decide +kernel
theorem d_MO_triesOr_11 : decode b_MO_triesOr 11 = .ok (.invokestatic 195, 3) := by decide +kernel
theorem d_MO_triesOr_14 : decode b_MO_triesOr 14 = .ok (.iaload, 1) := by decide +kernel
theorem d_MO_triesOr_15 : decode b_MO_triesOr 15 = .ok (.aload_n 0, 1) := by decide +kernel
theorem d_MO_triesOr_16 : decode b_MO_triesOr 16 = .ok (.getfield 48, 3) := by decide +kernel
theorem d_MO_triesOr_19 : decode b_MO_triesOr 19 = .ok (.iload_n 2, 1) := by decide +kernel
theorem d_MO_triesOr_20 : decode b_MO_triesOr 20 = .ok (.invokestatic 195, 3) := by decide +kernel
theorem d_MO_triesOr_23 : decode b_MO_triesOr 23 = .ok (.iaload, 1) := by decide +kernel
theorem d_MO_triesOr_24 : decode b_MO_triesOr 24 = .ok (.iadd, 1) := by decide +kernel
theorem d_MO_triesOr_25 : decode b_MO_triesOr 25 = .ok (.iconst 3, 1) := by decide +kernel
theorem d_MO_triesOr_26 : decode b_MO_triesOr 26 = .ok (.iadd, 1) := by decide +kernel
theorem d_MO_triesOr_27 : decode b_MO_triesOr 27 = .ok (.aload_n 0, 1) := by decide +kernel
theorem d_MO_triesOr_28 : decode b_MO_triesOr 28 = .ok (.getfield 51, 3) := by decide +kernel
theorem d_MO_triesOr_31 : decode b_MO_triesOr 31 = .ok (.iload_n 1, 1) := by decide +kernel
theorem d_MO_triesOr_32 : decode b_MO_triesOr 32 = .ok (.invokestatic 195, 3) := by decide +kernel
theorem d_MO_triesOr_35 : decode b_MO_triesOr 35 = .ok (.iaload, 1) := by decide +kernel
theorem d_MO_triesOr_36 : decode b_MO_triesOr 36 = .ok (.aload_n 0, 1) := by decide +kernel
theorem d_MO_triesOr_37 : decode b_MO_triesOr 37 = .ok (.getfield 54, 3) := by decide +kernel
theorem d_MO_triesOr_40 : decode b_MO_triesOr 40 = .ok (.iload_n 2, 1) := by decide +kernel
theorem d_MO_triesOr_41 : decode b_MO_triesOr 41 = .ok (.iaload, 1) := by decide +kernel
theorem d_MO_triesOr_42 : decode b_MO_triesOr 42 = .ok (.iadd, 1) := by decide +kernel
theorem d_MO_triesOr_43 : decode b_MO_triesOr 43 = .ok (.aload_n 0, 1) := by decide +kernel
theorem d_MO_triesOr_44 : decode b_MO_triesOr 44 = .ok (.getfield 54, 3) := by decide +kernel
theorem d_MO_triesOr_47 : decode b_MO_triesOr 47 = .ok (.iload_n 1, 1) := by decide +kernel
theorem d_MO_triesOr_48 : decode b_MO_triesOr 48 = .ok (.iaload, 1) := by decide +kernel
theorem d_MO_triesOr_49 : decode b_MO_triesOr 49 = .ok (.aload_n 0, 1) := by decide +kernel
theorem d_MO_triesOr_50 : decode b_MO_triesOr 50 = .ok (.getfield 51, 3) := by decide +kernel
theorem d_MO_triesOr_53 : decode b_MO_triesOr 53 = .ok (.iload_n 2, 1) := by decide +kernel
theorem d_MO_triesOr_54 : decode b_MO_triesOr 54 = .ok (.invokestatic 195, 3) := by decide +kernel
theorem d_MO_triesOr_57 : decode b_MO_triesOr 57 = .ok (.iaload, 1) := by decide +kernel
theorem d_MO_triesOr_58 : decode b_MO_triesOr 58 = .ok (.iadd, 1) := by decide +kernel
theorem d_MO_triesOr_59 : decode b_MO_triesOr 59 = .ok (.invokestatic 192, 3) := by decide +kernel
theorem d_MO_triesOr_62 : decode b_MO_triesOr 62 = .ok (.invokevirtual 188, 3) := by decide +kernel
theorem d_MO_triesOr_65 : decode b_MO_triesOr 65 = .ok (.iload_n 3, 1) := by decide +kernel
theorem d_MO_triesOr_66 : decode b_MO_triesOr 66 = .ok (.iconst 4, 1) := by decide +kernel
theorem d_MO_triesOr_67 : decode b_MO_triesOr 67 = .ok (.if_icmp .ne 22, 3) := by decide +kernel
theorem d_MO_triesOr_70 : decode b_MO_triesOr 70 = .ok (.aload_n 0, 1) := by decide +kernel
theorem d_MO_triesOr_71 : decode b_MO_triesOr 71 = .ok (.iload_n 1, 1) := by decide +kernel
theorem d_MO_triesOr_72 : decode b_MO_triesOr 72 = .ok (.invokestatic 195, 3) := by decide +kernel
theorem d_MO_triesOr_75 : decode b_MO_triesOr 75 = .ok (.aload_n 0, 1) := by decide +kernel
theorem d_MO_triesOr_76 : decode b_MO_triesOr 76 = .ok (.getfield 54, 3) := by decide +kernel
theorem d_MO_triesOr_79 : decode b_MO_triesOr 79 = .ok (.iload_n 1, 1) := by decide +kernel
theorem d_MO_triesOr_80 : decode b_MO_triesOr 80 = .ok (.iaload, 1) := by decide +kernel
theorem d_MO_triesOr_81 : decode b_MO_triesOr 81 = .ok (.iload_n 2, 1) := by decide +kernel
theorem d_MO_triesOr_82 : decode b_MO_triesOr 82 = .ok (.invokestatic 195, 3) := by decide +kernel
theorem d_MO_triesOr_85 : decode b_MO_triesOr 85 = .ok (.iconst 3, 1) := by decide +kernel
theorem d_MO_triesOr_86 : decode b_MO_triesOr 86 = .ok (.invokevirtual 221, 3) := by decide +kernel
theorem d_MO_triesOr_89 : decode b_MO_triesOr 89 = .ok (.iload_n 3, 1) := by decide +kernel
theorem d_MO_triesOr_90 : decode b_MO_triesOr 90 = .ok (.iconst 5, 1) := by decide +kernel
theorem d_MO_triesOr_91 : decode b_MO_triesOr 91 = .ok (.if_icmp .ne 15, 3) := by decide +kernel
theorem d_MO_triesOr_94 : decode b_MO_triesOr 94 = .ok (.aload_n 0, 1) := by decide +kernel
theorem d_MO_triesOr_95 : decode b_MO_triesOr 95 = .ok (.iload_n 1, 1) := by decide +kernel
theorem d_MO_triesOr_96 : decode b_MO_triesOr 96 = .ok (.invokestatic 195, 3) := by decide +kernel
theorem d_MO_triesOr_99 : decode b_MO_triesOr 99 = .ok (.iload_n 2, 1) := by decide +kernel
theorem d_MO_triesOr_100 : decode b_MO_triesOr 100 = .ok (.invokestatic 204, 3) := by decide +kernel
theorem d_MO_triesOr_103 : decode b_MO_triesOr 103 = .ok (.invokevirtual 225, 3) := by decide +kernel
theorem d_MO_triesOr_106 : decode b_MO_triesOr 106 = .ok (.iload_n 3, 1) := by decide +kernel
theorem d_MO_triesOr_107 : decode b_MO_triesOr 107 = .ok (.bipush 6, 2) := by decide +kernel
theorem d_MO_triesOr_109 : decode b_MO_triesOr 109 = .ok (.if_icmp .ne 15, 3) := by decide +kernel
theorem d_MO_triesOr_112 : decode b_MO_triesOr 112 = .ok (.aload_n 0, 1) := by decide +kernel
theorem d_MO_triesOr_113 : decode b_MO_triesOr 113 = .ok (.iload_n 1, 1) := by decide +kernel
theorem d_MO_triesOr_114 : decode b_MO_triesOr 114 = .ok (.invokestatic 204, 3) := by decide +kernel
theorem d_MO_triesOr_117 : decode b_MO_triesOr 117 = .ok (.iload_n 2, 1) := by decide +kernel
theorem d_MO_triesOr_118 : decode b_MO_triesOr 118 = .ok (.invokestatic 195, 3) := by decide +kernel
theorem d_MO_triesOr_121 : decode b_MO_triesOr 121 = .ok (.invokevirtual 225, 3) := by decide +kernel
theorem d_MO_triesOr_124 : decode b_MO_triesOr 124 = .ok (.iload_n 3, 1) := by decide +kernel
theorem d_MO_triesOr_125 : decode b_MO_triesOr 125 = .ok (.bipush 15, 2) := by decide +kernel
theorem d_MO_triesOr_127 : decode b_MO_triesOr 127 = .ok (.if_icmp .ne 22, 3) := by decide +kernel
theorem d_MO_triesOr_130 : decode b_MO_triesOr 130 = .ok (.aload_n 0, 1) := by decide +kernel
theorem d_MO_triesOr_131 : decode b_MO_triesOr 131 = .ok (.iload_n 1, 1) := by decide +kernel
theorem d_MO_triesOr_132 : decode b_MO_triesOr 132 = .ok (.invokestatic 195, 3) := by decide +kernel
theorem d_MO_triesOr_135 : decode b_MO_triesOr 135 = .ok (.aload_n 0, 1) := by decide +kernel
theorem d_MO_triesOr_136 : decode b_MO_triesOr 136 = .ok (.getfield 54, 3) := by decide +kernel
theorem d_MO_triesOr_139 : decode b_MO_triesOr 139 = .ok (.iload_n 1, 1) := by decide +kernel
theorem d_MO_triesOr_140 : decode b_MO_triesOr 140 = .ok (.iaload, 1) := by decide +kernel
theorem d_MO_triesOr_141 : decode b_MO_triesOr 141 = .ok (.iload_n 2, 1) := by decide +kernel
theorem d_MO_triesOr_142 : decode b_MO_triesOr 142 = .ok (.invokestatic 204, 3) := by decide +kernel
theorem d_MO_triesOr_145 : decode b_MO_triesOr 145 = .ok (.iconst 3, 1) := by decide +kernel
theorem d_MO_triesOr_146 : decode b_MO_triesOr 146 = .ok (.invokevirtual 221, 3) := by decide +kernel
theorem d_MO_triesOr_149 : decode b_MO_triesOr 149 = .ok (.iload_n 3, 1) := by decide +kernel
theorem d_MO_triesOr_150 : decode b_MO_triesOr 150 = .ok (.bipush 16, 2) := by decide +kernel
theorem d_MO_triesOr_152 : decode b_MO_triesOr 152 = .ok (.if_icmp .ne 22, 3) := by decide +kernel
theorem d_MO_triesOr_155 : decode b_MO_triesOr 155 = .ok (.aload_n 0, 1) := by decide +kernel
theorem d_MO_triesOr_156 : decode b_MO_triesOr 156 = .ok (.iload_n 2, 1) := by decide +kernel
theorem d_MO_triesOr_157 : decode b_MO_triesOr 157 = .ok (.invokestatic 195, 3) := by decide +kernel
theorem d_MO_triesOr_160 : decode b_MO_triesOr 160 = .ok (.aload_n 0, 1) := by decide +kernel
theorem d_MO_triesOr_161 : decode b_MO_triesOr 161 = .ok (.getfield 54, 3) := by decide +kernel
theorem d_MO_triesOr_164 : decode b_MO_triesOr 164 = .ok (.iload_n 2, 1) := by decide +kernel
theorem d_MO_triesOr_165 : decode b_MO_triesOr 165 = .ok (.iaload, 1) := by decide +kernel
theorem d_MO_triesOr_166 : decode b_MO_triesOr 166 = .ok (.iload_n 1, 1) := by decide +kernel
theorem d_MO_triesOr_167 : decode b_MO_triesOr 167 = .ok (.invokestatic 204, 3) := by decide +kernel
theorem d_MO_triesOr_170 : decode b_MO_triesOr 170 = .ok (.iconst 3, 1) := by decide +kernel
theorem d_MO_triesOr_171 : decode b_MO_triesOr 171 = .ok (.invokevirtual 221, 3) := by decide +kernel
theorem d_MO_triesOr_174 : decode b_MO_triesOr 174 = .ok (.iload_n 3, 1) := by decide +kernel
theorem d_MO_triesOr_175 : decode b_MO_triesOr 175 = .ok (.bipush 17, 2) := by decide +kernel
theorem d_MO_triesOr_177 : decode b_MO_triesOr 177 = .ok (.if_icmp .ne 15, 3) := by decide +kernel
theorem d_MO_triesOr_180 : decode b_MO_triesOr 180 = .ok (.aload_n 0, 1) := by decide +kernel
theorem d_MO_triesOr_181 : decode b_MO_triesOr 181 = .ok (.iload_n 1, 1) := by decide +kernel
theorem d_MO_triesOr_182 : decode b_MO_triesOr 182 = .ok (.invokestatic 204, 3) := by decide +kernel
theorem d_MO_triesOr_185 : decode b_MO_triesOr 185 = .ok (.iload_n 2, 1) := by decide +kernel
theorem d_MO_triesOr_186 : decode b_MO_triesOr 186 = .ok (.invokestatic 204, 3) := by decide +kernel
theorem d_MO_triesOr_189 : decode b_MO_triesOr 189 = .ok (.invokevirtual 225, 3) := by decide +kernel
theorem d_MO_triesOr_192 : decode b_MO_triesOr 192 = .ok (.iload_n 3, 1) := by decide +kernel
theorem d_MO_triesOr_193 : decode b_MO_triesOr 193 = .ok (.bipush 22, 2) := by decide +kernel
theorem d_MO_triesOr_195 : decode b_MO_triesOr 195 = .ok (.if_icmp .ne 22, 3) := by decide +kernel
theorem d_MO_triesOr_198 : decode b_MO_triesOr 198 = .ok (.aload_n 0, 1) := by decide +kernel
theorem d_MO_triesOr_199 : decode b_MO_triesOr 199 = .ok (.iload_n 1, 1) := by decide +kernel
theorem d_MO_triesOr_200 : decode b_MO_triesOr 200 = .ok (.invokestatic 195, 3) := by decide +kernel
theorem d_MO_triesOr_203 : decode b_MO_triesOr 203 = .ok (.aload_n 0, 1) := by decide +kernel
theorem d_MO_triesOr_204 : decode b_MO_triesOr 204 = .ok (.getfield 54, 3) := by decide +kernel
theorem d_MO_triesOr_207 : decode b_MO_triesOr 207 = .ok (.iload_n 1, 1) := by decide +kernel
theorem d_MO_triesOr_208 : decode b_MO_triesOr 208 = .ok (.iaload, 1) := by decide +kernel
theorem d_MO_triesOr_209 : decode b_MO_triesOr 209 = .ok (.iload_n 2, 1) := by decide +kernel
theorem d_MO_triesOr_210 : decode b_MO_triesOr 210 = .ok (.invokestatic 201, 3) := by decide +kernel
theorem d_MO_triesOr_213 : decode b_MO_triesOr 213 = .ok (.iconst 2, 1) := by decide +kernel
theorem d_MO_triesOr_214 : decode b_MO_triesOr 214 = .ok (.invokevirtual 221, 3) := by decide +kernel
theorem d_MO_triesOr_217 : decode b_MO_triesOr 217 = .ok (.iload_n 3, 1) := by decide +kernel
theorem d_MO_triesOr_218 : decode b_MO_triesOr 218 = .ok (.bipush 23, 2) := by decide +kernel
theorem d_MO_triesOr_220 : decode b_MO_triesOr 220 = .ok (.if_icmp .ne 15, 3) := by decide +kernel
theorem d_MO_triesOr_223 : decode b_MO_triesOr 223 = .ok (.aload_n 0, 1) := by decide +kernel
theorem d_MO_triesOr_224 : decode b_MO_triesOr 224 = .ok (.iload_n 1, 1) := by decide +kernel
theorem d_MO_triesOr_225 : decode b_MO_triesOr 225 = .ok (.invokestatic 201, 3) := by decide +kernel
theorem d_MO_triesOr_228 : decode b_MO_triesOr 228 = .ok (.iload_n 2, 1) := by decide +kernel
theorem d_MO_triesOr_229 : decode b_MO_triesOr 229 = .ok (.invokestatic 201, 3) := by decide +kernel
theorem d_MO_triesOr_232 : decode b_MO_triesOr 232 = .ok (.invokevirtual 225, 3) := by decide +kernel
theorem d_MO_triesOr_235 : decode b_MO_triesOr 235 = .ok (.return_, 1) := by decide +kernel
theorem fl_MO_54 : ab_fl "PolicyForgeModel" 54 17 14 1 := ⟨rfl, R_MO, T_MO, 44, rfl, uw_MO, by decide, rfl, (ab_in 940 (by decide +kernel) (by decide +kernel))⟩
theorem lk_MO_221 : ab_lk "PolicyForgeModel" 221 y_MO_either b_MO_either 5 none 4 17 := ⟨⟨rfl, T_MO, 44, rfl⟩, List.forall_mem_cons.mpr ⟨(ab_in 1161 (by decide +kernel) (by decide +kernel)), List.forall_mem_cons.mpr ⟨(ab_in 1163 (by decide +kernel) (by decide +kernel)), List.forall_mem_cons.mpr ⟨(ab_in 62 (by decide +kernel) (by decide +kernel)), List.forall_mem_cons.mpr ⟨(ab_in 100 (by decide +kernel) (by decide +kernel)), List.forall_mem_cons.mpr ⟨(ab_in 1164 (by decide +kernel) (by decide +kernel)), fun _ h => absurd h List.not_mem_nil⟩⟩⟩⟩⟩, ⟨by decide +kernel, by decide +kernel, by decide +kernel⟩, by decide⟩
theorem lk_MO_225 : ab_lk "PolicyForgeModel" 225 y_MO_choice b_MO_choice 3 none 2 17 := ⟨⟨rfl, T_MO, 44, rfl⟩, List.forall_mem_cons.mpr ⟨(ab_in 1165 (by decide +kernel) (by decide +kernel)), List.forall_mem_cons.mpr ⟨(ab_in 1167 (by decide +kernel) (by decide +kernel)), List.forall_mem_cons.mpr ⟨(ab_in 63 (by decide +kernel) (by decide +kernel)), List.forall_mem_cons.mpr ⟨(ab_in 100 (by decide +kernel) (by decide +kernel)), List.forall_mem_cons.mpr ⟨(ab_in 1168 (by decide +kernel) (by decide +kernel)), fun _ h => absurd h List.not_mem_nil⟩⟩⟩⟩⟩, ⟨by decide +kernel, by decide +kernel, by decide +kernel⟩, by decide⟩
set_option maxRecDepth 100000 in
set_option maxHeartbeats 1000000 in
theorem s_MO_triesOr3 (u : ab_S) (x y : Nat) (h : mR u.2.1) (hx : x < 19) (hy : y < 19) (lx : lk u (3 * x) ∧ lk u (3 * x + 1) ∧ lk u (3 * x + 2)) (ly : lk u (3 * y) ∧ lk u (3 * y + 1) ∧ lk u (3 * y + 2)) : ab_C false l D ca y_MO_triesOr b_MO_triesOr 4 none 2 ab_nQ u [ab_O 17 0, ab_I (nI x), ab_I (nI y), ab_I (nI 3)] (fun u' v => (gP [18, 19] u u' ∧ u'.1 17 0 18 = nI  (lnu u (3 * x + 1) + lnu u (3 * y + 1) + 3)) ∧ v = none) := by
  refine ab_C.of (by decide) (Nat.le_of_ble_eq_true rfl) ?_
  intro p e s m args below meth c ad X hZ hr0 hlk
  have P0 : gP [18, 19] u u := gP.rf h
  refine ab_iload_n X 3 d_MO_triesOr_0 rfl rfl ?_
  refine ab_iconst (v := 3) X d_MO_triesOr_1 (by decide) ?_
  refine ab_icmp_ne X 65 d_MO_triesOr_2 rfl (fun hb => absurd ((by decide)) hb) (fun _ => ?_)
  refine ab_aload_n X 0 d_MO_triesOr_5 rfl rfl ?_
  refine ab_aload_n X 0 d_MO_triesOr_6 rfl rfl ?_
  refine ab_gR X fl_MO_48 d_MO_triesOr_7 (by first | assumption | decide | (show _ < 124; omega) | (show _ < 61; omega) | (show _ < 20; omega)) (P0.1.mo12) ?_
  refine ab_iload_n X 1 d_MO_triesOr_10 rfl rfl ?_
  refine ab_callS (as := [ab_I (nI x)]) X (fun h => by cases h) (t_MO_d u x) ls_MO_195 d_MO_triesOr_11 rfl rfl ⟨by first | exact Nat.le_of_ble_eq_true rfl | (simp only [ab_rm]; omega), by first | exact Nat.le_of_ble_eq_true rfl | (simp only [ab_rm]; omega)⟩ ⟨by first | exact Nat.le_of_ble_eq_true rfl | (simp only [ab_rm]; omega), by first | exact Nat.le_of_ble_eq_true rfl | (simp only [ab_rm]; omega)⟩ (Nat.le_of_ble_eq_true rfl) (fun u11 r11 h11 => ?_)
  obtain ⟨e11, rfl⟩ := h11
  subst u11
  refine ab_iald X (3 * x + 1) ⟨rfl, rfl⟩ d_MO_triesOr_14 (by first | assumption | decide | (show _ < 124; omega) | (show _ < 61; omega) | (show _ < 20; omega)) (rfl) (show 3 * x + 1 < 72 by omega) (ab_ln_lt _ _) ?_
  refine ab_top lx.2.1.1 ?_
  refine ab_aload_n X 0 d_MO_triesOr_15 rfl rfl ?_
  refine ab_gR X fl_MO_48 d_MO_triesOr_16 (by first | assumption | decide | (show _ < 124; omega) | (show _ < 61; omega) | (show _ < 20; omega)) (P0.1.mo12) ?_
  refine ab_iload_n X 2 d_MO_triesOr_19 rfl rfl ?_
  refine ab_callS (as := [ab_I (nI y)]) X (fun h => by cases h) (t_MO_d u y) ls_MO_195 d_MO_triesOr_20 rfl rfl ⟨by first | exact Nat.le_of_ble_eq_true rfl | (simp only [ab_rm]; omega), by first | exact Nat.le_of_ble_eq_true rfl | (simp only [ab_rm]; omega)⟩ ⟨by first | exact Nat.le_of_ble_eq_true rfl | (simp only [ab_rm]; omega), by first | exact Nat.le_of_ble_eq_true rfl | (simp only [ab_rm]; omega)⟩ (Nat.le_of_ble_eq_true rfl) (fun u20 r20 h20 => ?_)
  obtain ⟨e20, rfl⟩ := h20
  subst u20
  refine ab_iald X (3 * y + 1) ⟨rfl, rfl⟩ d_MO_triesOr_23 (by first | assumption | decide | (show _ < 124; omega) | (show _ < 61; omega) | (show _ < 20; omega)) (rfl) (show 3 * y + 1 < 72 by omega) (ab_ln_lt _ _) ?_
  refine ab_top ly.2.1.1 ?_
  refine ab_iadd X d_MO_triesOr_24 ?_
  refine ab_top (nI_add _ _) ?_
  refine ab_iconst (v := 3) X d_MO_triesOr_25 (by decide) ?_
  refine ab_iadd X d_MO_triesOr_26 ?_
  refine ab_top (nI_add _ 3) ?_
  refine ab_aload_n X 0 d_MO_triesOr_27 rfl rfl ?_
  refine ab_gR X fl_MO_51 d_MO_triesOr_28 (by first | assumption | decide | (show _ < 124; omega) | (show _ < 61; omega) | (show _ < 20; omega)) (P0.1.mo13) ?_
  refine ab_iload_n X 1 d_MO_triesOr_31 rfl rfl ?_
  refine ab_callS (as := [ab_I (nI x)]) X (fun h => by cases h) (t_MO_d u x) ls_MO_195 d_MO_triesOr_32 rfl rfl ⟨by first | exact Nat.le_of_ble_eq_true rfl | (simp only [ab_rm]; omega), by first | exact Nat.le_of_ble_eq_true rfl | (simp only [ab_rm]; omega)⟩ ⟨by first | exact Nat.le_of_ble_eq_true rfl | (simp only [ab_rm]; omega), by first | exact Nat.le_of_ble_eq_true rfl | (simp only [ab_rm]; omega)⟩ (Nat.le_of_ble_eq_true rfl) (fun u32 r32 h32 => ?_)
  obtain ⟨e32, rfl⟩ := h32
  subst u32
  refine ab_iald X (3 * x + 1) ⟨rfl, rfl⟩ d_MO_triesOr_35 (by first | assumption | decide | (show _ < 124; omega) | (show _ < 61; omega) | (show _ < 20; omega)) (rfl) (show 3 * x + 1 < 72 by omega) (ab_ln_lt _ _) ?_
  refine ab_aload_n X 0 d_MO_triesOr_36 rfl rfl ?_
  refine ab_gR X fl_MO_54 d_MO_triesOr_37 (by first | assumption | decide | (show _ < 124; omega) | (show _ < 61; omega) | (show _ < 20; omega)) (P0.1.mo14) ?_
  refine ab_iload_n X 2 d_MO_triesOr_40 rfl rfl ?_
  refine ab_iald X (y) ⟨rfl, rfl⟩ d_MO_triesOr_41 (by first | assumption | decide | (show _ < 124; omega) | (show _ < 61; omega) | (show _ < 20; omega)) (rfl) (show y < 24 by omega) (ab_ln_lt _ _) ?_
  refine ab_iadd X d_MO_triesOr_42 ?_
  refine ab_aload_n X 0 d_MO_triesOr_43 rfl rfl ?_
  refine ab_gR X fl_MO_54 d_MO_triesOr_44 (by first | assumption | decide | (show _ < 124; omega) | (show _ < 61; omega) | (show _ < 20; omega)) (P0.1.mo14) ?_
  refine ab_iload_n X 1 d_MO_triesOr_47 rfl rfl ?_
  refine ab_iald X (x) ⟨rfl, rfl⟩ d_MO_triesOr_48 (by first | assumption | decide | (show _ < 124; omega) | (show _ < 61; omega) | (show _ < 20; omega)) (rfl) (show x < 24 by omega) (ab_ln_lt _ _) ?_
  refine ab_aload_n X 0 d_MO_triesOr_49 rfl rfl ?_
  refine ab_gR X fl_MO_51 d_MO_triesOr_50 (by first | assumption | decide | (show _ < 124; omega) | (show _ < 61; omega) | (show _ < 20; omega)) (P0.1.mo13) ?_
  refine ab_iload_n X 2 d_MO_triesOr_53 rfl rfl ?_
  refine ab_callS (as := [ab_I (nI y)]) X (fun h => by cases h) (t_MO_d u y) ls_MO_195 d_MO_triesOr_54 rfl rfl ⟨by first | exact Nat.le_of_ble_eq_true rfl | (simp only [ab_rm]; omega), by first | exact Nat.le_of_ble_eq_true rfl | (simp only [ab_rm]; omega)⟩ ⟨by first | exact Nat.le_of_ble_eq_true rfl | (simp only [ab_rm]; omega), by first | exact Nat.le_of_ble_eq_true rfl | (simp only [ab_rm]; omega)⟩ (Nat.le_of_ble_eq_true rfl) (fun u54 r54 h54 => ?_)
  obtain ⟨e54, rfl⟩ := h54
  subst u54
  refine ab_iald X (3 * y + 1) ⟨rfl, rfl⟩ d_MO_triesOr_57 (by first | assumption | decide | (show _ < 124; omega) | (show _ < 61; omega) | (show _ < 20; omega)) (rfl) (show 3 * y + 1 < 72 by omega) (ab_ln_lt _ _) ?_
  refine ab_iadd X d_MO_triesOr_58 ?_
  refine ab_callS (as := [ab_I _, ab_I _]) X (fun h => by cases h) (t_MO_greater u _ _) ls_MO_192 d_MO_triesOr_59 rfl rfl ⟨by first | exact Nat.le_of_ble_eq_true rfl | (simp only [ab_rm]; omega), by first | exact Nat.le_of_ble_eq_true rfl | (simp only [ab_rm]; omega)⟩ ⟨by first | exact Nat.le_of_ble_eq_true rfl | (simp only [ab_rm]; omega), by first | exact Nat.le_of_ble_eq_true rfl | (simp only [ab_rm]; omega)⟩ (Nat.le_of_ble_eq_true rfl) (fun u59 r59 h59 => ?_)
  obtain ⟨e59, x59, rfl⟩ := h59
  subst u59
  refine ab_callV (as := [ab_I _, ab_I _]) X (fun h => by cases h) (s_MO_is u _ _ h) lk_MO_188 d_MO_triesOr_62 rfl rfl (by first | assumption | decide | (show _ < 124; omega) | (show _ < 61; omega) | (show _ < 20; omega)) ⟨by first | exact Nat.le_of_ble_eq_true rfl | (simp only [ab_rm]; omega), by first | exact Nat.le_of_ble_eq_true rfl | (simp only [ab_rm]; omega)⟩ ⟨by first | exact Nat.le_of_ble_eq_true rfl | (simp only [ab_rm]; omega), by first | exact Nat.le_of_ble_eq_true rfl | (simp only [ab_rm]; omega)⟩ (Nat.le_of_ble_eq_true rfl) (fun u62 r62 h62 => ?_)
  obtain ⟨⟨q62, a62⟩, rfl⟩ := h62
  have P62 := P0.trans q62 (by decide)
  refine ab_iload_n X 3 d_MO_triesOr_65 rfl rfl ?_
  refine ab_iconst (v := 4) X d_MO_triesOr_66 (by decide) ?_
  refine ab_icmp_ne X 89 d_MO_triesOr_67 rfl (fun _ => ?_) (fun hb => absurd hb ((by decide)))
  refine ab_iload_n X 3 d_MO_triesOr_89 rfl rfl ?_
  refine ab_iconst (v := 5) X d_MO_triesOr_90 (by decide) ?_
  refine ab_icmp_ne X 106 d_MO_triesOr_91 rfl (fun _ => ?_) (fun hb => absurd hb ((by decide)))
  refine ab_iload_n X 3 d_MO_triesOr_106 rfl rfl ?_
  refine ab_bipush (v := 6) X d_MO_triesOr_107 (by decide) ?_
  refine ab_icmp_ne X 124 d_MO_triesOr_109 rfl (fun _ => ?_) (fun hb => absurd hb ((by decide)))
  refine ab_iload_n X 3 d_MO_triesOr_124 rfl rfl ?_
  refine ab_bipush (v := 15) X d_MO_triesOr_125 (by decide) ?_
  refine ab_icmp_ne X 149 d_MO_triesOr_127 rfl (fun _ => ?_) (fun hb => absurd hb ((by decide)))
  refine ab_iload_n X 3 d_MO_triesOr_149 rfl rfl ?_
  refine ab_bipush (v := 16) X d_MO_triesOr_150 (by decide) ?_
  refine ab_icmp_ne X 174 d_MO_triesOr_152 rfl (fun _ => ?_) (fun hb => absurd hb ((by decide)))
  refine ab_iload_n X 3 d_MO_triesOr_174 rfl rfl ?_
  refine ab_bipush (v := 17) X d_MO_triesOr_175 (by decide) ?_
  refine ab_icmp_ne X 192 d_MO_triesOr_177 rfl (fun _ => ?_) (fun hb => absurd hb ((by decide)))
  refine ab_iload_n X 3 d_MO_triesOr_192 rfl rfl ?_
  refine ab_bipush (v := 22) X d_MO_triesOr_193 (by decide) ?_
  refine ab_icmp_ne X 217 d_MO_triesOr_195 rfl (fun _ => ?_) (fun hb => absurd hb ((by decide)))
  refine ab_iload_n X 3 d_MO_triesOr_217 rfl rfl ?_
  refine ab_bipush (v := 23) X d_MO_triesOr_218 (by decide) ?_
  refine ab_icmp_ne X 235 d_MO_triesOr_220 rfl (fun _ => ?_) (fun hb => absurd hb ((by decide)))
  exact ab_retv X hr0 hlk d_MO_triesOr_235 ⟨⟨P62, a62⟩, rfl⟩
set_option maxRecDepth 100000 in
set_option maxHeartbeats 1000000 in
theorem s_MO_triesOr4 (u : ab_S) (x y : Nat) (h : mR u.2.1) (hx : x < 19) (hy : y < 19) (lx : lk u (3 * x) ∧ lk u (3 * x + 1) ∧ lk u (3 * x + 2)) (ly : lk u (3 * y) ∧ lk u (3 * y + 1) ∧ lk u (3 * y + 2)) : ab_C false l D ca y_MO_triesOr b_MO_triesOr 4 none 2 ab_nQ u [ab_O 17 0, ab_I (nI x), ab_I (nI y), ab_I (nI 4)] (fun u' v => (gP [18, 19] u u' ∧ u'.1 17 0 18 = nI  (lnu u (3 * x + 1) + lnu u (3 * y + 1) + 3)) ∧ v = none) := by
  refine ab_C.of (by decide) (Nat.le_of_ble_eq_true rfl) ?_
  intro p e s m args below meth c ad X hZ hr0 hlk
  have P0 : gP [18, 19] u u := gP.rf h
  refine ab_iload_n X 3 d_MO_triesOr_0 rfl rfl ?_
  refine ab_iconst (v := 3) X d_MO_triesOr_1 (by decide) ?_
  refine ab_icmp_ne X 65 d_MO_triesOr_2 rfl (fun _ => ?_) (fun hb => absurd hb ((by decide)))
  refine ab_iload_n X 3 d_MO_triesOr_65 rfl rfl ?_
  refine ab_iconst (v := 4) X d_MO_triesOr_66 (by decide) ?_
  refine ab_icmp_ne X 89 d_MO_triesOr_67 rfl (fun hb => absurd ((by decide)) hb) (fun _ => ?_)
  refine ab_aload_n X 0 d_MO_triesOr_70 rfl rfl ?_
  refine ab_iload_n X 1 d_MO_triesOr_71 rfl rfl ?_
  refine ab_callS (as := [ab_I (nI x)]) X (fun h => by cases h) (t_MO_d u x) ls_MO_195 d_MO_triesOr_72 rfl rfl ⟨by first | exact Nat.le_of_ble_eq_true rfl | (simp only [ab_rm]; omega), by first | exact Nat.le_of_ble_eq_true rfl | (simp only [ab_rm]; omega)⟩ ⟨by first | exact Nat.le_of_ble_eq_true rfl | (simp only [ab_rm]; omega), by first | exact Nat.le_of_ble_eq_true rfl | (simp only [ab_rm]; omega)⟩ (Nat.le_of_ble_eq_true rfl) (fun u72 r72 h72 => ?_)
  obtain ⟨e72, rfl⟩ := h72
  subst u72
  refine ab_aload_n X 0 d_MO_triesOr_75 rfl rfl ?_
  refine ab_gR X fl_MO_54 d_MO_triesOr_76 (by first | assumption | decide | (show _ < 124; omega) | (show _ < 61; omega) | (show _ < 20; omega)) (P0.1.mo14) ?_
  refine ab_iload_n X 1 d_MO_triesOr_79 rfl rfl ?_
  refine ab_iald X (x) ⟨rfl, rfl⟩ d_MO_triesOr_80 (by first | assumption | decide | (show _ < 124; omega) | (show _ < 61; omega) | (show _ < 20; omega)) (rfl) (show x < 24 by omega) (ab_ln_lt _ _) ?_
  refine ab_iload_n X 2 d_MO_triesOr_81 rfl rfl ?_
  refine ab_callS (as := [ab_I (nI y)]) X (fun h => by cases h) (t_MO_d u y) ls_MO_195 d_MO_triesOr_82 rfl rfl ⟨by first | exact Nat.le_of_ble_eq_true rfl | (simp only [ab_rm]; omega), by first | exact Nat.le_of_ble_eq_true rfl | (simp only [ab_rm]; omega)⟩ ⟨by first | exact Nat.le_of_ble_eq_true rfl | (simp only [ab_rm]; omega), by first | exact Nat.le_of_ble_eq_true rfl | (simp only [ab_rm]; omega)⟩ (Nat.le_of_ble_eq_true rfl) (fun u82 r82 h82 => ?_)
  obtain ⟨e82, rfl⟩ := h82
  subst u82
  refine ab_iconst (v := 3) X d_MO_triesOr_85 (by decide) ?_
  refine ab_callV (as := [ab_I (nI (3 * x + 1)), ab_I _, ab_I (nI (3 * y + 1)), ab_I (nI 3)]) X (fun h => by cases h) (s_MO_either u (3 * x + 1) (3 * y + 1) 3 _ h (by omega) (by omega) lx.2.1 ly.2.1) lk_MO_221 d_MO_triesOr_86 rfl rfl (by first | assumption | decide | (show _ < 124; omega) | (show _ < 61; omega) | (show _ < 20; omega)) ⟨by first | exact Nat.le_of_ble_eq_true rfl | (simp only [ab_rm]; omega), by first | exact Nat.le_of_ble_eq_true rfl | (simp only [ab_rm]; omega)⟩ ⟨by first | exact Nat.le_of_ble_eq_true rfl | (simp only [ab_rm]; omega), by first | exact Nat.le_of_ble_eq_true rfl | (simp only [ab_rm]; omega)⟩ (Nat.le_of_ble_eq_true rfl) (fun u86 r86 h86 => ?_)
  obtain ⟨⟨q86, a86⟩, rfl⟩ := h86
  have P86 := P0.trans q86 (by decide)
  refine ab_iload_n X 3 d_MO_triesOr_89 rfl rfl ?_
  refine ab_iconst (v := 5) X d_MO_triesOr_90 (by decide) ?_
  refine ab_icmp_ne X 106 d_MO_triesOr_91 rfl (fun _ => ?_) (fun hb => absurd hb ((by decide)))
  refine ab_iload_n X 3 d_MO_triesOr_106 rfl rfl ?_
  refine ab_bipush (v := 6) X d_MO_triesOr_107 (by decide) ?_
  refine ab_icmp_ne X 124 d_MO_triesOr_109 rfl (fun _ => ?_) (fun hb => absurd hb ((by decide)))
  refine ab_iload_n X 3 d_MO_triesOr_124 rfl rfl ?_
  refine ab_bipush (v := 15) X d_MO_triesOr_125 (by decide) ?_
  refine ab_icmp_ne X 149 d_MO_triesOr_127 rfl (fun _ => ?_) (fun hb => absurd hb ((by decide)))
  refine ab_iload_n X 3 d_MO_triesOr_149 rfl rfl ?_
  refine ab_bipush (v := 16) X d_MO_triesOr_150 (by decide) ?_
  refine ab_icmp_ne X 174 d_MO_triesOr_152 rfl (fun _ => ?_) (fun hb => absurd hb ((by decide)))
  refine ab_iload_n X 3 d_MO_triesOr_174 rfl rfl ?_
  refine ab_bipush (v := 17) X d_MO_triesOr_175 (by decide) ?_
  refine ab_icmp_ne X 192 d_MO_triesOr_177 rfl (fun _ => ?_) (fun hb => absurd hb ((by decide)))
  refine ab_iload_n X 3 d_MO_triesOr_192 rfl rfl ?_
  refine ab_bipush (v := 22) X d_MO_triesOr_193 (by decide) ?_
  refine ab_icmp_ne X 217 d_MO_triesOr_195 rfl (fun _ => ?_) (fun hb => absurd hb ((by decide)))
  refine ab_iload_n X 3 d_MO_triesOr_217 rfl rfl ?_
  refine ab_bipush (v := 23) X d_MO_triesOr_218 (by decide) ?_
  refine ab_icmp_ne X 235 d_MO_triesOr_220 rfl (fun _ => ?_) (fun hb => absurd hb ((by decide)))
  exact ab_retv X hr0 hlk d_MO_triesOr_235 ⟨⟨P86, a86⟩, rfl⟩
set_option maxRecDepth 100000 in
set_option maxHeartbeats 1000000 in
theorem s_MO_triesOr5 (u : ab_S) (x y : Nat) (h : mR u.2.1) (hx : x < 19) (hy : y < 19) (lx : lk u (3 * x) ∧ lk u (3 * x + 1) ∧ lk u (3 * x + 2)) (ly : lk u (3 * y) ∧ lk u (3 * y + 1) ∧ lk u (3 * y + 2)) : ab_C false l D ca y_MO_triesOr b_MO_triesOr 4 none 2 ab_nQ u [ab_O 17 0, ab_I (nI x), ab_I (nI y), ab_I (nI 5)] (fun u' v => (gP [18, 19] u u' ∧ u'.1 17 0 18 = nI  (lnu u (3 * x + 1) + lnu u (3 * y) + 3)) ∧ v = none) := by
  refine ab_C.of (by decide) (Nat.le_of_ble_eq_true rfl) ?_
  intro p e s m args below meth c ad X hZ hr0 hlk
  have P0 : gP [18, 19] u u := gP.rf h
  refine ab_iload_n X 3 d_MO_triesOr_0 rfl rfl ?_
  refine ab_iconst (v := 3) X d_MO_triesOr_1 (by decide) ?_
  refine ab_icmp_ne X 65 d_MO_triesOr_2 rfl (fun _ => ?_) (fun hb => absurd hb ((by decide)))
  refine ab_iload_n X 3 d_MO_triesOr_65 rfl rfl ?_
  refine ab_iconst (v := 4) X d_MO_triesOr_66 (by decide) ?_
  refine ab_icmp_ne X 89 d_MO_triesOr_67 rfl (fun _ => ?_) (fun hb => absurd hb ((by decide)))
  refine ab_iload_n X 3 d_MO_triesOr_89 rfl rfl ?_
  refine ab_iconst (v := 5) X d_MO_triesOr_90 (by decide) ?_
  refine ab_icmp_ne X 106 d_MO_triesOr_91 rfl (fun hb => absurd ((by decide)) hb) (fun _ => ?_)
  refine ab_aload_n X 0 d_MO_triesOr_94 rfl rfl ?_
  refine ab_iload_n X 1 d_MO_triesOr_95 rfl rfl ?_
  refine ab_callS (as := [ab_I (nI x)]) X (fun h => by cases h) (t_MO_d u x) ls_MO_195 d_MO_triesOr_96 rfl rfl ⟨by first | exact Nat.le_of_ble_eq_true rfl | (simp only [ab_rm]; omega), by first | exact Nat.le_of_ble_eq_true rfl | (simp only [ab_rm]; omega)⟩ ⟨by first | exact Nat.le_of_ble_eq_true rfl | (simp only [ab_rm]; omega), by first | exact Nat.le_of_ble_eq_true rfl | (simp only [ab_rm]; omega)⟩ (Nat.le_of_ble_eq_true rfl) (fun u96 r96 h96 => ?_)
  obtain ⟨e96, rfl⟩ := h96
  subst u96
  refine ab_iload_n X 2 d_MO_triesOr_99 rfl rfl ?_
  refine ab_callS (as := [ab_I (nI y)]) X (fun h => by cases h) (t_MO_b u y) ls_MO_204 d_MO_triesOr_100 rfl rfl ⟨by first | exact Nat.le_of_ble_eq_true rfl | (simp only [ab_rm]; omega), by first | exact Nat.le_of_ble_eq_true rfl | (simp only [ab_rm]; omega)⟩ ⟨by first | exact Nat.le_of_ble_eq_true rfl | (simp only [ab_rm]; omega), by first | exact Nat.le_of_ble_eq_true rfl | (simp only [ab_rm]; omega)⟩ (Nat.le_of_ble_eq_true rfl) (fun u100 r100 h100 => ?_)
  obtain ⟨e100, rfl⟩ := h100
  subst u100
  refine ab_callV (as := [ab_I (nI (3 * x + 1)), ab_I (nI (3 * y))]) X (fun h => by cases h) (s_MO_choice u (3 * x + 1) (3 * y) h (by omega) (by omega) lx.2.1 ly.1) lk_MO_225 d_MO_triesOr_103 rfl rfl (by first | assumption | decide | (show _ < 124; omega) | (show _ < 61; omega) | (show _ < 20; omega)) ⟨by first | exact Nat.le_of_ble_eq_true rfl | (simp only [ab_rm]; omega), by first | exact Nat.le_of_ble_eq_true rfl | (simp only [ab_rm]; omega)⟩ ⟨by first | exact Nat.le_of_ble_eq_true rfl | (simp only [ab_rm]; omega), by first | exact Nat.le_of_ble_eq_true rfl | (simp only [ab_rm]; omega)⟩ (Nat.le_of_ble_eq_true rfl) (fun u103 r103 h103 => ?_)
  obtain ⟨⟨q103, a103⟩, rfl⟩ := h103
  have P103 := P0.trans q103 (by decide)
  refine ab_iload_n X 3 d_MO_triesOr_106 rfl rfl ?_
  refine ab_bipush (v := 6) X d_MO_triesOr_107 (by decide) ?_
  refine ab_icmp_ne X 124 d_MO_triesOr_109 rfl (fun _ => ?_) (fun hb => absurd hb ((by decide)))
  refine ab_iload_n X 3 d_MO_triesOr_124 rfl rfl ?_
  refine ab_bipush (v := 15) X d_MO_triesOr_125 (by decide) ?_
  refine ab_icmp_ne X 149 d_MO_triesOr_127 rfl (fun _ => ?_) (fun hb => absurd hb ((by decide)))
  refine ab_iload_n X 3 d_MO_triesOr_149 rfl rfl ?_
  refine ab_bipush (v := 16) X d_MO_triesOr_150 (by decide) ?_
  refine ab_icmp_ne X 174 d_MO_triesOr_152 rfl (fun _ => ?_) (fun hb => absurd hb ((by decide)))
  refine ab_iload_n X 3 d_MO_triesOr_174 rfl rfl ?_
  refine ab_bipush (v := 17) X d_MO_triesOr_175 (by decide) ?_
  refine ab_icmp_ne X 192 d_MO_triesOr_177 rfl (fun _ => ?_) (fun hb => absurd hb ((by decide)))
  refine ab_iload_n X 3 d_MO_triesOr_192 rfl rfl ?_
  refine ab_bipush (v := 22) X d_MO_triesOr_193 (by decide) ?_
  refine ab_icmp_ne X 217 d_MO_triesOr_195 rfl (fun _ => ?_) (fun hb => absurd hb ((by decide)))
  refine ab_iload_n X 3 d_MO_triesOr_217 rfl rfl ?_
  refine ab_bipush (v := 23) X d_MO_triesOr_218 (by decide) ?_
  refine ab_icmp_ne X 235 d_MO_triesOr_220 rfl (fun _ => ?_) (fun hb => absurd hb ((by decide)))
  exact ab_retv X hr0 hlk d_MO_triesOr_235 ⟨⟨P103, a103⟩, rfl⟩
set_option maxRecDepth 100000 in
set_option maxHeartbeats 1000000 in
theorem s_MO_triesOr6 (u : ab_S) (x y : Nat) (h : mR u.2.1) (hx : x < 19) (hy : y < 19) (lx : lk u (3 * x) ∧ lk u (3 * x + 1) ∧ lk u (3 * x + 2)) (ly : lk u (3 * y) ∧ lk u (3 * y + 1) ∧ lk u (3 * y + 2)) : ab_C false l D ca y_MO_triesOr b_MO_triesOr 4 none 2 ab_nQ u [ab_O 17 0, ab_I (nI x), ab_I (nI y), ab_I (nI 6)] (fun u' v => (gP [18, 19] u u' ∧ u'.1 17 0 18 = nI  (lnu u (3 * x) + lnu u (3 * y + 1) + 3)) ∧ v = none) := by
  refine ab_C.of (by decide) (Nat.le_of_ble_eq_true rfl) ?_
  intro p e s m args below meth c ad X hZ hr0 hlk
  have P0 : gP [18, 19] u u := gP.rf h
  refine ab_iload_n X 3 d_MO_triesOr_0 rfl rfl ?_
  refine ab_iconst (v := 3) X d_MO_triesOr_1 (by decide) ?_
  refine ab_icmp_ne X 65 d_MO_triesOr_2 rfl (fun _ => ?_) (fun hb => absurd hb ((by decide)))
  refine ab_iload_n X 3 d_MO_triesOr_65 rfl rfl ?_
  refine ab_iconst (v := 4) X d_MO_triesOr_66 (by decide) ?_
  refine ab_icmp_ne X 89 d_MO_triesOr_67 rfl (fun _ => ?_) (fun hb => absurd hb ((by decide)))
  refine ab_iload_n X 3 d_MO_triesOr_89 rfl rfl ?_
  refine ab_iconst (v := 5) X d_MO_triesOr_90 (by decide) ?_
  refine ab_icmp_ne X 106 d_MO_triesOr_91 rfl (fun _ => ?_) (fun hb => absurd hb ((by decide)))
  refine ab_iload_n X 3 d_MO_triesOr_106 rfl rfl ?_
  refine ab_bipush (v := 6) X d_MO_triesOr_107 (by decide) ?_
  refine ab_icmp_ne X 124 d_MO_triesOr_109 rfl (fun hb => absurd ((by decide)) hb) (fun _ => ?_)
  refine ab_aload_n X 0 d_MO_triesOr_112 rfl rfl ?_
  refine ab_iload_n X 1 d_MO_triesOr_113 rfl rfl ?_
  refine ab_callS (as := [ab_I (nI x)]) X (fun h => by cases h) (t_MO_b u x) ls_MO_204 d_MO_triesOr_114 rfl rfl ⟨by first | exact Nat.le_of_ble_eq_true rfl | (simp only [ab_rm]; omega), by first | exact Nat.le_of_ble_eq_true rfl | (simp only [ab_rm]; omega)⟩ ⟨by first | exact Nat.le_of_ble_eq_true rfl | (simp only [ab_rm]; omega), by first | exact Nat.le_of_ble_eq_true rfl | (simp only [ab_rm]; omega)⟩ (Nat.le_of_ble_eq_true rfl) (fun u114 r114 h114 => ?_)
  obtain ⟨e114, rfl⟩ := h114
  subst u114
  refine ab_iload_n X 2 d_MO_triesOr_117 rfl rfl ?_
  refine ab_callS (as := [ab_I (nI y)]) X (fun h => by cases h) (t_MO_d u y) ls_MO_195 d_MO_triesOr_118 rfl rfl ⟨by first | exact Nat.le_of_ble_eq_true rfl | (simp only [ab_rm]; omega), by first | exact Nat.le_of_ble_eq_true rfl | (simp only [ab_rm]; omega)⟩ ⟨by first | exact Nat.le_of_ble_eq_true rfl | (simp only [ab_rm]; omega), by first | exact Nat.le_of_ble_eq_true rfl | (simp only [ab_rm]; omega)⟩ (Nat.le_of_ble_eq_true rfl) (fun u118 r118 h118 => ?_)
  obtain ⟨e118, rfl⟩ := h118
  subst u118
  refine ab_callV (as := [ab_I (nI (3 * x)), ab_I (nI (3 * y + 1))]) X (fun h => by cases h) (s_MO_choice u (3 * x) (3 * y + 1) h (by omega) (by omega) lx.1 ly.2.1) lk_MO_225 d_MO_triesOr_121 rfl rfl (by first | assumption | decide | (show _ < 124; omega) | (show _ < 61; omega) | (show _ < 20; omega)) ⟨by first | exact Nat.le_of_ble_eq_true rfl | (simp only [ab_rm]; omega), by first | exact Nat.le_of_ble_eq_true rfl | (simp only [ab_rm]; omega)⟩ ⟨by first | exact Nat.le_of_ble_eq_true rfl | (simp only [ab_rm]; omega), by first | exact Nat.le_of_ble_eq_true rfl | (simp only [ab_rm]; omega)⟩ (Nat.le_of_ble_eq_true rfl) (fun u121 r121 h121 => ?_)
  obtain ⟨⟨q121, a121⟩, rfl⟩ := h121
  have P121 := P0.trans q121 (by decide)
  refine ab_iload_n X 3 d_MO_triesOr_124 rfl rfl ?_
  refine ab_bipush (v := 15) X d_MO_triesOr_125 (by decide) ?_
  refine ab_icmp_ne X 149 d_MO_triesOr_127 rfl (fun _ => ?_) (fun hb => absurd hb ((by decide)))
  refine ab_iload_n X 3 d_MO_triesOr_149 rfl rfl ?_
  refine ab_bipush (v := 16) X d_MO_triesOr_150 (by decide) ?_
  refine ab_icmp_ne X 174 d_MO_triesOr_152 rfl (fun _ => ?_) (fun hb => absurd hb ((by decide)))
  refine ab_iload_n X 3 d_MO_triesOr_174 rfl rfl ?_
  refine ab_bipush (v := 17) X d_MO_triesOr_175 (by decide) ?_
  refine ab_icmp_ne X 192 d_MO_triesOr_177 rfl (fun _ => ?_) (fun hb => absurd hb ((by decide)))
  refine ab_iload_n X 3 d_MO_triesOr_192 rfl rfl ?_
  refine ab_bipush (v := 22) X d_MO_triesOr_193 (by decide) ?_
  refine ab_icmp_ne X 217 d_MO_triesOr_195 rfl (fun _ => ?_) (fun hb => absurd hb ((by decide)))
  refine ab_iload_n X 3 d_MO_triesOr_217 rfl rfl ?_
  refine ab_bipush (v := 23) X d_MO_triesOr_218 (by decide) ?_
  refine ab_icmp_ne X 235 d_MO_triesOr_220 rfl (fun _ => ?_) (fun hb => absurd hb ((by decide)))
  exact ab_retv X hr0 hlk d_MO_triesOr_235 ⟨⟨P121, a121⟩, rfl⟩
set_option maxRecDepth 100000 in
set_option maxHeartbeats 1000000 in
theorem s_MO_triesOr15 (u : ab_S) (x y : Nat) (h : mR u.2.1) (hx : x < 19) (hy : y < 19) (lx : lk u (3 * x) ∧ lk u (3 * x + 1) ∧ lk u (3 * x + 2)) (ly : lk u (3 * y) ∧ lk u (3 * y + 1) ∧ lk u (3 * y + 2)) : ab_C false l D ca y_MO_triesOr b_MO_triesOr 4 none 2 ab_nQ u [ab_O 17 0, ab_I (nI x), ab_I (nI y), ab_I (nI 15)] (fun u' v => (gP [18, 19] u u' ∧ u'.1 17 0 18 = nI  (lnu u (3 * x + 1) + lnu u (3 * y) + 3)) ∧ v = none) := by
  refine ab_C.of (by decide) (Nat.le_of_ble_eq_true rfl) ?_
  intro p e s m args below meth c ad X hZ hr0 hlk
  have P0 : gP [18, 19] u u := gP.rf h
  refine ab_iload_n X 3 d_MO_triesOr_0 rfl rfl ?_
  refine ab_iconst (v := 3) X d_MO_triesOr_1 (by decide) ?_
  refine ab_icmp_ne X 65 d_MO_triesOr_2 rfl (fun _ => ?_) (fun hb => absurd hb ((by decide)))
  refine ab_iload_n X 3 d_MO_triesOr_65 rfl rfl ?_
  refine ab_iconst (v := 4) X d_MO_triesOr_66 (by decide) ?_
  refine ab_icmp_ne X 89 d_MO_triesOr_67 rfl (fun _ => ?_) (fun hb => absurd hb ((by decide)))
  refine ab_iload_n X 3 d_MO_triesOr_89 rfl rfl ?_
  refine ab_iconst (v := 5) X d_MO_triesOr_90 (by decide) ?_
  refine ab_icmp_ne X 106 d_MO_triesOr_91 rfl (fun _ => ?_) (fun hb => absurd hb ((by decide)))
  refine ab_iload_n X 3 d_MO_triesOr_106 rfl rfl ?_
  refine ab_bipush (v := 6) X d_MO_triesOr_107 (by decide) ?_
  refine ab_icmp_ne X 124 d_MO_triesOr_109 rfl (fun _ => ?_) (fun hb => absurd hb ((by decide)))
  refine ab_iload_n X 3 d_MO_triesOr_124 rfl rfl ?_
  refine ab_bipush (v := 15) X d_MO_triesOr_125 (by decide) ?_
  refine ab_icmp_ne X 149 d_MO_triesOr_127 rfl (fun hb => absurd ((by decide)) hb) (fun _ => ?_)
  refine ab_aload_n X 0 d_MO_triesOr_130 rfl rfl ?_
  refine ab_iload_n X 1 d_MO_triesOr_131 rfl rfl ?_
  refine ab_callS (as := [ab_I (nI x)]) X (fun h => by cases h) (t_MO_d u x) ls_MO_195 d_MO_triesOr_132 rfl rfl ⟨by first | exact Nat.le_of_ble_eq_true rfl | (simp only [ab_rm]; omega), by first | exact Nat.le_of_ble_eq_true rfl | (simp only [ab_rm]; omega)⟩ ⟨by first | exact Nat.le_of_ble_eq_true rfl | (simp only [ab_rm]; omega), by first | exact Nat.le_of_ble_eq_true rfl | (simp only [ab_rm]; omega)⟩ (Nat.le_of_ble_eq_true rfl) (fun u132 r132 h132 => ?_)
  obtain ⟨e132, rfl⟩ := h132
  subst u132
  refine ab_aload_n X 0 d_MO_triesOr_135 rfl rfl ?_
  refine ab_gR X fl_MO_54 d_MO_triesOr_136 (by first | assumption | decide | (show _ < 124; omega) | (show _ < 61; omega) | (show _ < 20; omega)) (P0.1.mo14) ?_
  refine ab_iload_n X 1 d_MO_triesOr_139 rfl rfl ?_
  refine ab_iald X (x) ⟨rfl, rfl⟩ d_MO_triesOr_140 (by first | assumption | decide | (show _ < 124; omega) | (show _ < 61; omega) | (show _ < 20; omega)) (rfl) (show x < 24 by omega) (ab_ln_lt _ _) ?_
  refine ab_iload_n X 2 d_MO_triesOr_141 rfl rfl ?_
  refine ab_callS (as := [ab_I (nI y)]) X (fun h => by cases h) (t_MO_b u y) ls_MO_204 d_MO_triesOr_142 rfl rfl ⟨by first | exact Nat.le_of_ble_eq_true rfl | (simp only [ab_rm]; omega), by first | exact Nat.le_of_ble_eq_true rfl | (simp only [ab_rm]; omega)⟩ ⟨by first | exact Nat.le_of_ble_eq_true rfl | (simp only [ab_rm]; omega), by first | exact Nat.le_of_ble_eq_true rfl | (simp only [ab_rm]; omega)⟩ (Nat.le_of_ble_eq_true rfl) (fun u142 r142 h142 => ?_)
  obtain ⟨e142, rfl⟩ := h142
  subst u142
  refine ab_iconst (v := 3) X d_MO_triesOr_145 (by decide) ?_
  refine ab_callV (as := [ab_I (nI (3 * x + 1)), ab_I _, ab_I (nI (3 * y)), ab_I (nI 3)]) X (fun h => by cases h) (s_MO_either u (3 * x + 1) (3 * y) 3 _ h (by omega) (by omega) lx.2.1 ly.1) lk_MO_221 d_MO_triesOr_146 rfl rfl (by first | assumption | decide | (show _ < 124; omega) | (show _ < 61; omega) | (show _ < 20; omega)) ⟨by first | exact Nat.le_of_ble_eq_true rfl | (simp only [ab_rm]; omega), by first | exact Nat.le_of_ble_eq_true rfl | (simp only [ab_rm]; omega)⟩ ⟨by first | exact Nat.le_of_ble_eq_true rfl | (simp only [ab_rm]; omega), by first | exact Nat.le_of_ble_eq_true rfl | (simp only [ab_rm]; omega)⟩ (Nat.le_of_ble_eq_true rfl) (fun u146 r146 h146 => ?_)
  obtain ⟨⟨q146, a146⟩, rfl⟩ := h146
  have P146 := P0.trans q146 (by decide)
  refine ab_iload_n X 3 d_MO_triesOr_149 rfl rfl ?_
  refine ab_bipush (v := 16) X d_MO_triesOr_150 (by decide) ?_
  refine ab_icmp_ne X 174 d_MO_triesOr_152 rfl (fun _ => ?_) (fun hb => absurd hb ((by decide)))
  refine ab_iload_n X 3 d_MO_triesOr_174 rfl rfl ?_
  refine ab_bipush (v := 17) X d_MO_triesOr_175 (by decide) ?_
  refine ab_icmp_ne X 192 d_MO_triesOr_177 rfl (fun _ => ?_) (fun hb => absurd hb ((by decide)))
  refine ab_iload_n X 3 d_MO_triesOr_192 rfl rfl ?_
  refine ab_bipush (v := 22) X d_MO_triesOr_193 (by decide) ?_
  refine ab_icmp_ne X 217 d_MO_triesOr_195 rfl (fun _ => ?_) (fun hb => absurd hb ((by decide)))
  refine ab_iload_n X 3 d_MO_triesOr_217 rfl rfl ?_
  refine ab_bipush (v := 23) X d_MO_triesOr_218 (by decide) ?_
  refine ab_icmp_ne X 235 d_MO_triesOr_220 rfl (fun _ => ?_) (fun hb => absurd hb ((by decide)))
  exact ab_retv X hr0 hlk d_MO_triesOr_235 ⟨⟨P146, a146⟩, rfl⟩
set_option maxRecDepth 100000 in
set_option maxHeartbeats 1000000 in
theorem s_MO_triesOr16 (u : ab_S) (x y : Nat) (h : mR u.2.1) (hx : x < 19) (hy : y < 19) (lx : lk u (3 * x) ∧ lk u (3 * x + 1) ∧ lk u (3 * x + 2)) (ly : lk u (3 * y) ∧ lk u (3 * y + 1) ∧ lk u (3 * y + 2)) : ab_C false l D ca y_MO_triesOr b_MO_triesOr 4 none 2 ab_nQ u [ab_O 17 0, ab_I (nI x), ab_I (nI y), ab_I (nI 16)] (fun u' v => (gP [18, 19] u u' ∧ u'.1 17 0 18 = nI  (lnu u (3 * y + 1) + lnu u (3 * x) + 3)) ∧ v = none) := by
  refine ab_C.of (by decide) (Nat.le_of_ble_eq_true rfl) ?_
  intro p e s m args below meth c ad X hZ hr0 hlk
  have P0 : gP [18, 19] u u := gP.rf h
  refine ab_iload_n X 3 d_MO_triesOr_0 rfl rfl ?_
  refine ab_iconst (v := 3) X d_MO_triesOr_1 (by decide) ?_
  refine ab_icmp_ne X 65 d_MO_triesOr_2 rfl (fun _ => ?_) (fun hb => absurd hb ((by decide)))
  refine ab_iload_n X 3 d_MO_triesOr_65 rfl rfl ?_
  refine ab_iconst (v := 4) X d_MO_triesOr_66 (by decide) ?_
  refine ab_icmp_ne X 89 d_MO_triesOr_67 rfl (fun _ => ?_) (fun hb => absurd hb ((by decide)))
  refine ab_iload_n X 3 d_MO_triesOr_89 rfl rfl ?_
  refine ab_iconst (v := 5) X d_MO_triesOr_90 (by decide) ?_
  refine ab_icmp_ne X 106 d_MO_triesOr_91 rfl (fun _ => ?_) (fun hb => absurd hb ((by decide)))
  refine ab_iload_n X 3 d_MO_triesOr_106 rfl rfl ?_
  refine ab_bipush (v := 6) X d_MO_triesOr_107 (by decide) ?_
  refine ab_icmp_ne X 124 d_MO_triesOr_109 rfl (fun _ => ?_) (fun hb => absurd hb ((by decide)))
  refine ab_iload_n X 3 d_MO_triesOr_124 rfl rfl ?_
  refine ab_bipush (v := 15) X d_MO_triesOr_125 (by decide) ?_
  refine ab_icmp_ne X 149 d_MO_triesOr_127 rfl (fun _ => ?_) (fun hb => absurd hb ((by decide)))
  refine ab_iload_n X 3 d_MO_triesOr_149 rfl rfl ?_
  refine ab_bipush (v := 16) X d_MO_triesOr_150 (by decide) ?_
  refine ab_icmp_ne X 174 d_MO_triesOr_152 rfl (fun hb => absurd ((by decide)) hb) (fun _ => ?_)
  refine ab_aload_n X 0 d_MO_triesOr_155 rfl rfl ?_
  refine ab_iload_n X 2 d_MO_triesOr_156 rfl rfl ?_
  refine ab_callS (as := [ab_I (nI y)]) X (fun h => by cases h) (t_MO_d u y) ls_MO_195 d_MO_triesOr_157 rfl rfl ⟨by first | exact Nat.le_of_ble_eq_true rfl | (simp only [ab_rm]; omega), by first | exact Nat.le_of_ble_eq_true rfl | (simp only [ab_rm]; omega)⟩ ⟨by first | exact Nat.le_of_ble_eq_true rfl | (simp only [ab_rm]; omega), by first | exact Nat.le_of_ble_eq_true rfl | (simp only [ab_rm]; omega)⟩ (Nat.le_of_ble_eq_true rfl) (fun u157 r157 h157 => ?_)
  obtain ⟨e157, rfl⟩ := h157
  subst u157
  refine ab_aload_n X 0 d_MO_triesOr_160 rfl rfl ?_
  refine ab_gR X fl_MO_54 d_MO_triesOr_161 (by first | assumption | decide | (show _ < 124; omega) | (show _ < 61; omega) | (show _ < 20; omega)) (P0.1.mo14) ?_
  refine ab_iload_n X 2 d_MO_triesOr_164 rfl rfl ?_
  refine ab_iald X (y) ⟨rfl, rfl⟩ d_MO_triesOr_165 (by first | assumption | decide | (show _ < 124; omega) | (show _ < 61; omega) | (show _ < 20; omega)) (rfl) (show y < 24 by omega) (ab_ln_lt _ _) ?_
  refine ab_iload_n X 1 d_MO_triesOr_166 rfl rfl ?_
  refine ab_callS (as := [ab_I (nI x)]) X (fun h => by cases h) (t_MO_b u x) ls_MO_204 d_MO_triesOr_167 rfl rfl ⟨by first | exact Nat.le_of_ble_eq_true rfl | (simp only [ab_rm]; omega), by first | exact Nat.le_of_ble_eq_true rfl | (simp only [ab_rm]; omega)⟩ ⟨by first | exact Nat.le_of_ble_eq_true rfl | (simp only [ab_rm]; omega), by first | exact Nat.le_of_ble_eq_true rfl | (simp only [ab_rm]; omega)⟩ (Nat.le_of_ble_eq_true rfl) (fun u167 r167 h167 => ?_)
  obtain ⟨e167, rfl⟩ := h167
  subst u167
  refine ab_iconst (v := 3) X d_MO_triesOr_170 (by decide) ?_
  refine ab_callV (as := [ab_I (nI (3 * y + 1)), ab_I _, ab_I (nI (3 * x)), ab_I (nI 3)]) X (fun h => by cases h) (s_MO_either u (3 * y + 1) (3 * x) 3 _ h (by omega) (by omega) ly.2.1 lx.1) lk_MO_221 d_MO_triesOr_171 rfl rfl (by first | assumption | decide | (show _ < 124; omega) | (show _ < 61; omega) | (show _ < 20; omega)) ⟨by first | exact Nat.le_of_ble_eq_true rfl | (simp only [ab_rm]; omega), by first | exact Nat.le_of_ble_eq_true rfl | (simp only [ab_rm]; omega)⟩ ⟨by first | exact Nat.le_of_ble_eq_true rfl | (simp only [ab_rm]; omega), by first | exact Nat.le_of_ble_eq_true rfl | (simp only [ab_rm]; omega)⟩ (Nat.le_of_ble_eq_true rfl) (fun u171 r171 h171 => ?_)
  obtain ⟨⟨q171, a171⟩, rfl⟩ := h171
  have P171 := P0.trans q171 (by decide)
  refine ab_iload_n X 3 d_MO_triesOr_174 rfl rfl ?_
  refine ab_bipush (v := 17) X d_MO_triesOr_175 (by decide) ?_
  refine ab_icmp_ne X 192 d_MO_triesOr_177 rfl (fun _ => ?_) (fun hb => absurd hb ((by decide)))
  refine ab_iload_n X 3 d_MO_triesOr_192 rfl rfl ?_
  refine ab_bipush (v := 22) X d_MO_triesOr_193 (by decide) ?_
  refine ab_icmp_ne X 217 d_MO_triesOr_195 rfl (fun _ => ?_) (fun hb => absurd hb ((by decide)))
  refine ab_iload_n X 3 d_MO_triesOr_217 rfl rfl ?_
  refine ab_bipush (v := 23) X d_MO_triesOr_218 (by decide) ?_
  refine ab_icmp_ne X 235 d_MO_triesOr_220 rfl (fun _ => ?_) (fun hb => absurd hb ((by decide)))
  exact ab_retv X hr0 hlk d_MO_triesOr_235 ⟨⟨P171, a171⟩, rfl⟩
set_option maxRecDepth 100000 in
set_option maxHeartbeats 1000000 in
theorem s_MO_triesOr17 (u : ab_S) (x y : Nat) (h : mR u.2.1) (hx : x < 19) (hy : y < 19) (lx : lk u (3 * x) ∧ lk u (3 * x + 1) ∧ lk u (3 * x + 2)) (ly : lk u (3 * y) ∧ lk u (3 * y + 1) ∧ lk u (3 * y + 2)) : ab_C false l D ca y_MO_triesOr b_MO_triesOr 4 none 2 ab_nQ u [ab_O 17 0, ab_I (nI x), ab_I (nI y), ab_I (nI 17)] (fun u' v => (gP [18, 19] u u' ∧ u'.1 17 0 18 = nI  (lnu u (3 * x) + lnu u (3 * y) + 3)) ∧ v = none) := by
  refine ab_C.of (by decide) (Nat.le_of_ble_eq_true rfl) ?_
  intro p e s m args below meth c ad X hZ hr0 hlk
  have P0 : gP [18, 19] u u := gP.rf h
  refine ab_iload_n X 3 d_MO_triesOr_0 rfl rfl ?_
  refine ab_iconst (v := 3) X d_MO_triesOr_1 (by decide) ?_
  refine ab_icmp_ne X 65 d_MO_triesOr_2 rfl (fun _ => ?_) (fun hb => absurd hb ((by decide)))
  refine ab_iload_n X 3 d_MO_triesOr_65 rfl rfl ?_
  refine ab_iconst (v := 4) X d_MO_triesOr_66 (by decide) ?_
  refine ab_icmp_ne X 89 d_MO_triesOr_67 rfl (fun _ => ?_) (fun hb => absurd hb ((by decide)))
  refine ab_iload_n X 3 d_MO_triesOr_89 rfl rfl ?_
  refine ab_iconst (v := 5) X d_MO_triesOr_90 (by decide) ?_
  refine ab_icmp_ne X 106 d_MO_triesOr_91 rfl (fun _ => ?_) (fun hb => absurd hb ((by decide)))
  refine ab_iload_n X 3 d_MO_triesOr_106 rfl rfl ?_
  refine ab_bipush (v := 6) X d_MO_triesOr_107 (by decide) ?_
  refine ab_icmp_ne X 124 d_MO_triesOr_109 rfl (fun _ => ?_) (fun hb => absurd hb ((by decide)))
  refine ab_iload_n X 3 d_MO_triesOr_124 rfl rfl ?_
  refine ab_bipush (v := 15) X d_MO_triesOr_125 (by decide) ?_
  refine ab_icmp_ne X 149 d_MO_triesOr_127 rfl (fun _ => ?_) (fun hb => absurd hb ((by decide)))
  refine ab_iload_n X 3 d_MO_triesOr_149 rfl rfl ?_
  refine ab_bipush (v := 16) X d_MO_triesOr_150 (by decide) ?_
  refine ab_icmp_ne X 174 d_MO_triesOr_152 rfl (fun _ => ?_) (fun hb => absurd hb ((by decide)))
  refine ab_iload_n X 3 d_MO_triesOr_174 rfl rfl ?_
  refine ab_bipush (v := 17) X d_MO_triesOr_175 (by decide) ?_
  refine ab_icmp_ne X 192 d_MO_triesOr_177 rfl (fun hb => absurd ((by decide)) hb) (fun _ => ?_)
  refine ab_aload_n X 0 d_MO_triesOr_180 rfl rfl ?_
  refine ab_iload_n X 1 d_MO_triesOr_181 rfl rfl ?_
  refine ab_callS (as := [ab_I (nI x)]) X (fun h => by cases h) (t_MO_b u x) ls_MO_204 d_MO_triesOr_182 rfl rfl ⟨by first | exact Nat.le_of_ble_eq_true rfl | (simp only [ab_rm]; omega), by first | exact Nat.le_of_ble_eq_true rfl | (simp only [ab_rm]; omega)⟩ ⟨by first | exact Nat.le_of_ble_eq_true rfl | (simp only [ab_rm]; omega), by first | exact Nat.le_of_ble_eq_true rfl | (simp only [ab_rm]; omega)⟩ (Nat.le_of_ble_eq_true rfl) (fun u182 r182 h182 => ?_)
  obtain ⟨e182, rfl⟩ := h182
  subst u182
  refine ab_iload_n X 2 d_MO_triesOr_185 rfl rfl ?_
  refine ab_callS (as := [ab_I (nI y)]) X (fun h => by cases h) (t_MO_b u y) ls_MO_204 d_MO_triesOr_186 rfl rfl ⟨by first | exact Nat.le_of_ble_eq_true rfl | (simp only [ab_rm]; omega), by first | exact Nat.le_of_ble_eq_true rfl | (simp only [ab_rm]; omega)⟩ ⟨by first | exact Nat.le_of_ble_eq_true rfl | (simp only [ab_rm]; omega), by first | exact Nat.le_of_ble_eq_true rfl | (simp only [ab_rm]; omega)⟩ (Nat.le_of_ble_eq_true rfl) (fun u186 r186 h186 => ?_)
  obtain ⟨e186, rfl⟩ := h186
  subst u186
  refine ab_callV (as := [ab_I (nI (3 * x)), ab_I (nI (3 * y))]) X (fun h => by cases h) (s_MO_choice u (3 * x) (3 * y) h (by omega) (by omega) lx.1 ly.1) lk_MO_225 d_MO_triesOr_189 rfl rfl (by first | assumption | decide | (show _ < 124; omega) | (show _ < 61; omega) | (show _ < 20; omega)) ⟨by first | exact Nat.le_of_ble_eq_true rfl | (simp only [ab_rm]; omega), by first | exact Nat.le_of_ble_eq_true rfl | (simp only [ab_rm]; omega)⟩ ⟨by first | exact Nat.le_of_ble_eq_true rfl | (simp only [ab_rm]; omega), by first | exact Nat.le_of_ble_eq_true rfl | (simp only [ab_rm]; omega)⟩ (Nat.le_of_ble_eq_true rfl) (fun u189 r189 h189 => ?_)
  obtain ⟨⟨q189, a189⟩, rfl⟩ := h189
  have P189 := P0.trans q189 (by decide)
  refine ab_iload_n X 3 d_MO_triesOr_192 rfl rfl ?_
  refine ab_bipush (v := 22) X d_MO_triesOr_193 (by decide) ?_
  refine ab_icmp_ne X 217 d_MO_triesOr_195 rfl (fun _ => ?_) (fun hb => absurd hb ((by decide)))
  refine ab_iload_n X 3 d_MO_triesOr_217 rfl rfl ?_
  refine ab_bipush (v := 23) X d_MO_triesOr_218 (by decide) ?_
  refine ab_icmp_ne X 235 d_MO_triesOr_220 rfl (fun _ => ?_) (fun hb => absurd hb ((by decide)))
  exact ab_retv X hr0 hlk d_MO_triesOr_235 ⟨⟨P189, a189⟩, rfl⟩
set_option maxRecDepth 100000 in
set_option maxHeartbeats 1000000 in
theorem s_MO_triesOr22 (u : ab_S) (x y : Nat) (h : mR u.2.1) (hx : x < 19) (hy : y < 19) (lx : lk u (3 * x) ∧ lk u (3 * x + 1) ∧ lk u (3 * x + 2)) (ly : lk u (3 * y) ∧ lk u (3 * y + 1) ∧ lk u (3 * y + 2)) : ab_C false l D ca y_MO_triesOr b_MO_triesOr 4 none 2 ab_nQ u [ab_O 17 0, ab_I (nI x), ab_I (nI y), ab_I (nI 22)] (fun u' v => (gP [18, 19] u u' ∧ u'.1 17 0 18 = nI  (lnu u (3 * x + 1) + lnu u (3 * y + 2) + 2)) ∧ v = none) := by
  refine ab_C.of (by decide) (Nat.le_of_ble_eq_true rfl) ?_
  intro p e s m args below meth c ad X hZ hr0 hlk
  have P0 : gP [18, 19] u u := gP.rf h
  refine ab_iload_n X 3 d_MO_triesOr_0 rfl rfl ?_
  refine ab_iconst (v := 3) X d_MO_triesOr_1 (by decide) ?_
  refine ab_icmp_ne X 65 d_MO_triesOr_2 rfl (fun _ => ?_) (fun hb => absurd hb ((by decide)))
  refine ab_iload_n X 3 d_MO_triesOr_65 rfl rfl ?_
  refine ab_iconst (v := 4) X d_MO_triesOr_66 (by decide) ?_
  refine ab_icmp_ne X 89 d_MO_triesOr_67 rfl (fun _ => ?_) (fun hb => absurd hb ((by decide)))
  refine ab_iload_n X 3 d_MO_triesOr_89 rfl rfl ?_
  refine ab_iconst (v := 5) X d_MO_triesOr_90 (by decide) ?_
  refine ab_icmp_ne X 106 d_MO_triesOr_91 rfl (fun _ => ?_) (fun hb => absurd hb ((by decide)))
  refine ab_iload_n X 3 d_MO_triesOr_106 rfl rfl ?_
  refine ab_bipush (v := 6) X d_MO_triesOr_107 (by decide) ?_
  refine ab_icmp_ne X 124 d_MO_triesOr_109 rfl (fun _ => ?_) (fun hb => absurd hb ((by decide)))
  refine ab_iload_n X 3 d_MO_triesOr_124 rfl rfl ?_
  refine ab_bipush (v := 15) X d_MO_triesOr_125 (by decide) ?_
  refine ab_icmp_ne X 149 d_MO_triesOr_127 rfl (fun _ => ?_) (fun hb => absurd hb ((by decide)))
  refine ab_iload_n X 3 d_MO_triesOr_149 rfl rfl ?_
  refine ab_bipush (v := 16) X d_MO_triesOr_150 (by decide) ?_
  refine ab_icmp_ne X 174 d_MO_triesOr_152 rfl (fun _ => ?_) (fun hb => absurd hb ((by decide)))
  refine ab_iload_n X 3 d_MO_triesOr_174 rfl rfl ?_
  refine ab_bipush (v := 17) X d_MO_triesOr_175 (by decide) ?_
  refine ab_icmp_ne X 192 d_MO_triesOr_177 rfl (fun _ => ?_) (fun hb => absurd hb ((by decide)))
  refine ab_iload_n X 3 d_MO_triesOr_192 rfl rfl ?_
  refine ab_bipush (v := 22) X d_MO_triesOr_193 (by decide) ?_
  refine ab_icmp_ne X 217 d_MO_triesOr_195 rfl (fun hb => absurd ((by decide)) hb) (fun _ => ?_)
  refine ab_aload_n X 0 d_MO_triesOr_198 rfl rfl ?_
  refine ab_iload_n X 1 d_MO_triesOr_199 rfl rfl ?_
  refine ab_callS (as := [ab_I (nI x)]) X (fun h => by cases h) (t_MO_d u x) ls_MO_195 d_MO_triesOr_200 rfl rfl ⟨by first | exact Nat.le_of_ble_eq_true rfl | (simp only [ab_rm]; omega), by first | exact Nat.le_of_ble_eq_true rfl | (simp only [ab_rm]; omega)⟩ ⟨by first | exact Nat.le_of_ble_eq_true rfl | (simp only [ab_rm]; omega), by first | exact Nat.le_of_ble_eq_true rfl | (simp only [ab_rm]; omega)⟩ (Nat.le_of_ble_eq_true rfl) (fun u200 r200 h200 => ?_)
  obtain ⟨e200, rfl⟩ := h200
  subst u200
  refine ab_aload_n X 0 d_MO_triesOr_203 rfl rfl ?_
  refine ab_gR X fl_MO_54 d_MO_triesOr_204 (by first | assumption | decide | (show _ < 124; omega) | (show _ < 61; omega) | (show _ < 20; omega)) (P0.1.mo14) ?_
  refine ab_iload_n X 1 d_MO_triesOr_207 rfl rfl ?_
  refine ab_iald X (x) ⟨rfl, rfl⟩ d_MO_triesOr_208 (by first | assumption | decide | (show _ < 124; omega) | (show _ < 61; omega) | (show _ < 20; omega)) (rfl) (show x < 24 by omega) (ab_ln_lt _ _) ?_
  refine ab_iload_n X 2 d_MO_triesOr_209 rfl rfl ?_
  refine ab_callS (as := [ab_I (nI y)]) X (fun h => by cases h) (t_MO_v u y) ls_MO_201 d_MO_triesOr_210 rfl rfl ⟨by first | exact Nat.le_of_ble_eq_true rfl | (simp only [ab_rm]; omega), by first | exact Nat.le_of_ble_eq_true rfl | (simp only [ab_rm]; omega)⟩ ⟨by first | exact Nat.le_of_ble_eq_true rfl | (simp only [ab_rm]; omega), by first | exact Nat.le_of_ble_eq_true rfl | (simp only [ab_rm]; omega)⟩ (Nat.le_of_ble_eq_true rfl) (fun u210 r210 h210 => ?_)
  obtain ⟨e210, rfl⟩ := h210
  subst u210
  refine ab_iconst (v := 2) X d_MO_triesOr_213 (by decide) ?_
  refine ab_callV (as := [ab_I (nI (3 * x + 1)), ab_I _, ab_I (nI (3 * y + 2)), ab_I (nI 2)]) X (fun h => by cases h) (s_MO_either u (3 * x + 1) (3 * y + 2) 2 _ h (by omega) (by omega) lx.2.1 ly.2.2) lk_MO_221 d_MO_triesOr_214 rfl rfl (by first | assumption | decide | (show _ < 124; omega) | (show _ < 61; omega) | (show _ < 20; omega)) ⟨by first | exact Nat.le_of_ble_eq_true rfl | (simp only [ab_rm]; omega), by first | exact Nat.le_of_ble_eq_true rfl | (simp only [ab_rm]; omega)⟩ ⟨by first | exact Nat.le_of_ble_eq_true rfl | (simp only [ab_rm]; omega), by first | exact Nat.le_of_ble_eq_true rfl | (simp only [ab_rm]; omega)⟩ (Nat.le_of_ble_eq_true rfl) (fun u214 r214 h214 => ?_)
  obtain ⟨⟨q214, a214⟩, rfl⟩ := h214
  have P214 := P0.trans q214 (by decide)
  refine ab_iload_n X 3 d_MO_triesOr_217 rfl rfl ?_
  refine ab_bipush (v := 23) X d_MO_triesOr_218 (by decide) ?_
  refine ab_icmp_ne X 235 d_MO_triesOr_220 rfl (fun _ => ?_) (fun hb => absurd hb ((by decide)))
  exact ab_retv X hr0 hlk d_MO_triesOr_235 ⟨⟨P214, a214⟩, rfl⟩
set_option maxRecDepth 100000 in
set_option maxHeartbeats 1000000 in
theorem s_MO_triesOr23 (u : ab_S) (x y : Nat) (h : mR u.2.1) (hx : x < 19) (hy : y < 19) (lx : lk u (3 * x) ∧ lk u (3 * x + 1) ∧ lk u (3 * x + 2)) (ly : lk u (3 * y) ∧ lk u (3 * y + 1) ∧ lk u (3 * y + 2)) : ab_C false l D ca y_MO_triesOr b_MO_triesOr 4 none 2 ab_nQ u [ab_O 17 0, ab_I (nI x), ab_I (nI y), ab_I (nI 23)] (fun u' v => (gP [18, 19] u u' ∧ u'.1 17 0 18 = nI  (lnu u (3 * x + 2) + lnu u (3 * y + 2) + 3)) ∧ v = none) := by
  refine ab_C.of (by decide) (Nat.le_of_ble_eq_true rfl) ?_
  intro p e s m args below meth c ad X hZ hr0 hlk
  have P0 : gP [18, 19] u u := gP.rf h
  refine ab_iload_n X 3 d_MO_triesOr_0 rfl rfl ?_
  refine ab_iconst (v := 3) X d_MO_triesOr_1 (by decide) ?_
  refine ab_icmp_ne X 65 d_MO_triesOr_2 rfl (fun _ => ?_) (fun hb => absurd hb ((by decide)))
  refine ab_iload_n X 3 d_MO_triesOr_65 rfl rfl ?_
  refine ab_iconst (v := 4) X d_MO_triesOr_66 (by decide) ?_
  refine ab_icmp_ne X 89 d_MO_triesOr_67 rfl (fun _ => ?_) (fun hb => absurd hb ((by decide)))
  refine ab_iload_n X 3 d_MO_triesOr_89 rfl rfl ?_
  refine ab_iconst (v := 5) X d_MO_triesOr_90 (by decide) ?_
  refine ab_icmp_ne X 106 d_MO_triesOr_91 rfl (fun _ => ?_) (fun hb => absurd hb ((by decide)))
  refine ab_iload_n X 3 d_MO_triesOr_106 rfl rfl ?_
  refine ab_bipush (v := 6) X d_MO_triesOr_107 (by decide) ?_
  refine ab_icmp_ne X 124 d_MO_triesOr_109 rfl (fun _ => ?_) (fun hb => absurd hb ((by decide)))
  refine ab_iload_n X 3 d_MO_triesOr_124 rfl rfl ?_
  refine ab_bipush (v := 15) X d_MO_triesOr_125 (by decide) ?_
  refine ab_icmp_ne X 149 d_MO_triesOr_127 rfl (fun _ => ?_) (fun hb => absurd hb ((by decide)))
  refine ab_iload_n X 3 d_MO_triesOr_149 rfl rfl ?_
  refine ab_bipush (v := 16) X d_MO_triesOr_150 (by decide) ?_
  refine ab_icmp_ne X 174 d_MO_triesOr_152 rfl (fun _ => ?_) (fun hb => absurd hb ((by decide)))
  refine ab_iload_n X 3 d_MO_triesOr_174 rfl rfl ?_
  refine ab_bipush (v := 17) X d_MO_triesOr_175 (by decide) ?_
  refine ab_icmp_ne X 192 d_MO_triesOr_177 rfl (fun _ => ?_) (fun hb => absurd hb ((by decide)))
  refine ab_iload_n X 3 d_MO_triesOr_192 rfl rfl ?_
  refine ab_bipush (v := 22) X d_MO_triesOr_193 (by decide) ?_
  refine ab_icmp_ne X 217 d_MO_triesOr_195 rfl (fun _ => ?_) (fun hb => absurd hb ((by decide)))
  refine ab_iload_n X 3 d_MO_triesOr_217 rfl rfl ?_
  refine ab_bipush (v := 23) X d_MO_triesOr_218 (by decide) ?_
  refine ab_icmp_ne X 235 d_MO_triesOr_220 rfl (fun hb => absurd ((by decide)) hb) (fun _ => ?_)
  refine ab_aload_n X 0 d_MO_triesOr_223 rfl rfl ?_
  refine ab_iload_n X 1 d_MO_triesOr_224 rfl rfl ?_
  refine ab_callS (as := [ab_I (nI x)]) X (fun h => by cases h) (t_MO_v u x) ls_MO_201 d_MO_triesOr_225 rfl rfl ⟨by first | exact Nat.le_of_ble_eq_true rfl | (simp only [ab_rm]; omega), by first | exact Nat.le_of_ble_eq_true rfl | (simp only [ab_rm]; omega)⟩ ⟨by first | exact Nat.le_of_ble_eq_true rfl | (simp only [ab_rm]; omega), by first | exact Nat.le_of_ble_eq_true rfl | (simp only [ab_rm]; omega)⟩ (Nat.le_of_ble_eq_true rfl) (fun u225 r225 h225 => ?_)
  obtain ⟨e225, rfl⟩ := h225
  subst u225
  refine ab_iload_n X 2 d_MO_triesOr_228 rfl rfl ?_
  refine ab_callS (as := [ab_I (nI y)]) X (fun h => by cases h) (t_MO_v u y) ls_MO_201 d_MO_triesOr_229 rfl rfl ⟨by first | exact Nat.le_of_ble_eq_true rfl | (simp only [ab_rm]; omega), by first | exact Nat.le_of_ble_eq_true rfl | (simp only [ab_rm]; omega)⟩ ⟨by first | exact Nat.le_of_ble_eq_true rfl | (simp only [ab_rm]; omega), by first | exact Nat.le_of_ble_eq_true rfl | (simp only [ab_rm]; omega)⟩ (Nat.le_of_ble_eq_true rfl) (fun u229 r229 h229 => ?_)
  obtain ⟨e229, rfl⟩ := h229
  subst u229
  refine ab_callV (as := [ab_I (nI (3 * x + 2)), ab_I (nI (3 * y + 2))]) X (fun h => by cases h) (s_MO_choice u (3 * x + 2) (3 * y + 2) h (by omega) (by omega) lx.2.2 ly.2.2) lk_MO_225 d_MO_triesOr_232 rfl rfl (by first | assumption | decide | (show _ < 124; omega) | (show _ < 61; omega) | (show _ < 20; omega)) ⟨by first | exact Nat.le_of_ble_eq_true rfl | (simp only [ab_rm]; omega), by first | exact Nat.le_of_ble_eq_true rfl | (simp only [ab_rm]; omega)⟩ ⟨by first | exact Nat.le_of_ble_eq_true rfl | (simp only [ab_rm]; omega), by first | exact Nat.le_of_ble_eq_true rfl | (simp only [ab_rm]; omega)⟩ (Nat.le_of_ble_eq_true rfl) (fun u232 r232 h232 => ?_)
  obtain ⟨⟨q232, a232⟩, rfl⟩ := h232
  have P232 := P0.trans q232 (by decide)
  exact ab_retv X hr0 hlk d_MO_triesOr_235 ⟨⟨P232, a232⟩, rfl⟩
set_option maxRecDepth 100000 in
set_option maxHeartbeats 1000000 in
theorem t_MO_triesOr1 (u : ab_S) (a b : Int32) : ab_C false l D ca y_MO_triesOr b_MO_triesOr 4 none 2 ab_nQ u [ab_O 17 0, ab_I a, ab_I b, ab_I (nI 1)] (fun u' v => u' = u ∧ v = none) := by
  refine ab_C.of (by decide) (Nat.le_of_ble_eq_true rfl) ?_
  intro p e s m args below meth c ad X hZ hr0 hlk
  refine ab_iload_n X 3 d_MO_triesOr_0 rfl rfl ?_
  refine ab_iconst (v := 3) X d_MO_triesOr_1 (by decide) ?_
  refine ab_icmp_ne X 65 d_MO_triesOr_2 rfl (fun _ => ?_) (fun hb => absurd hb ((by decide)))
  refine ab_iload_n X 3 d_MO_triesOr_65 rfl rfl ?_
  refine ab_iconst (v := 4) X d_MO_triesOr_66 (by decide) ?_
  refine ab_icmp_ne X 89 d_MO_triesOr_67 rfl (fun _ => ?_) (fun hb => absurd hb ((by decide)))
  refine ab_iload_n X 3 d_MO_triesOr_89 rfl rfl ?_
  refine ab_iconst (v := 5) X d_MO_triesOr_90 (by decide) ?_
  refine ab_icmp_ne X 106 d_MO_triesOr_91 rfl (fun _ => ?_) (fun hb => absurd hb ((by decide)))
  refine ab_iload_n X 3 d_MO_triesOr_106 rfl rfl ?_
  refine ab_bipush (v := 6) X d_MO_triesOr_107 (by decide) ?_
  refine ab_icmp_ne X 124 d_MO_triesOr_109 rfl (fun _ => ?_) (fun hb => absurd hb ((by decide)))
  refine ab_iload_n X 3 d_MO_triesOr_124 rfl rfl ?_
  refine ab_bipush (v := 15) X d_MO_triesOr_125 (by decide) ?_
  refine ab_icmp_ne X 149 d_MO_triesOr_127 rfl (fun _ => ?_) (fun hb => absurd hb ((by decide)))
  refine ab_iload_n X 3 d_MO_triesOr_149 rfl rfl ?_
  refine ab_bipush (v := 16) X d_MO_triesOr_150 (by decide) ?_
  refine ab_icmp_ne X 174 d_MO_triesOr_152 rfl (fun _ => ?_) (fun hb => absurd hb ((by decide)))
  refine ab_iload_n X 3 d_MO_triesOr_174 rfl rfl ?_
  refine ab_bipush (v := 17) X d_MO_triesOr_175 (by decide) ?_
  refine ab_icmp_ne X 192 d_MO_triesOr_177 rfl (fun _ => ?_) (fun hb => absurd hb ((by decide)))
  refine ab_iload_n X 3 d_MO_triesOr_192 rfl rfl ?_
  refine ab_bipush (v := 22) X d_MO_triesOr_193 (by decide) ?_
  refine ab_icmp_ne X 217 d_MO_triesOr_195 rfl (fun _ => ?_) (fun hb => absurd hb ((by decide)))
  refine ab_iload_n X 3 d_MO_triesOr_217 rfl rfl ?_
  refine ab_bipush (v := 23) X d_MO_triesOr_218 (by decide) ?_
  refine ab_icmp_ne X 235 d_MO_triesOr_220 rfl (fun _ => ?_) (fun hb => absurd hb ((by decide)))
  exact ab_retv X hr0 hlk d_MO_triesOr_235 ⟨rfl, rfl⟩
set_option maxRecDepth 100000 in
set_option maxHeartbeats 1000000 in
theorem t_MO_triesOr2 (u : ab_S) (a b : Int32) : ab_C false l D ca y_MO_triesOr b_MO_triesOr 4 none 2 ab_nQ u [ab_O 17 0, ab_I a, ab_I b, ab_I (nI 2)] (fun u' v => u' = u ∧ v = none) := by
  refine ab_C.of (by decide) (Nat.le_of_ble_eq_true rfl) ?_
  intro p e s m args below meth c ad X hZ hr0 hlk
  refine ab_iload_n X 3 d_MO_triesOr_0 rfl rfl ?_
  refine ab_iconst (v := 3) X d_MO_triesOr_1 (by decide) ?_
  refine ab_icmp_ne X 65 d_MO_triesOr_2 rfl (fun _ => ?_) (fun hb => absurd hb ((by decide)))
  refine ab_iload_n X 3 d_MO_triesOr_65 rfl rfl ?_
  refine ab_iconst (v := 4) X d_MO_triesOr_66 (by decide) ?_
  refine ab_icmp_ne X 89 d_MO_triesOr_67 rfl (fun _ => ?_) (fun hb => absurd hb ((by decide)))
  refine ab_iload_n X 3 d_MO_triesOr_89 rfl rfl ?_
  refine ab_iconst (v := 5) X d_MO_triesOr_90 (by decide) ?_
  refine ab_icmp_ne X 106 d_MO_triesOr_91 rfl (fun _ => ?_) (fun hb => absurd hb ((by decide)))
  refine ab_iload_n X 3 d_MO_triesOr_106 rfl rfl ?_
  refine ab_bipush (v := 6) X d_MO_triesOr_107 (by decide) ?_
  refine ab_icmp_ne X 124 d_MO_triesOr_109 rfl (fun _ => ?_) (fun hb => absurd hb ((by decide)))
  refine ab_iload_n X 3 d_MO_triesOr_124 rfl rfl ?_
  refine ab_bipush (v := 15) X d_MO_triesOr_125 (by decide) ?_
  refine ab_icmp_ne X 149 d_MO_triesOr_127 rfl (fun _ => ?_) (fun hb => absurd hb ((by decide)))
  refine ab_iload_n X 3 d_MO_triesOr_149 rfl rfl ?_
  refine ab_bipush (v := 16) X d_MO_triesOr_150 (by decide) ?_
  refine ab_icmp_ne X 174 d_MO_triesOr_152 rfl (fun _ => ?_) (fun hb => absurd hb ((by decide)))
  refine ab_iload_n X 3 d_MO_triesOr_174 rfl rfl ?_
  refine ab_bipush (v := 17) X d_MO_triesOr_175 (by decide) ?_
  refine ab_icmp_ne X 192 d_MO_triesOr_177 rfl (fun _ => ?_) (fun hb => absurd hb ((by decide)))
  refine ab_iload_n X 3 d_MO_triesOr_192 rfl rfl ?_
  refine ab_bipush (v := 22) X d_MO_triesOr_193 (by decide) ?_
  refine ab_icmp_ne X 217 d_MO_triesOr_195 rfl (fun _ => ?_) (fun hb => absurd hb ((by decide)))
  refine ab_iload_n X 3 d_MO_triesOr_217 rfl rfl ?_
  refine ab_bipush (v := 23) X d_MO_triesOr_218 (by decide) ?_
  refine ab_icmp_ne X 235 d_MO_triesOr_220 rfl (fun _ => ?_) (fun hb => absurd hb ((by decide)))
  exact ab_retv X hr0 hlk d_MO_triesOr_235 ⟨rfl, rfl⟩
set_option maxRecDepth 100000 in
set_option maxHeartbeats 1000000 in
theorem t_MO_triesOr7 (u : ab_S) (a b : Int32) : ab_C false l D ca y_MO_triesOr b_MO_triesOr 4 none 2 ab_nQ u [ab_O 17 0, ab_I a, ab_I b, ab_I (nI 7)] (fun u' v => u' = u ∧ v = none) := by
  refine ab_C.of (by decide) (Nat.le_of_ble_eq_true rfl) ?_
  intro p e s m args below meth c ad X hZ hr0 hlk
  refine ab_iload_n X 3 d_MO_triesOr_0 rfl rfl ?_
  refine ab_iconst (v := 3) X d_MO_triesOr_1 (by decide) ?_
  refine ab_icmp_ne X 65 d_MO_triesOr_2 rfl (fun _ => ?_) (fun hb => absurd hb ((by decide)))
  refine ab_iload_n X 3 d_MO_triesOr_65 rfl rfl ?_
  refine ab_iconst (v := 4) X d_MO_triesOr_66 (by decide) ?_
  refine ab_icmp_ne X 89 d_MO_triesOr_67 rfl (fun _ => ?_) (fun hb => absurd hb ((by decide)))
  refine ab_iload_n X 3 d_MO_triesOr_89 rfl rfl ?_
  refine ab_iconst (v := 5) X d_MO_triesOr_90 (by decide) ?_
  refine ab_icmp_ne X 106 d_MO_triesOr_91 rfl (fun _ => ?_) (fun hb => absurd hb ((by decide)))
  refine ab_iload_n X 3 d_MO_triesOr_106 rfl rfl ?_
  refine ab_bipush (v := 6) X d_MO_triesOr_107 (by decide) ?_
  refine ab_icmp_ne X 124 d_MO_triesOr_109 rfl (fun _ => ?_) (fun hb => absurd hb ((by decide)))
  refine ab_iload_n X 3 d_MO_triesOr_124 rfl rfl ?_
  refine ab_bipush (v := 15) X d_MO_triesOr_125 (by decide) ?_
  refine ab_icmp_ne X 149 d_MO_triesOr_127 rfl (fun _ => ?_) (fun hb => absurd hb ((by decide)))
  refine ab_iload_n X 3 d_MO_triesOr_149 rfl rfl ?_
  refine ab_bipush (v := 16) X d_MO_triesOr_150 (by decide) ?_
  refine ab_icmp_ne X 174 d_MO_triesOr_152 rfl (fun _ => ?_) (fun hb => absurd hb ((by decide)))
  refine ab_iload_n X 3 d_MO_triesOr_174 rfl rfl ?_
  refine ab_bipush (v := 17) X d_MO_triesOr_175 (by decide) ?_
  refine ab_icmp_ne X 192 d_MO_triesOr_177 rfl (fun _ => ?_) (fun hb => absurd hb ((by decide)))
  refine ab_iload_n X 3 d_MO_triesOr_192 rfl rfl ?_
  refine ab_bipush (v := 22) X d_MO_triesOr_193 (by decide) ?_
  refine ab_icmp_ne X 217 d_MO_triesOr_195 rfl (fun _ => ?_) (fun hb => absurd hb ((by decide)))
  refine ab_iload_n X 3 d_MO_triesOr_217 rfl rfl ?_
  refine ab_bipush (v := 23) X d_MO_triesOr_218 (by decide) ?_
  refine ab_icmp_ne X 235 d_MO_triesOr_220 rfl (fun _ => ?_) (fun hb => absurd hb ((by decide)))
  exact ab_retv X hr0 hlk d_MO_triesOr_235 ⟨rfl, rfl⟩
set_option maxRecDepth 100000 in
set_option maxHeartbeats 1000000 in
theorem t_MO_triesOr8 (u : ab_S) (a b : Int32) : ab_C false l D ca y_MO_triesOr b_MO_triesOr 4 none 2 ab_nQ u [ab_O 17 0, ab_I a, ab_I b, ab_I (nI 8)] (fun u' v => u' = u ∧ v = none) := by
  refine ab_C.of (by decide) (Nat.le_of_ble_eq_true rfl) ?_
  intro p e s m args below meth c ad X hZ hr0 hlk
  refine ab_iload_n X 3 d_MO_triesOr_0 rfl rfl ?_
  refine ab_iconst (v := 3) X d_MO_triesOr_1 (by decide) ?_
  refine ab_icmp_ne X 65 d_MO_triesOr_2 rfl (fun _ => ?_) (fun hb => absurd hb ((by decide)))
  refine ab_iload_n X 3 d_MO_triesOr_65 rfl rfl ?_
  refine ab_iconst (v := 4) X d_MO_triesOr_66 (by decide) ?_
  refine ab_icmp_ne X 89 d_MO_triesOr_67 rfl (fun _ => ?_) (fun hb => absurd hb ((by decide)))
  refine ab_iload_n X 3 d_MO_triesOr_89 rfl rfl ?_
  refine ab_iconst (v := 5) X d_MO_triesOr_90 (by decide) ?_
  refine ab_icmp_ne X 106 d_MO_triesOr_91 rfl (fun _ => ?_) (fun hb => absurd hb ((by decide)))
  refine ab_iload_n X 3 d_MO_triesOr_106 rfl rfl ?_
  refine ab_bipush (v := 6) X d_MO_triesOr_107 (by decide) ?_
  refine ab_icmp_ne X 124 d_MO_triesOr_109 rfl (fun _ => ?_) (fun hb => absurd hb ((by decide)))
  refine ab_iload_n X 3 d_MO_triesOr_124 rfl rfl ?_
  refine ab_bipush (v := 15) X d_MO_triesOr_125 (by decide) ?_
  refine ab_icmp_ne X 149 d_MO_triesOr_127 rfl (fun _ => ?_) (fun hb => absurd hb ((by decide)))
  refine ab_iload_n X 3 d_MO_triesOr_149 rfl rfl ?_
  refine ab_bipush (v := 16) X d_MO_triesOr_150 (by decide) ?_
  refine ab_icmp_ne X 174 d_MO_triesOr_152 rfl (fun _ => ?_) (fun hb => absurd hb ((by decide)))
  refine ab_iload_n X 3 d_MO_triesOr_174 rfl rfl ?_
  refine ab_bipush (v := 17) X d_MO_triesOr_175 (by decide) ?_
  refine ab_icmp_ne X 192 d_MO_triesOr_177 rfl (fun _ => ?_) (fun hb => absurd hb ((by decide)))
  refine ab_iload_n X 3 d_MO_triesOr_192 rfl rfl ?_
  refine ab_bipush (v := 22) X d_MO_triesOr_193 (by decide) ?_
  refine ab_icmp_ne X 217 d_MO_triesOr_195 rfl (fun _ => ?_) (fun hb => absurd hb ((by decide)))
  refine ab_iload_n X 3 d_MO_triesOr_217 rfl rfl ?_
  refine ab_bipush (v := 23) X d_MO_triesOr_218 (by decide) ?_
  refine ab_icmp_ne X 235 d_MO_triesOr_220 rfl (fun _ => ?_) (fun hb => absurd hb ((by decide)))
  exact ab_retv X hr0 hlk d_MO_triesOr_235 ⟨rfl, rfl⟩
set_option maxRecDepth 100000 in
set_option maxHeartbeats 1000000 in
theorem t_MO_triesOr11 (u : ab_S) (a b : Int32) : ab_C false l D ca y_MO_triesOr b_MO_triesOr 4 none 2 ab_nQ u [ab_O 17 0, ab_I a, ab_I b, ab_I (nI 11)] (fun u' v => u' = u ∧ v = none) := by
  refine ab_C.of (by decide) (Nat.le_of_ble_eq_true rfl) ?_
  intro p e s m args below meth c ad X hZ hr0 hlk
  refine ab_iload_n X 3 d_MO_triesOr_0 rfl rfl ?_
  refine ab_iconst (v := 3) X d_MO_triesOr_1 (by decide) ?_
  refine ab_icmp_ne X 65 d_MO_triesOr_2 rfl (fun _ => ?_) (fun hb => absurd hb ((by decide)))
  refine ab_iload_n X 3 d_MO_triesOr_65 rfl rfl ?_
  refine ab_iconst (v := 4) X d_MO_triesOr_66 (by decide) ?_
  refine ab_icmp_ne X 89 d_MO_triesOr_67 rfl (fun _ => ?_) (fun hb => absurd hb ((by decide)))
  refine ab_iload_n X 3 d_MO_triesOr_89 rfl rfl ?_
  refine ab_iconst (v := 5) X d_MO_triesOr_90 (by decide) ?_
  refine ab_icmp_ne X 106 d_MO_triesOr_91 rfl (fun _ => ?_) (fun hb => absurd hb ((by decide)))
  refine ab_iload_n X 3 d_MO_triesOr_106 rfl rfl ?_
  refine ab_bipush (v := 6) X d_MO_triesOr_107 (by decide) ?_
  refine ab_icmp_ne X 124 d_MO_triesOr_109 rfl (fun _ => ?_) (fun hb => absurd hb ((by decide)))
  refine ab_iload_n X 3 d_MO_triesOr_124 rfl rfl ?_
  refine ab_bipush (v := 15) X d_MO_triesOr_125 (by decide) ?_
  refine ab_icmp_ne X 149 d_MO_triesOr_127 rfl (fun _ => ?_) (fun hb => absurd hb ((by decide)))
  refine ab_iload_n X 3 d_MO_triesOr_149 rfl rfl ?_
  refine ab_bipush (v := 16) X d_MO_triesOr_150 (by decide) ?_
  refine ab_icmp_ne X 174 d_MO_triesOr_152 rfl (fun _ => ?_) (fun hb => absurd hb ((by decide)))
  refine ab_iload_n X 3 d_MO_triesOr_174 rfl rfl ?_
  refine ab_bipush (v := 17) X d_MO_triesOr_175 (by decide) ?_
  refine ab_icmp_ne X 192 d_MO_triesOr_177 rfl (fun _ => ?_) (fun hb => absurd hb ((by decide)))
  refine ab_iload_n X 3 d_MO_triesOr_192 rfl rfl ?_
  refine ab_bipush (v := 22) X d_MO_triesOr_193 (by decide) ?_
  refine ab_icmp_ne X 217 d_MO_triesOr_195 rfl (fun _ => ?_) (fun hb => absurd hb ((by decide)))
  refine ab_iload_n X 3 d_MO_triesOr_217 rfl rfl ?_
  refine ab_bipush (v := 23) X d_MO_triesOr_218 (by decide) ?_
  refine ab_icmp_ne X 235 d_MO_triesOr_220 rfl (fun _ => ?_) (fun hb => absurd hb ((by decide)))
  exact ab_retv X hr0 hlk d_MO_triesOr_235 ⟨rfl, rfl⟩
set_option maxRecDepth 100000 in
set_option maxHeartbeats 1000000 in
theorem t_MO_triesOr12 (u : ab_S) (a b : Int32) : ab_C false l D ca y_MO_triesOr b_MO_triesOr 4 none 2 ab_nQ u [ab_O 17 0, ab_I a, ab_I b, ab_I (nI 12)] (fun u' v => u' = u ∧ v = none) := by
  refine ab_C.of (by decide) (Nat.le_of_ble_eq_true rfl) ?_
  intro p e s m args below meth c ad X hZ hr0 hlk
  refine ab_iload_n X 3 d_MO_triesOr_0 rfl rfl ?_
  refine ab_iconst (v := 3) X d_MO_triesOr_1 (by decide) ?_
  refine ab_icmp_ne X 65 d_MO_triesOr_2 rfl (fun _ => ?_) (fun hb => absurd hb ((by decide)))
  refine ab_iload_n X 3 d_MO_triesOr_65 rfl rfl ?_
  refine ab_iconst (v := 4) X d_MO_triesOr_66 (by decide) ?_
  refine ab_icmp_ne X 89 d_MO_triesOr_67 rfl (fun _ => ?_) (fun hb => absurd hb ((by decide)))
  refine ab_iload_n X 3 d_MO_triesOr_89 rfl rfl ?_
  refine ab_iconst (v := 5) X d_MO_triesOr_90 (by decide) ?_
  refine ab_icmp_ne X 106 d_MO_triesOr_91 rfl (fun _ => ?_) (fun hb => absurd hb ((by decide)))
  refine ab_iload_n X 3 d_MO_triesOr_106 rfl rfl ?_
  refine ab_bipush (v := 6) X d_MO_triesOr_107 (by decide) ?_
  refine ab_icmp_ne X 124 d_MO_triesOr_109 rfl (fun _ => ?_) (fun hb => absurd hb ((by decide)))
  refine ab_iload_n X 3 d_MO_triesOr_124 rfl rfl ?_
  refine ab_bipush (v := 15) X d_MO_triesOr_125 (by decide) ?_
  refine ab_icmp_ne X 149 d_MO_triesOr_127 rfl (fun _ => ?_) (fun hb => absurd hb ((by decide)))
  refine ab_iload_n X 3 d_MO_triesOr_149 rfl rfl ?_
  refine ab_bipush (v := 16) X d_MO_triesOr_150 (by decide) ?_
  refine ab_icmp_ne X 174 d_MO_triesOr_152 rfl (fun _ => ?_) (fun hb => absurd hb ((by decide)))
  refine ab_iload_n X 3 d_MO_triesOr_174 rfl rfl ?_
  refine ab_bipush (v := 17) X d_MO_triesOr_175 (by decide) ?_
  refine ab_icmp_ne X 192 d_MO_triesOr_177 rfl (fun _ => ?_) (fun hb => absurd hb ((by decide)))
  refine ab_iload_n X 3 d_MO_triesOr_192 rfl rfl ?_
  refine ab_bipush (v := 22) X d_MO_triesOr_193 (by decide) ?_
  refine ab_icmp_ne X 217 d_MO_triesOr_195 rfl (fun _ => ?_) (fun hb => absurd hb ((by decide)))
  refine ab_iload_n X 3 d_MO_triesOr_217 rfl rfl ?_
  refine ab_bipush (v := 23) X d_MO_triesOr_218 (by decide) ?_
  refine ab_icmp_ne X 235 d_MO_triesOr_220 rfl (fun _ => ?_) (fun hb => absurd hb ((by decide)))
  exact ab_retv X hr0 hlk d_MO_triesOr_235 ⟨rfl, rfl⟩
set_option maxRecDepth 100000 in
set_option maxHeartbeats 1000000 in
theorem t_MO_triesOr13 (u : ab_S) (a b : Int32) : ab_C false l D ca y_MO_triesOr b_MO_triesOr 4 none 2 ab_nQ u [ab_O 17 0, ab_I a, ab_I b, ab_I (nI 13)] (fun u' v => u' = u ∧ v = none) := by
  refine ab_C.of (by decide) (Nat.le_of_ble_eq_true rfl) ?_
  intro p e s m args below meth c ad X hZ hr0 hlk
  refine ab_iload_n X 3 d_MO_triesOr_0 rfl rfl ?_
  refine ab_iconst (v := 3) X d_MO_triesOr_1 (by decide) ?_
  refine ab_icmp_ne X 65 d_MO_triesOr_2 rfl (fun _ => ?_) (fun hb => absurd hb ((by decide)))
  refine ab_iload_n X 3 d_MO_triesOr_65 rfl rfl ?_
  refine ab_iconst (v := 4) X d_MO_triesOr_66 (by decide) ?_
  refine ab_icmp_ne X 89 d_MO_triesOr_67 rfl (fun _ => ?_) (fun hb => absurd hb ((by decide)))
  refine ab_iload_n X 3 d_MO_triesOr_89 rfl rfl ?_
  refine ab_iconst (v := 5) X d_MO_triesOr_90 (by decide) ?_
  refine ab_icmp_ne X 106 d_MO_triesOr_91 rfl (fun _ => ?_) (fun hb => absurd hb ((by decide)))
  refine ab_iload_n X 3 d_MO_triesOr_106 rfl rfl ?_
  refine ab_bipush (v := 6) X d_MO_triesOr_107 (by decide) ?_
  refine ab_icmp_ne X 124 d_MO_triesOr_109 rfl (fun _ => ?_) (fun hb => absurd hb ((by decide)))
  refine ab_iload_n X 3 d_MO_triesOr_124 rfl rfl ?_
  refine ab_bipush (v := 15) X d_MO_triesOr_125 (by decide) ?_
  refine ab_icmp_ne X 149 d_MO_triesOr_127 rfl (fun _ => ?_) (fun hb => absurd hb ((by decide)))
  refine ab_iload_n X 3 d_MO_triesOr_149 rfl rfl ?_
  refine ab_bipush (v := 16) X d_MO_triesOr_150 (by decide) ?_
  refine ab_icmp_ne X 174 d_MO_triesOr_152 rfl (fun _ => ?_) (fun hb => absurd hb ((by decide)))
  refine ab_iload_n X 3 d_MO_triesOr_174 rfl rfl ?_
  refine ab_bipush (v := 17) X d_MO_triesOr_175 (by decide) ?_
  refine ab_icmp_ne X 192 d_MO_triesOr_177 rfl (fun _ => ?_) (fun hb => absurd hb ((by decide)))
  refine ab_iload_n X 3 d_MO_triesOr_192 rfl rfl ?_
  refine ab_bipush (v := 22) X d_MO_triesOr_193 (by decide) ?_
  refine ab_icmp_ne X 217 d_MO_triesOr_195 rfl (fun _ => ?_) (fun hb => absurd hb ((by decide)))
  refine ab_iload_n X 3 d_MO_triesOr_217 rfl rfl ?_
  refine ab_bipush (v := 23) X d_MO_triesOr_218 (by decide) ?_
  refine ab_icmp_ne X 235 d_MO_triesOr_220 rfl (fun _ => ?_) (fun hb => absurd hb ((by decide)))
  exact ab_retv X hr0 hlk d_MO_triesOr_235 ⟨rfl, rfl⟩
set_option maxRecDepth 100000 in
set_option maxHeartbeats 1000000 in
theorem t_MO_triesOr14 (u : ab_S) (a b : Int32) : ab_C false l D ca y_MO_triesOr b_MO_triesOr 4 none 2 ab_nQ u [ab_O 17 0, ab_I a, ab_I b, ab_I (nI 14)] (fun u' v => u' = u ∧ v = none) := by
  refine ab_C.of (by decide) (Nat.le_of_ble_eq_true rfl) ?_
  intro p e s m args below meth c ad X hZ hr0 hlk
  refine ab_iload_n X 3 d_MO_triesOr_0 rfl rfl ?_
  refine ab_iconst (v := 3) X d_MO_triesOr_1 (by decide) ?_
  refine ab_icmp_ne X 65 d_MO_triesOr_2 rfl (fun _ => ?_) (fun hb => absurd hb ((by decide)))
  refine ab_iload_n X 3 d_MO_triesOr_65 rfl rfl ?_
  refine ab_iconst (v := 4) X d_MO_triesOr_66 (by decide) ?_
  refine ab_icmp_ne X 89 d_MO_triesOr_67 rfl (fun _ => ?_) (fun hb => absurd hb ((by decide)))
  refine ab_iload_n X 3 d_MO_triesOr_89 rfl rfl ?_
  refine ab_iconst (v := 5) X d_MO_triesOr_90 (by decide) ?_
  refine ab_icmp_ne X 106 d_MO_triesOr_91 rfl (fun _ => ?_) (fun hb => absurd hb ((by decide)))
  refine ab_iload_n X 3 d_MO_triesOr_106 rfl rfl ?_
  refine ab_bipush (v := 6) X d_MO_triesOr_107 (by decide) ?_
  refine ab_icmp_ne X 124 d_MO_triesOr_109 rfl (fun _ => ?_) (fun hb => absurd hb ((by decide)))
  refine ab_iload_n X 3 d_MO_triesOr_124 rfl rfl ?_
  refine ab_bipush (v := 15) X d_MO_triesOr_125 (by decide) ?_
  refine ab_icmp_ne X 149 d_MO_triesOr_127 rfl (fun _ => ?_) (fun hb => absurd hb ((by decide)))
  refine ab_iload_n X 3 d_MO_triesOr_149 rfl rfl ?_
  refine ab_bipush (v := 16) X d_MO_triesOr_150 (by decide) ?_
  refine ab_icmp_ne X 174 d_MO_triesOr_152 rfl (fun _ => ?_) (fun hb => absurd hb ((by decide)))
  refine ab_iload_n X 3 d_MO_triesOr_174 rfl rfl ?_
  refine ab_bipush (v := 17) X d_MO_triesOr_175 (by decide) ?_
  refine ab_icmp_ne X 192 d_MO_triesOr_177 rfl (fun _ => ?_) (fun hb => absurd hb ((by decide)))
  refine ab_iload_n X 3 d_MO_triesOr_192 rfl rfl ?_
  refine ab_bipush (v := 22) X d_MO_triesOr_193 (by decide) ?_
  refine ab_icmp_ne X 217 d_MO_triesOr_195 rfl (fun _ => ?_) (fun hb => absurd hb ((by decide)))
  refine ab_iload_n X 3 d_MO_triesOr_217 rfl rfl ?_
  refine ab_bipush (v := 23) X d_MO_triesOr_218 (by decide) ?_
  refine ab_icmp_ne X 235 d_MO_triesOr_220 rfl (fun _ => ?_) (fun hb => absurd hb ((by decide)))
  exact ab_retv X hr0 hlk d_MO_triesOr_235 ⟨rfl, rfl⟩
set_option maxRecDepth 100000 in
set_option maxHeartbeats 1000000 in
theorem t_MO_triesOr18 (u : ab_S) (a b : Int32) : ab_C false l D ca y_MO_triesOr b_MO_triesOr 4 none 2 ab_nQ u [ab_O 17 0, ab_I a, ab_I b, ab_I (nI 18)] (fun u' v => u' = u ∧ v = none) := by
  refine ab_C.of (by decide) (Nat.le_of_ble_eq_true rfl) ?_
  intro p e s m args below meth c ad X hZ hr0 hlk
  refine ab_iload_n X 3 d_MO_triesOr_0 rfl rfl ?_
  refine ab_iconst (v := 3) X d_MO_triesOr_1 (by decide) ?_
  refine ab_icmp_ne X 65 d_MO_triesOr_2 rfl (fun _ => ?_) (fun hb => absurd hb ((by decide)))
  refine ab_iload_n X 3 d_MO_triesOr_65 rfl rfl ?_
  refine ab_iconst (v := 4) X d_MO_triesOr_66 (by decide) ?_
  refine ab_icmp_ne X 89 d_MO_triesOr_67 rfl (fun _ => ?_) (fun hb => absurd hb ((by decide)))
  refine ab_iload_n X 3 d_MO_triesOr_89 rfl rfl ?_
  refine ab_iconst (v := 5) X d_MO_triesOr_90 (by decide) ?_
  refine ab_icmp_ne X 106 d_MO_triesOr_91 rfl (fun _ => ?_) (fun hb => absurd hb ((by decide)))
  refine ab_iload_n X 3 d_MO_triesOr_106 rfl rfl ?_
  refine ab_bipush (v := 6) X d_MO_triesOr_107 (by decide) ?_
  refine ab_icmp_ne X 124 d_MO_triesOr_109 rfl (fun _ => ?_) (fun hb => absurd hb ((by decide)))
  refine ab_iload_n X 3 d_MO_triesOr_124 rfl rfl ?_
  refine ab_bipush (v := 15) X d_MO_triesOr_125 (by decide) ?_
  refine ab_icmp_ne X 149 d_MO_triesOr_127 rfl (fun _ => ?_) (fun hb => absurd hb ((by decide)))
  refine ab_iload_n X 3 d_MO_triesOr_149 rfl rfl ?_
  refine ab_bipush (v := 16) X d_MO_triesOr_150 (by decide) ?_
  refine ab_icmp_ne X 174 d_MO_triesOr_152 rfl (fun _ => ?_) (fun hb => absurd hb ((by decide)))
  refine ab_iload_n X 3 d_MO_triesOr_174 rfl rfl ?_
  refine ab_bipush (v := 17) X d_MO_triesOr_175 (by decide) ?_
  refine ab_icmp_ne X 192 d_MO_triesOr_177 rfl (fun _ => ?_) (fun hb => absurd hb ((by decide)))
  refine ab_iload_n X 3 d_MO_triesOr_192 rfl rfl ?_
  refine ab_bipush (v := 22) X d_MO_triesOr_193 (by decide) ?_
  refine ab_icmp_ne X 217 d_MO_triesOr_195 rfl (fun _ => ?_) (fun hb => absurd hb ((by decide)))
  refine ab_iload_n X 3 d_MO_triesOr_217 rfl rfl ?_
  refine ab_bipush (v := 23) X d_MO_triesOr_218 (by decide) ?_
  refine ab_icmp_ne X 235 d_MO_triesOr_220 rfl (fun _ => ?_) (fun hb => absurd hb ((by decide)))
  exact ab_retv X hr0 hlk d_MO_triesOr_235 ⟨rfl, rfl⟩
set_option maxRecDepth 100000 in
set_option maxHeartbeats 1000000 in
theorem t_MO_triesOr21 (u : ab_S) (a b : Int32) : ab_C false l D ca y_MO_triesOr b_MO_triesOr 4 none 2 ab_nQ u [ab_O 17 0, ab_I a, ab_I b, ab_I (nI 21)] (fun u' v => u' = u ∧ v = none) := by
  refine ab_C.of (by decide) (Nat.le_of_ble_eq_true rfl) ?_
  intro p e s m args below meth c ad X hZ hr0 hlk
  refine ab_iload_n X 3 d_MO_triesOr_0 rfl rfl ?_
  refine ab_iconst (v := 3) X d_MO_triesOr_1 (by decide) ?_
  refine ab_icmp_ne X 65 d_MO_triesOr_2 rfl (fun _ => ?_) (fun hb => absurd hb ((by decide)))
  refine ab_iload_n X 3 d_MO_triesOr_65 rfl rfl ?_
  refine ab_iconst (v := 4) X d_MO_triesOr_66 (by decide) ?_
  refine ab_icmp_ne X 89 d_MO_triesOr_67 rfl (fun _ => ?_) (fun hb => absurd hb ((by decide)))
  refine ab_iload_n X 3 d_MO_triesOr_89 rfl rfl ?_
  refine ab_iconst (v := 5) X d_MO_triesOr_90 (by decide) ?_
  refine ab_icmp_ne X 106 d_MO_triesOr_91 rfl (fun _ => ?_) (fun hb => absurd hb ((by decide)))
  refine ab_iload_n X 3 d_MO_triesOr_106 rfl rfl ?_
  refine ab_bipush (v := 6) X d_MO_triesOr_107 (by decide) ?_
  refine ab_icmp_ne X 124 d_MO_triesOr_109 rfl (fun _ => ?_) (fun hb => absurd hb ((by decide)))
  refine ab_iload_n X 3 d_MO_triesOr_124 rfl rfl ?_
  refine ab_bipush (v := 15) X d_MO_triesOr_125 (by decide) ?_
  refine ab_icmp_ne X 149 d_MO_triesOr_127 rfl (fun _ => ?_) (fun hb => absurd hb ((by decide)))
  refine ab_iload_n X 3 d_MO_triesOr_149 rfl rfl ?_
  refine ab_bipush (v := 16) X d_MO_triesOr_150 (by decide) ?_
  refine ab_icmp_ne X 174 d_MO_triesOr_152 rfl (fun _ => ?_) (fun hb => absurd hb ((by decide)))
  refine ab_iload_n X 3 d_MO_triesOr_174 rfl rfl ?_
  refine ab_bipush (v := 17) X d_MO_triesOr_175 (by decide) ?_
  refine ab_icmp_ne X 192 d_MO_triesOr_177 rfl (fun _ => ?_) (fun hb => absurd hb ((by decide)))
  refine ab_iload_n X 3 d_MO_triesOr_192 rfl rfl ?_
  refine ab_bipush (v := 22) X d_MO_triesOr_193 (by decide) ?_
  refine ab_icmp_ne X 217 d_MO_triesOr_195 rfl (fun _ => ?_) (fun hb => absurd hb ((by decide)))
  refine ab_iload_n X 3 d_MO_triesOr_217 rfl rfl ?_
  refine ab_bipush (v := 23) X d_MO_triesOr_218 (by decide) ?_
  refine ab_icmp_ne X 235 d_MO_triesOr_220 rfl (fun _ => ?_) (fun hb => absurd hb ((by decide)))
  exact ab_retv X hr0 hlk d_MO_triesOr_235 ⟨rfl, rfl⟩
set_option maxRecDepth 100000 in
set_option maxHeartbeats 1000000 in
theorem t_MO_triesOr24 (u : ab_S) (a b : Int32) : ab_C false l D ca y_MO_triesOr b_MO_triesOr 4 none 2 ab_nQ u [ab_O 17 0, ab_I a, ab_I b, ab_I (nI 24)] (fun u' v => u' = u ∧ v = none) := by
  refine ab_C.of (by decide) (Nat.le_of_ble_eq_true rfl) ?_
  intro p e s m args below meth c ad X hZ hr0 hlk
  refine ab_iload_n X 3 d_MO_triesOr_0 rfl rfl ?_
  refine ab_iconst (v := 3) X d_MO_triesOr_1 (by decide) ?_
  refine ab_icmp_ne X 65 d_MO_triesOr_2 rfl (fun _ => ?_) (fun hb => absurd hb ((by decide)))
  refine ab_iload_n X 3 d_MO_triesOr_65 rfl rfl ?_
  refine ab_iconst (v := 4) X d_MO_triesOr_66 (by decide) ?_
  refine ab_icmp_ne X 89 d_MO_triesOr_67 rfl (fun _ => ?_) (fun hb => absurd hb ((by decide)))
  refine ab_iload_n X 3 d_MO_triesOr_89 rfl rfl ?_
  refine ab_iconst (v := 5) X d_MO_triesOr_90 (by decide) ?_
  refine ab_icmp_ne X 106 d_MO_triesOr_91 rfl (fun _ => ?_) (fun hb => absurd hb ((by decide)))
  refine ab_iload_n X 3 d_MO_triesOr_106 rfl rfl ?_
  refine ab_bipush (v := 6) X d_MO_triesOr_107 (by decide) ?_
  refine ab_icmp_ne X 124 d_MO_triesOr_109 rfl (fun _ => ?_) (fun hb => absurd hb ((by decide)))
  refine ab_iload_n X 3 d_MO_triesOr_124 rfl rfl ?_
  refine ab_bipush (v := 15) X d_MO_triesOr_125 (by decide) ?_
  refine ab_icmp_ne X 149 d_MO_triesOr_127 rfl (fun _ => ?_) (fun hb => absurd hb ((by decide)))
  refine ab_iload_n X 3 d_MO_triesOr_149 rfl rfl ?_
  refine ab_bipush (v := 16) X d_MO_triesOr_150 (by decide) ?_
  refine ab_icmp_ne X 174 d_MO_triesOr_152 rfl (fun _ => ?_) (fun hb => absurd hb ((by decide)))
  refine ab_iload_n X 3 d_MO_triesOr_174 rfl rfl ?_
  refine ab_bipush (v := 17) X d_MO_triesOr_175 (by decide) ?_
  refine ab_icmp_ne X 192 d_MO_triesOr_177 rfl (fun _ => ?_) (fun hb => absurd hb ((by decide)))
  refine ab_iload_n X 3 d_MO_triesOr_192 rfl rfl ?_
  refine ab_bipush (v := 22) X d_MO_triesOr_193 (by decide) ?_
  refine ab_icmp_ne X 217 d_MO_triesOr_195 rfl (fun _ => ?_) (fun hb => absurd hb ((by decide)))
  refine ab_iload_n X 3 d_MO_triesOr_217 rfl rfl ?_
  refine ab_bipush (v := 23) X d_MO_triesOr_218 (by decide) ?_
  refine ab_icmp_ne X 235 d_MO_triesOr_220 rfl (fun _ => ?_) (fun hb => absurd hb ((by decide)))
  exact ab_retv X hr0 hlk d_MO_triesOr_235 ⟨rfl, rfl⟩
abbrev b_MO_gain : ByteArray := prog_10_method_20_code
def y_MO_gain : MethodName := ⟨"PolicyForgeModel", "gain", "(II)I"⟩
theorem d_MO_gain_0 : decode b_MO_gain 0 = .ok (.aload_n 0, 1) := by decide +kernel
theorem d_MO_gain_1 : decode b_MO_gain 1 = .ok (.getfield 42, 3) := by decide +kernel
theorem d_MO_gain_4 : decode b_MO_gain 4 = .ok (.iconst 4, 1) := by decide +kernel
theorem d_MO_gain_5 : decode b_MO_gain 5 = .ok (.iload_n 1, 1) := by decide +kernel
theorem d_MO_gain_6 : decode b_MO_gain 6 = .ok (.imul, 1) := by decide +kernel
theorem d_MO_gain_7 : decode b_MO_gain 7 = .ok (.iload_n 2, 1) := by decide +kernel
theorem d_MO_gain_8 : decode b_MO_gain 8 = .ok (.iadd, 1) := by decide +kernel
theorem d_MO_gain_9 : decode b_MO_gain 9 = .ok (.iaload, 1) := by decide +kernel
theorem d_MO_gain_10 : decode b_MO_gain 10 = .ok (.istore_n 3, 1) := by decide +kernel
theorem d_MO_gain_11 : decode b_MO_gain 11 = .ok (.aload_n 0, 1) := by decide +kernel
theorem d_MO_gain_12 : decode b_MO_gain 12 = .ok (.getfield 51, 3) := by decide +kernel
theorem d_MO_gain_15 : decode b_MO_gain 15 = .ok (.iload_n 3, 1) := by decide +kernel
theorem d_MO_gain_16 : decode b_MO_gain 16 = .ok (.invokestatic 195, 3) := by decide +kernel
theorem d_MO_gain_19 : decode b_MO_gain 19 = .ok (.iaload, 1) := by decide +kernel
theorem d_MO_gain_20 : decode b_MO_gain 20 = .ok (.aload_n 0, 1) := by decide +kernel
theorem d_MO_gain_21 : decode b_MO_gain 21 = .ok (.getfield 54, 3) := by decide +kernel
theorem d_MO_gain_24 : decode b_MO_gain 24 = .ok (.iload_n 3, 1) := by decide +kernel
theorem d_MO_gain_25 : decode b_MO_gain 25 = .ok (.iaload, 1) := by decide +kernel
theorem d_MO_gain_26 : decode b_MO_gain 26 = .ok (.isub, 1) := by decide +kernel
theorem d_MO_gain_27 : decode b_MO_gain 27 = .ok (.ireturn, 1) := by decide +kernel
set_option maxRecDepth 100000 in
set_option maxHeartbeats 1000000 in
theorem t_MO_gain (u : ab_S) (p1 i c1 : Nat) (h : mR u.2.1) (hp : 4 * p1 + i < 160) (hc : c1 < 19) (ec : u.1 18 4 (4 * p1 + i) = nI c1) : ab_C false l D ca y_MO_gain b_MO_gain 4 (some FieldType.int) 1 ab_nQ u [ab_O 17 0, ab_I (nI p1), ab_I (nI i)] (fun u' v => u' = u ∧ ∃ x : Int32, v = some (ab_I x)) := by
  refine ab_C.of (by decide) (Nat.le_of_ble_eq_true rfl) ?_
  intro p e s m args below meth c ad X hZ hr0 hlk
  have P0 : gP [18, 19] u u := gP.rf h
  refine ab_aload_n X 0 d_MO_gain_0 rfl rfl ?_
  refine ab_gR X fl_MO_42 d_MO_gain_1 (by first | assumption | decide | (show _ < 124; omega) | (show _ < 61; omega) | (show _ < 20; omega)) (P0.1.mo10) ?_
  refine ab_iconst (v := 4) X d_MO_gain_4 (by decide) ?_
  refine ab_iload_n X 1 d_MO_gain_5 rfl rfl ?_
  refine ab_imul X d_MO_gain_6 ?_
  refine ab_iload_n X 2 d_MO_gain_7 rfl rfl ?_
  refine ab_iadd X d_MO_gain_8 ?_
  refine ab_iald X (4 * p1 + i) ⟨rfl, rfl⟩ d_MO_gain_9 (by first | assumption | decide | (show _ < 124; omega) | (show _ < 61; omega) | (show _ < 20; omega)) (nI_4a p1 i) (hp) (ab_ln_lt _ _) ?_
  refine ab_top ec ?_
  refine ab_istore_n3 X 0 1 2 d_MO_gain_10 rfl (by decide) rfl rfl rfl rfl rfl rfl ?_
  refine ab_aload_n X 1 d_MO_gain_11 rfl rfl ?_
  refine ab_gR X fl_MO_51 d_MO_gain_12 (by first | assumption | decide | (show _ < 124; omega) | (show _ < 61; omega) | (show _ < 20; omega)) (P0.1.mo13) ?_
  refine ab_iload_n X 0 d_MO_gain_15 rfl rfl ?_
  refine ab_callS (as := [ab_I (nI c1)]) X (fun h => by cases h) (t_MO_d u c1) ls_MO_195 d_MO_gain_16 rfl rfl ⟨by first | exact Nat.le_of_ble_eq_true rfl | (simp only [ab_rm]; omega), by first | exact Nat.le_of_ble_eq_true rfl | (simp only [ab_rm]; omega)⟩ ⟨by first | exact Nat.le_of_ble_eq_true rfl | (simp only [ab_rm]; omega), by first | exact Nat.le_of_ble_eq_true rfl | (simp only [ab_rm]; omega)⟩ (Nat.le_of_ble_eq_true rfl) (fun u16 r16 h16 => ?_)
  obtain ⟨e16, rfl⟩ := h16
  subst u16
  refine ab_iald X (3 * c1 + 1) ⟨rfl, rfl⟩ d_MO_gain_19 (by first | assumption | decide | (show _ < 124; omega) | (show _ < 61; omega) | (show _ < 20; omega)) (rfl) (show 3 * c1 + 1 < 72 by omega) (ab_ln_lt _ _) ?_
  refine ab_aload_n X 1 d_MO_gain_20 rfl rfl ?_
  refine ab_gR X fl_MO_54 d_MO_gain_21 (by first | assumption | decide | (show _ < 124; omega) | (show _ < 61; omega) | (show _ < 20; omega)) (P0.1.mo14) ?_
  refine ab_iload_n X 0 d_MO_gain_24 rfl rfl ?_
  refine ab_iald X (c1) ⟨rfl, rfl⟩ d_MO_gain_25 (by first | assumption | decide | (show _ < 124; omega) | (show _ < 61; omega) | (show _ < 20; omega)) (rfl) (show c1 < 24 by omega) (ab_ln_lt _ _) ?_
  refine ab_isub X d_MO_gain_26 ?_
  exact ab_reti X hr0 hlk d_MO_gain_27 ⟨rfl, _, rfl⟩
abbrev b_MO_allOf : ByteArray := prog_10_method_21_code
def y_MO_allOf : MethodName := ⟨"PolicyForgeModel", "allOf", "(I)V"⟩
theorem d_MO_allOf_0 : decode b_MO_allOf 0 = .ok (.iconst 0, 1) := by decide +kernel
theorem d_MO_allOf_1 : decode b_MO_allOf 1 = .ok (.istore_n 2, 1) := by decide +kernel
theorem d_MO_allOf_2 : decode b_MO_allOf 2 = .ok (.iconst 0, 1) := by decide +kernel
theorem d_MO_allOf_3 : decode b_MO_allOf 3 = .ok (.istore_n 3, 1) := by decide +kernel
theorem d_MO_allOf_4 : decode b_MO_allOf 4 = .ok (.iconst 0, 1) := by decide +kernel
theorem d_MO_allOf_5 : decode b_MO_allOf 5 = .ok (.istore 4, 2) := by decide +kernel
theorem d_MO_allOf_7 : decode b_MO_allOf 7 = .ok (.iload 4, 2) := by decide +kernel
theorem d_MO_allOf_9 : decode b_MO_allOf 9 = .ok (.aload_n 0, 1) := by decide +kernel
theorem d_MO_allOf_10 : decode b_MO_allOf 10 = .ok (.getfield 39, 3) := by decide +kernel
theorem d_MO_allOf_13 : decode b_MO_allOf 13 = .ok (.iload_n 1, 1) := by decide +kernel
theorem d_MO_allOf_14 : decode b_MO_allOf 14 = .ok (.iaload, 1) := by decide +kernel
theorem d_MO_allOf_15 : decode b_MO_allOf 15 = .ok (.if_icmp .ge 75, 3) := by decide +kernel
theorem d_MO_allOf_18 : decode b_MO_allOf 18 = .ok (.iload 4, 2) := by decide +kernel
theorem d_MO_allOf_20 : decode b_MO_allOf 20 = .ok (.iconst 1, 1) := by decide +kernel
theorem d_MO_allOf_21 : decode b_MO_allOf 21 = .ok (.iadd, 1) := by decide +kernel
theorem d_MO_allOf_22 : decode b_MO_allOf 22 = .ok (.aload_n 0, 1) := by decide +kernel
theorem d_MO_allOf_23 : decode b_MO_allOf 23 = .ok (.getfield 39, 3) := by decide +kernel
theorem d_MO_allOf_26 : decode b_MO_allOf 26 = .ok (.iload_n 1, 1) := by decide +kernel
theorem d_MO_allOf_27 : decode b_MO_allOf 27 = .ok (.iaload, 1) := by decide +kernel
theorem d_MO_allOf_28 : decode b_MO_allOf 28 = .ok (.if_icmp .ge 20, 3) := by decide +kernel
theorem d_MO_allOf_31 : decode b_MO_allOf 31 = .ok (.aload_n 0, 1) := by decide +kernel
theorem d_MO_allOf_32 : decode b_MO_allOf 32 = .ok (.getfield 42, 3) := by decide +kernel
theorem d_MO_allOf_35 : decode b_MO_allOf 35 = .ok (.iconst 4, 1) := by decide +kernel
theorem d_MO_allOf_36 : decode b_MO_allOf 36 = .ok (.iload_n 1, 1) := by decide +kernel
theorem d_MO_allOf_37 : decode b_MO_allOf 37 = .ok (.imul, 1) := by decide +kernel
theorem d_MO_allOf_38 : decode b_MO_allOf 38 = .ok (.iload 4, 2) := by decide +kernel
theorem d_MO_allOf_40 : decode b_MO_allOf 40 = .ok (.iadd, 1) := by decide +kernel
theorem d_MO_allOf_41 : decode b_MO_allOf 41 = .ok (.iaload, 1) := by decide +kernel
theorem d_MO_allOf_42 : decode b_MO_allOf 42 = .ok (.invokestatic 201, 3) := by decide +kernel
theorem d_MO_allOf_45 : decode b_MO_allOf 45 = .ok (.goto 17, 3) := by decide +kernel
theorem d_MO_allOf_48 : decode b_MO_allOf 48 = .ok (.aload_n 0, 1) := by decide +kernel
theorem d_MO_allOf_49 : decode b_MO_allOf 49 = .ok (.getfield 42, 3) := by decide +kernel
theorem d_MO_allOf_52 : decode b_MO_allOf 52 = .ok (.iconst 4, 1) := by decide +kernel
theorem d_MO_allOf_53 : decode b_MO_allOf 53 = .ok (.iload_n 1, 1) := by decide +kernel
theorem d_MO_allOf_54 : decode b_MO_allOf 54 = .ok (.imul, 1) := by decide +kernel
theorem d_MO_allOf_55 : decode b_MO_allOf 55 = .ok (.iload 4, 2) := by decide +kernel
theorem d_MO_allOf_57 : decode b_MO_allOf 57 = .ok (.iadd, 1) := by decide +kernel
theorem d_MO_allOf_58 : decode b_MO_allOf 58 = .ok (.iaload, 1) := by decide +kernel
theorem d_MO_allOf_59 : decode b_MO_allOf 59 = .ok (.invokestatic 204, 3) := by decide +kernel
theorem d_MO_allOf_62 : decode b_MO_allOf 62 = .ok (.istore 5, 2) := by decide +kernel
theorem d_MO_allOf_64 : decode b_MO_allOf 64 = .ok (.iload_n 2, 1) := by decide +kernel
theorem d_MO_allOf_65 : decode b_MO_allOf 65 = .ok (.aload_n 0, 1) := by decide +kernel
theorem d_MO_allOf_66 : decode b_MO_allOf 66 = .ok (.getfield 48, 3) := by decide +kernel
theorem d_MO_allOf_69 : decode b_MO_allOf 69 = .ok (.iload 5, 2) := by decide +kernel
theorem d_MO_allOf_71 : decode b_MO_allOf 71 = .ok (.iaload, 1) := by decide +kernel
theorem d_MO_allOf_72 : decode b_MO_allOf 72 = .ok (.iadd, 1) := by decide +kernel
theorem d_MO_allOf_73 : decode b_MO_allOf 73 = .ok (.istore_n 2, 1) := by decide +kernel
theorem d_MO_allOf_74 : decode b_MO_allOf 74 = .ok (.iload_n 3, 1) := by decide +kernel
theorem d_MO_allOf_75 : decode b_MO_allOf 75 = .ok (.aload_n 0, 1) := by decide +kernel
theorem d_MO_allOf_76 : decode b_MO_allOf 76 = .ok (.getfield 51, 3) := by decide +kernel
theorem d_MO_allOf_79 : decode b_MO_allOf 79 = .ok (.iload 5, 2) := by decide +kernel
theorem d_MO_allOf_81 : decode b_MO_allOf 81 = .ok (.iaload, 1) := by decide +kernel
theorem d_MO_allOf_82 : decode b_MO_allOf 82 = .ok (.iadd, 1) := by decide +kernel
theorem d_MO_allOf_83 : decode b_MO_allOf 83 = .ok (.istore_n 3, 1) := by decide +kernel
theorem d_MO_allOf_84 : decode b_MO_allOf 84 = .ok (.iinc 4 1, 3) := by decide +kernel
theorem d_MO_allOf_87 : decode b_MO_allOf 87 = .ok (.goto (-80), 3) := by decide +kernel
theorem d_MO_allOf_90 : decode b_MO_allOf 90 = .ok (.aload_n 0, 1) := by decide +kernel
theorem d_MO_allOf_91 : decode b_MO_allOf 91 = .ok (.iload_n 2, 1) := by decide +kernel
theorem d_MO_allOf_92 : decode b_MO_allOf 92 = .ok (.iload_n 3, 1) := by decide +kernel
theorem d_MO_allOf_93 : decode b_MO_allOf 93 = .ok (.invokevirtual 188, 3) := by decide +kernel
theorem d_MO_allOf_96 : decode b_MO_allOf 96 = .ok (.return_, 1) := by decide +kernel
set_option maxRecDepth 100000 in
set_option maxHeartbeats 1000000 in
theorem s_MO_allOf (u : ab_S) (P : Nat) (kd ar cn lf : Nat → Nat) (ch : Nat → Nat → Nat) (W : tW P kd ar cn lf ch) (T : tR P kd ar cn ch u) (p1 : Nat) (h : mR u.2.1) (hp : p1 < P) (hk : kd p1 = 7) (hl : ∀ c, p1 < c → c < P → lk u (3 * c) ∧ lk u (3 * c + 1) ∧ lk u (3 * c + 2)) : ab_C false l D ca y_MO_allOf b_MO_allOf 6 none 1 ab_nQ u [ab_O 17 0, ab_I (nI p1)] (fun u' v => (gP [18, 19] u u' ∧ u'.1 17 0 18 = nI  (wl u p1 (cn p1) (ch p1) 18)) ∧ v = none) := by
  refine ab_C.of (by decide) (Nat.le_of_ble_eq_true rfl) ?_
  intro p e s m args below meth c ad X hZ hr0 hlk
  have P0 : gP [18, 19] u u := gP.rf h
  obtain ⟨w1, w2, w3⟩ := W
  obtain ⟨n2, n4, -, -, b5, b6⟩ := (w3 p1 hp).2.2 (by omega)
  obtain ⟨-, ea, ec, ech⟩ := T.2 p1 hp
  have loop : ∀ (k j : Nat) (y : Int32), k + j = cn p1 → ab_J p l e (ab_rm 1 0 0) s m args below meth c (MQ below (ab_Q D ca ad ab_nQ s.heap.size (fun u' v => (gP [18, 19] u u' ∧ u'.1 17 0 18 = nI  (wl u p1 (cn p1) (ch p1) 18)) ∧ v = none)) args s 0 0 (ab_A ad ab_nQ s.heap.size)) D ca (ab_A ad ab_nQ s.heap.size) s.heap 6 0 0 ad ab_nQ u 7 [(4, ab_I (nI j)), (3, ab_I y), (2, ab_I (nI (sm (fun i => if i + 1 < cn p1 then lnu u (3 * ch p1 i + 2) else lnu u (3 * ch p1 i)) j))), (0, ab_O 17 0), (1, ab_I (nI p1))] [] := by
    intro k
    induction k with
    | zero =>
      intro j y hj
      obtain rfl : j = cn p1 := by omega
      refine ab_iload X 0 d_MO_allOf_7 rfl ?_
      refine ab_aload_n X 3 d_MO_allOf_9 rfl rfl ?_
      refine ab_gR X fl_MO_39 d_MO_allOf_10 (by first | assumption | decide | (show _ < 124; omega) | (show _ < 61; omega) | (show _ < 20; omega)) (P0.1.mo9) ?_
      refine ab_iload_n X 4 d_MO_allOf_13 rfl rfl ?_
      refine ab_iald X (p1) ⟨rfl, rfl⟩ d_MO_allOf_14 (by first | assumption | decide | (show _ < 124; omega) | (show _ < 61; omega) | (show _ < 20; omega)) (rfl) (show p1 < 40 by omega) (ab_ln_lt _ _) ?_
      refine ab_top ec ?_
      refine ab_icmp_ge X 90 d_MO_allOf_15 rfl (fun _ => ?_) (fun hb => absurd ((nI_le (Nat.le_refl _) (by omega))) hb)
      refine ab_aload_n X 3 d_MO_allOf_90 rfl rfl ?_
      refine ab_iload_n X 2 d_MO_allOf_91 rfl rfl ?_
      refine ab_iload_n X 1 d_MO_allOf_92 rfl rfl ?_
      refine ab_callV (as := [ab_I _, ab_I _]) X (fun h => by cases h) (s_MO_is u _ _ h) lk_MO_188 d_MO_allOf_93 rfl rfl (by first | assumption | decide | (show _ < 124; omega) | (show _ < 61; omega) | (show _ < 20; omega)) ⟨by first | exact Nat.le_of_ble_eq_true rfl | (simp only [ab_rm]; omega), by first | exact Nat.le_of_ble_eq_true rfl | (simp only [ab_rm]; omega)⟩ ⟨by first | exact Nat.le_of_ble_eq_true rfl | (simp only [ab_rm]; omega), by first | exact Nat.le_of_ble_eq_true rfl | (simp only [ab_rm]; omega)⟩ (Nat.le_of_ble_eq_true rfl) (fun u93 r93 h93 => ?_)
      obtain ⟨⟨q93, a93⟩, rfl⟩ := h93
      have P93 := P0.trans q93 (by decide)
      exact ab_retv X hr0 hlk d_MO_allOf_96 ⟨⟨P93, a93⟩, rfl⟩
    | succ k ih =>
      intro j y hj
      obtain ⟨c1', c2⟩ := b5 j (by omega)
      obtain ⟨l1, l2, l3⟩ := hl (ch p1 j) c1' c2
      refine ab_iload X 0 d_MO_allOf_7 rfl ?_
      refine ab_aload_n X 3 d_MO_allOf_9 rfl rfl ?_
      refine ab_gR X fl_MO_39 d_MO_allOf_10 (by first | assumption | decide | (show _ < 124; omega) | (show _ < 61; omega) | (show _ < 20; omega)) (P0.1.mo9) ?_
      refine ab_iload_n X 4 d_MO_allOf_13 rfl rfl ?_
      refine ab_iald X (p1) ⟨rfl, rfl⟩ d_MO_allOf_14 (by first | assumption | decide | (show _ < 124; omega) | (show _ < 61; omega) | (show _ < 20; omega)) (rfl) (show p1 < 40 by omega) (ab_ln_lt _ _) ?_
      refine ab_top ec ?_
      refine ab_icmp_ge X 90 d_MO_allOf_15 rfl (fun hb => absurd hb ((nI_ge (by omega) (by omega)))) (fun _ => ?_)
      refine ab_iload X 0 d_MO_allOf_18 rfl ?_
      refine ab_iconst (v := 1) X d_MO_allOf_20 (by decide) ?_
      refine ab_iadd X d_MO_allOf_21 ?_
      refine ab_top (nI_1 _) ?_
      refine ab_aload_n X 3 d_MO_allOf_22 rfl rfl ?_
      refine ab_gR X fl_MO_39 d_MO_allOf_23 (by first | assumption | decide | (show _ < 124; omega) | (show _ < 61; omega) | (show _ < 20; omega)) (P0.1.mo9) ?_
      refine ab_iload_n X 4 d_MO_allOf_26 rfl rfl ?_
      refine ab_iald X (p1) ⟨rfl, rfl⟩ d_MO_allOf_27 (by first | assumption | decide | (show _ < 124; omega) | (show _ < 61; omega) | (show _ < 20; omega)) (rfl) (show p1 < 40 by omega) (ab_ln_lt _ _) ?_
      refine ab_top ec ?_
      refine ab_icmp_ge X 48 d_MO_allOf_28 rfl (fun h28 => ?_) (fun h28 => ?_)
      ·
        have hc := nI_le_of h28 (by omega)
        refine ab_aload_n X 3 d_MO_allOf_48 rfl rfl ?_
        refine ab_gR X fl_MO_42 d_MO_allOf_49 (by first | assumption | decide | (show _ < 124; omega) | (show _ < 61; omega) | (show _ < 20; omega)) (P0.1.mo10) ?_
        refine ab_iconst (v := 4) X d_MO_allOf_52 (by decide) ?_
        refine ab_iload_n X 4 d_MO_allOf_53 rfl rfl ?_
        refine ab_imul X d_MO_allOf_54 ?_
        refine ab_iload X 0 d_MO_allOf_55 rfl ?_
        refine ab_iadd X d_MO_allOf_57 ?_
        refine ab_iald X (4 * p1 + j) ⟨rfl, rfl⟩ d_MO_allOf_58 (by first | assumption | decide | (show _ < 124; omega) | (show _ < 61; omega) | (show _ < 20; omega)) (nI_4a p1 j) (show 4 * p1 + j < 160 by omega) (ab_ln_lt _ _) ?_
        refine ab_top (ech j (by omega)) ?_
        refine ab_callS (as := [ab_I (nI (ch p1 j))]) X (fun h => by cases h) (t_MO_b u (ch p1 j)) ls_MO_204 d_MO_allOf_59 rfl rfl ⟨by first | exact Nat.le_of_ble_eq_true rfl | (simp only [ab_rm]; omega), by first | exact Nat.le_of_ble_eq_true rfl | (simp only [ab_rm]; omega)⟩ ⟨by first | exact Nat.le_of_ble_eq_true rfl | (simp only [ab_rm]; omega), by first | exact Nat.le_of_ble_eq_true rfl | (simp only [ab_rm]; omega)⟩ (Nat.le_of_ble_eq_true rfl) (fun u59 r59 h59 => ?_)
        obtain ⟨e59, rfl⟩ := h59
        subst u59
        refine ab_istore5 X 0 1 2 3 4 d_MO_allOf_62 (by decide) rfl rfl rfl rfl rfl rfl rfl rfl rfl rfl ?_
        refine ab_iload_n X 3 d_MO_allOf_64 rfl rfl ?_
        refine ab_aload_n X 4 d_MO_allOf_65 rfl rfl ?_
        refine ab_gR X fl_MO_48 d_MO_allOf_66 (by first | assumption | decide | (show _ < 124; omega) | (show _ < 61; omega) | (show _ < 20; omega)) (P0.1.mo12) ?_
        refine ab_iload X 0 d_MO_allOf_69 rfl ?_
        refine ab_iald X (_) ⟨rfl, rfl⟩ d_MO_allOf_71 (by first | assumption | decide | (show _ < 124; omega) | (show _ < 61; omega) | (show _ < 20; omega)) (rfl) (by show _ < 72; omega) (ab_ln_lt _ _) ?_
        refine ab_top (show _ = nI (if j + 1 < cn p1 then lnu u (3 * ch p1 j + 2) else lnu u (3 * ch p1 j)) by first | (rw [if_pos hc]; exact l3.1) | (rw [if_neg (by omega)]; exact l1.1)) ?_
        refine ab_iadd X d_MO_allOf_72 ?_
        refine ab_top (nI_add _ _) ?_
        refine ab_istore_n5 X 0 1 2 4 5 d_MO_allOf_73 rfl (by decide) rfl rfl rfl rfl rfl rfl rfl rfl rfl rfl ?_
        refine ab_iload_n X 3 d_MO_allOf_74 rfl rfl ?_
        refine ab_aload_n X 4 d_MO_allOf_75 rfl rfl ?_
        refine ab_gR X fl_MO_51 d_MO_allOf_76 (by first | assumption | decide | (show _ < 124; omega) | (show _ < 61; omega) | (show _ < 20; omega)) (P0.1.mo13) ?_
        refine ab_iload X 1 d_MO_allOf_79 rfl ?_
        refine ab_iald X (_) ⟨rfl, rfl⟩ d_MO_allOf_81 (by first | assumption | decide | (show _ < 124; omega) | (show _ < 61; omega) | (show _ < 20; omega)) (rfl) (by show _ < 72; omega) (ab_ln_lt _ _) ?_
        refine ab_iadd X d_MO_allOf_82 ?_
        refine ab_istore_n5 X 0 1 2 4 5 d_MO_allOf_83 rfl (by decide) rfl rfl rfl rfl rfl rfl rfl rfl rfl rfl ?_
        refine ab_iinc5 X 3 0 1 2 4 5 d_MO_allOf_84 rfl (by decide) rfl rfl rfl rfl rfl rfl rfl rfl rfl rfl ?_
        refine ab_goto X 7 d_MO_allOf_87 rfl ?_
        refine ab_lv (List.forall_mem_cons.mpr ⟨List.mem_of_getElem? (i := 0) rfl, List.forall_mem_cons.mpr ⟨List.mem_of_getElem? (i := 1) rfl, List.forall_mem_cons.mpr ⟨List.mem_of_getElem? (i := 2) rfl, List.forall_mem_cons.mpr ⟨List.mem_of_getElem? (i := 4) rfl, List.forall_mem_cons.mpr ⟨List.mem_of_getElem? (i := 5) rfl, fun _ h => absurd h List.not_mem_nil⟩⟩⟩⟩⟩) ?_
        rw [show nI j + Int32.ofInt 1 = nI (j + 1) from nI_1 j]
        exact ih (j + 1) _ (by omega)
      ·
        have hc := nI_lt_of h28 (by omega)
        refine ab_aload_n X 3 d_MO_allOf_31 rfl rfl ?_
        refine ab_gR X fl_MO_42 d_MO_allOf_32 (by first | assumption | decide | (show _ < 124; omega) | (show _ < 61; omega) | (show _ < 20; omega)) (P0.1.mo10) ?_
        refine ab_iconst (v := 4) X d_MO_allOf_35 (by decide) ?_
        refine ab_iload_n X 4 d_MO_allOf_36 rfl rfl ?_
        refine ab_imul X d_MO_allOf_37 ?_
        refine ab_iload X 0 d_MO_allOf_38 rfl ?_
        refine ab_iadd X d_MO_allOf_40 ?_
        refine ab_iald X (4 * p1 + j) ⟨rfl, rfl⟩ d_MO_allOf_41 (by first | assumption | decide | (show _ < 124; omega) | (show _ < 61; omega) | (show _ < 20; omega)) (nI_4a p1 j) (show 4 * p1 + j < 160 by omega) (ab_ln_lt _ _) ?_
        refine ab_top (ech j (by omega)) ?_
        refine ab_callS (as := [ab_I (nI (ch p1 j))]) X (fun h => by cases h) (t_MO_v u (ch p1 j)) ls_MO_201 d_MO_allOf_42 rfl rfl ⟨by first | exact Nat.le_of_ble_eq_true rfl | (simp only [ab_rm]; omega), by first | exact Nat.le_of_ble_eq_true rfl | (simp only [ab_rm]; omega)⟩ ⟨by first | exact Nat.le_of_ble_eq_true rfl | (simp only [ab_rm]; omega), by first | exact Nat.le_of_ble_eq_true rfl | (simp only [ab_rm]; omega)⟩ (Nat.le_of_ble_eq_true rfl) (fun u42 r42 h42 => ?_)
        obtain ⟨e42, rfl⟩ := h42
        subst u42
        refine ab_goto X 62 d_MO_allOf_45 rfl ?_
        refine ab_istore5 X 0 1 2 3 4 d_MO_allOf_62 (by decide) rfl rfl rfl rfl rfl rfl rfl rfl rfl rfl ?_
        refine ab_iload_n X 3 d_MO_allOf_64 rfl rfl ?_
        refine ab_aload_n X 4 d_MO_allOf_65 rfl rfl ?_
        refine ab_gR X fl_MO_48 d_MO_allOf_66 (by first | assumption | decide | (show _ < 124; omega) | (show _ < 61; omega) | (show _ < 20; omega)) (P0.1.mo12) ?_
        refine ab_iload X 0 d_MO_allOf_69 rfl ?_
        refine ab_iald X (_) ⟨rfl, rfl⟩ d_MO_allOf_71 (by first | assumption | decide | (show _ < 124; omega) | (show _ < 61; omega) | (show _ < 20; omega)) (rfl) (by show _ < 72; omega) (ab_ln_lt _ _) ?_
        refine ab_top (show _ = nI (if j + 1 < cn p1 then lnu u (3 * ch p1 j + 2) else lnu u (3 * ch p1 j)) by first | (rw [if_pos hc]; exact l3.1) | (rw [if_neg (by omega)]; exact l1.1)) ?_
        refine ab_iadd X d_MO_allOf_72 ?_
        refine ab_top (nI_add _ _) ?_
        refine ab_istore_n5 X 0 1 2 4 5 d_MO_allOf_73 rfl (by decide) rfl rfl rfl rfl rfl rfl rfl rfl rfl rfl ?_
        refine ab_iload_n X 3 d_MO_allOf_74 rfl rfl ?_
        refine ab_aload_n X 4 d_MO_allOf_75 rfl rfl ?_
        refine ab_gR X fl_MO_51 d_MO_allOf_76 (by first | assumption | decide | (show _ < 124; omega) | (show _ < 61; omega) | (show _ < 20; omega)) (P0.1.mo13) ?_
        refine ab_iload X 1 d_MO_allOf_79 rfl ?_
        refine ab_iald X (_) ⟨rfl, rfl⟩ d_MO_allOf_81 (by first | assumption | decide | (show _ < 124; omega) | (show _ < 61; omega) | (show _ < 20; omega)) (rfl) (by show _ < 72; omega) (ab_ln_lt _ _) ?_
        refine ab_iadd X d_MO_allOf_82 ?_
        refine ab_istore_n5 X 0 1 2 4 5 d_MO_allOf_83 rfl (by decide) rfl rfl rfl rfl rfl rfl rfl rfl rfl rfl ?_
        refine ab_iinc5 X 3 0 1 2 4 5 d_MO_allOf_84 rfl (by decide) rfl rfl rfl rfl rfl rfl rfl rfl rfl rfl ?_
        refine ab_goto X 7 d_MO_allOf_87 rfl ?_
        refine ab_lv (List.forall_mem_cons.mpr ⟨List.mem_of_getElem? (i := 0) rfl, List.forall_mem_cons.mpr ⟨List.mem_of_getElem? (i := 1) rfl, List.forall_mem_cons.mpr ⟨List.mem_of_getElem? (i := 2) rfl, List.forall_mem_cons.mpr ⟨List.mem_of_getElem? (i := 4) rfl, List.forall_mem_cons.mpr ⟨List.mem_of_getElem? (i := 5) rfl, fun _ h => absurd h List.not_mem_nil⟩⟩⟩⟩⟩) ?_
        rw [show nI j + Int32.ofInt 1 = nI (j + 1) from nI_1 j]
        exact ih (j + 1) _ (by omega)
  refine ab_iconst (v := 0) X d_MO_allOf_0 (by decide) ?_
  refine ab_istore_n2 X 0 1 d_MO_allOf_1 rfl (by decide) rfl rfl rfl rfl ?_
  refine ab_iconst (v := 0) X d_MO_allOf_2 (by decide) ?_
  refine ab_istore_n3 X 0 1 2 d_MO_allOf_3 rfl (by decide) rfl rfl rfl rfl rfl rfl ?_
  refine ab_iconst (v := 0) X d_MO_allOf_4 (by decide) ?_
  refine ab_istore4 X 0 1 2 3 d_MO_allOf_5 (by decide) rfl rfl rfl rfl rfl rfl rfl rfl ?_
  exact loop (cn p1) 0 _ (by omega)
end SaMForm

