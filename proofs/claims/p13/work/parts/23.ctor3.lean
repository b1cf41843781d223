/-! The constructor of PolicyForge. -/
def ab_u1 : ab_S := ab_ur (ab_uL 19) 0 0 0 (some (1, 0))
def ab_u2 : ab_S := ab_ur (ab_form ab_u1 60 60 120 120 0) 0 0 1 (some (3, 60))
def ab_u3 : ab_S := ab_ur (ab_ur ab_u2 4 122 0 (some (8, 122))) 0 0 2 (some (4, 122))
def ab_u4 : ab_S := ab_ur (ab_ur (ab_ur ab_u3 5 0 0 (some (13, 0))) 5 0 1 (some (14, 0))) 0 0 3 (some (5, 0))
def ab_u5 : ab_S := ab_ur ab_u4 0 0 4 (some (6, 0))
def ab_u6 : ab_S := ab_ur (ab_ur ab_u5 4 123 0 (some (8, 123))) 0 0 5 (some (4, 123))
def ab_u7 : ab_S := ab_ur (ab_ur (ab_ur ab_u6 7 0 0 (some (15, 0))) 7 0 1 (some (16, 0))) 0 0 6 (some (7, 0))
def ab_uC : ab_S := ab_ui (ab_ui (ab_ui ab_u7 4 123 1 0) 4 123 2 0) 4 123 3 1
def ab_n1 : Nat → Nat := ab_nl [1, 1, 20, 60, 120, 0, 0, 0, 120, 60, 20, 1, 1]
def ab_n2 : Nat → Nat := ab_nl [1, 1, 20, 61, 122, 0, 0, 0, 122, 61, 20, 1, 1]
def ab_n3 : Nat → Nat := ab_nl [1, 1, 20, 61, 123, 0, 0, 0, 123, 61, 20, 1, 1]
def ab_n4 : Nat → Nat := ab_nl [1, 1, 20, 61, 123, 1, 0, 0, 123, 61, 20, 1, 1, 1, 1]
def ab_n5 : Nat → Nat := ab_nl [1, 1, 20, 61, 123, 1, 1, 0, 123, 61, 20, 1, 1, 1, 1]
def ab_n6 : Nat → Nat := ab_nl [1, 1, 20, 61, 124, 1, 1, 0, 124, 61, 20, 1, 1, 1, 1]
def ab_n7 : Nat → Nat := ab_nl [1, 1, 20, 61, 124, 1, 1, 1, 124, 61, 20, 1, 1, 1, 1, 1, 1]
theorem ab_nl_out {l : List Nat} {c : Nat} (h : l.length ≤ c) : ab_nl l c = 0 := by
  unfold ab_nl
  rw [List.getD_eq_getElem?_getD, List.getElem?_eq_none h]; rfl
theorem ab_nx_out {N : Nat → Nat} {k c n : Nat} (hk : k < n) (hc : n ≤ c) (h : N c = 0) : ab_nx N k c = 0 := by
  unfold ab_nx
  rw [if_neg (by omega)]; exact h
theorem ab_nF_out {N : Nat → Nat} {c : Nat} (hc : 17 ≤ c) (h : N c = 0) : ab_nF N c = 0 := ab_nx_out (n := 17) (by decide) hc (ab_nx_out (n := 17) (by decide) hc (ab_nx_out (n := 17) (by decide) hc (ab_nx_out (n := 17) (by decide) hc (ab_nx_out (n := 17) (by decide) hc h))))
/-- two counts agree if they do below 17 and hold nothing from there on -/
theorem ab_n_ext {N M : Nat → Nat} (h : (List.range 17).all (fun c => decide (N c = M c)) = true) (h1 : ∀ c, 17 ≤ c → N c = 0) (h2 : ∀ c, 17 ≤ c → M c = 0) : N = M := by
  funext c
  by_cases hc : c < 17
  · exact of_decide_eq_true (List.all_eq_true.mp h c (List.mem_range.mpr hc))
  · rw [h1 c (by omega), h2 c (by omega)]
theorem ab_e0 : ab_nx (ab_nl [1]) 1 = ab_nl [1, 1] := ab_n_ext (by decide +kernel) (fun c h => ab_nx_out (n := 17) (by decide) h (ab_nl_out (by simp; omega))) (fun c h => ab_nl_out (by simp; omega))
theorem ab_e1 : ab_NL 19 = ab_n1 := ab_n_ext (by decide +kernel) (fun c h => ab_nl_out (by simp; omega)) (fun c h => ab_nl_out (by simp; omega))
theorem ab_e2 : ab_nF (ab_nx ab_n1 3) = ab_n2 := ab_n_ext (by decide +kernel) (fun c h => ab_nF_out h (ab_nx_out (n := 17) (by decide) h (ab_nl_out (by simp; omega)))) (fun c h => ab_nl_out (by simp; omega))
theorem ab_e3 : ab_nx (ab_nx ab_n2 4) 8 = ab_n3 := ab_n_ext (by decide +kernel) (fun c h => ab_nx_out (n := 17) (by decide) h (ab_nx_out (n := 17) (by decide) h (ab_nl_out (by simp; omega)))) (fun c h => ab_nl_out (by simp; omega))
theorem ab_e4 : ab_nx (ab_nx (ab_nx ab_n3 5) 13) 14 = ab_n4 := ab_n_ext (by decide +kernel) (fun c h => ab_nx_out (n := 17) (by decide) h (ab_nx_out (n := 17) (by decide) h (ab_nx_out (n := 17) (by decide) h (ab_nl_out (by simp; omega))))) (fun c h => ab_nl_out (by simp; omega))
theorem ab_e5 : ab_nx ab_n4 6 = ab_n5 := ab_n_ext (by decide +kernel) (fun c h => ab_nx_out (n := 17) (by decide) h (ab_nl_out (by simp; omega))) (fun c h => ab_nl_out (by simp; omega))
theorem ab_e6 : ab_nx (ab_nx ab_n5 4) 8 = ab_n6 := ab_n_ext (by decide +kernel) (fun c h => ab_nx_out (n := 17) (by decide) h (ab_nx_out (n := 17) (by decide) h (ab_nl_out (by simp; omega)))) (fun c h => ab_nl_out (by simp; omega))
theorem ab_e7 : ab_nx (ab_nx (ab_nx ab_n6 7) 15) 16 = ab_n7 := ab_n_ext (by decide +kernel) (fun c h => ab_nx_out (n := 17) (by decide) h (ab_nx_out (n := 17) (by decide) h (ab_nx_out (n := 17) (by decide) h (ab_nl_out (by simp; omega))))) (fun c h => ab_nl_out (by simp; omega))
theorem ab_g1 : ab_G ab_n1 ab_u1 := by
  have h := ab_G_uL 19
  rw [ab_e1] at h
  exact h.ur (c := 0) (i := 0) (k := 0) (r := some (1, 0)) (by decide) (Or.inl (by decide))
theorem ab_g2 : ab_G ab_n2 ab_u2 := by
  have h := ab_G_form (ab_g1.more (ab_nx_le _ 3)) (f := 60) (by decide) 0
  rw [ab_e2] at h
  exact h.ur (c := 0) (i := 0) (k := 1) (r := some (3, 60)) (by decide) (Or.inl (by decide))
theorem ab_g3 : ab_G ab_n3 ab_u3 := by
  have h := ((ab_g2.more (ab_nx_le _ 4)).more (ab_nx_le _ 8))
  rw [ab_e3] at h
  exact (h.ur (c := 4) (i := 122) (k := 0) (r := some (8, 122)) (by decide) (Or.inl (by decide))).ur (c := 0) (i := 0) (k := 2) (r := some (4, 122)) (by decide) (Or.inl (by decide))
theorem ab_g4 : ab_G ab_n4 ab_u4 := by
  have h := (((ab_g3.more (ab_nx_le _ 5)).more (ab_nx_le _ 13)).more (ab_nx_le _ 14))
  rw [ab_e4] at h
  exact ((h.ur (c := 5) (i := 0) (k := 0) (r := some (13, 0)) (by decide) (Or.inl (by decide))).ur (c := 5) (i := 0) (k := 1) (r := some (14, 0)) (by decide) (Or.inl (by decide))).ur (c := 0) (i := 0) (k := 3) (r := some (5, 0)) (by decide) (Or.inl (by decide))
theorem ab_g5 : ab_G ab_n5 ab_u5 := by
  have h := ab_g4.more (ab_nx_le _ 6)
  rw [ab_e5] at h
  exact h.ur (c := 0) (i := 0) (k := 4) (r := some (6, 0)) (by decide) (Or.inl (by decide))
theorem ab_g6 : ab_G ab_n6 ab_u6 := by
  have h := ((ab_g5.more (ab_nx_le _ 4)).more (ab_nx_le _ 8))
  rw [ab_e6] at h
  exact (h.ur (c := 4) (i := 123) (k := 0) (r := some (8, 123)) (by decide) (Or.inl (by decide))).ur (c := 0) (i := 0) (k := 5) (r := some (4, 123)) (by decide) (Or.inl (by decide))
theorem ab_g7 : ab_G ab_n7 ab_u7 := by
  have h := (((ab_g6.more (ab_nx_le _ 7)).more (ab_nx_le _ 15)).more (ab_nx_le _ 16))
  rw [ab_e7] at h
  exact ((h.ur (c := 7) (i := 0) (k := 0) (r := some (15, 0)) (by decide) (Or.inl (by decide))).ur (c := 7) (i := 0) (k := 1) (r := some (16, 0)) (by decide) (Or.inl (by decide))).ur (c := 0) (i := 0) (k := 6) (r := some (7, 0)) (by decide) (Or.inl (by decide))
theorem ab_gC : ab_G ab_n7 ab_uC := ((ab_g7.ui (c := 4) (i := 123) (k := 1) (by decide) 0).ui (c := 4) (i := 123) (k := 2) (by decide) 0).ui (c := 4) (i := 123) (k := 3) (by decide) 1
theorem ab_le17 {N M : Nat → Nat} (h : (List.range 17).all (fun c => decide (N c ≤ M c)) = true) (h1 : ∀ c, 17 ≤ c → N c = 0) (c : Nat) : N c ≤ M c := by
  by_cases hc : c < 17
  · exact of_decide_eq_true (List.all_eq_true.mp h c (List.mem_range.mpr hc))
  · rw [h1 c (by omega)]; exact Nat.zero_le _
abbrev b_PF_init : ByteArray := prog_1_method_1_code
def y_PF_init : MethodName := ⟨"PolicyForge", "<init>", "()V"⟩
theorem d_PF_init_0 : decode b_PF_init 0 = .ok (.aload_n 0, 1) := by decide +kernel
theorem d_PF_init_1 : decode b_PF_init 1 = .ok (.invokespecial 3, 3) := by decide +kernel
theorem d_PF_init_4 : decode b_PF_init 4 = .ok (.aload_n 0, 1) := by decide +kernel
theorem d_PF_init_5 : decode b_PF_init 5 = .ok (.new 9, 3) := by decide +kernel
theorem d_PF_init_8 : decode b_PF_init 8 = .ok (.dup, 1) := by decide +kernel
theorem d_PF_init_9 : decode b_PF_init 9 = .ok (.invokespecial 11, 3) := by decide +kernel
theorem d_PF_init_12 : decode b_PF_init 12 = .ok (.putfield 12, 3) := by decide +kernel
theorem d_PF_init_15 : decode b_PF_init 15 = .ok (.aload_n 0, 1) := by decide +kernel
theorem d_PF_init_16 : decode b_PF_init 16 = .ok (.new 16, 3) := by decide +kernel
theorem d_PF_init_19 : decode b_PF_init 19 = .ok (.dup, 1) := by decide +kernel
theorem d_PF_init_20 : decode b_PF_init 20 = .ok (.iconst 0, 1) := by decide +kernel
theorem d_PF_init_21 : decode b_PF_init 21 = .ok (.invokespecial 18, 3) := by decide +kernel
theorem d_PF_init_24 : decode b_PF_init 24 = .ok (.putfield 21, 3) := by decide +kernel
theorem d_PF_init_27 : decode b_PF_init 27 = .ok (.aload_n 0, 1) := by decide +kernel
theorem d_PF_init_28 : decode b_PF_init 28 = .ok (.new 25, 3) := by decide +kernel
theorem d_PF_init_31 : decode b_PF_init 31 = .ok (.dup, 1) := by decide +kernel
theorem d_PF_init_32 : decode b_PF_init 32 = .ok (.bipush 40, 2) := by decide +kernel
theorem d_PF_init_34 : decode b_PF_init 34 = .ok (.invokespecial 27, 3) := by decide +kernel
theorem d_PF_init_37 : decode b_PF_init 37 = .ok (.putfield 30, 3) := by decide +kernel
theorem d_PF_init_40 : decode b_PF_init 40 = .ok (.aload_n 0, 1) := by decide +kernel
theorem d_PF_init_41 : decode b_PF_init 41 = .ok (.new 34, 3) := by decide +kernel
theorem d_PF_init_44 : decode b_PF_init 44 = .ok (.dup, 1) := by decide +kernel
theorem d_PF_init_45 : decode b_PF_init 45 = .ok (.invokespecial 36, 3) := by decide +kernel
theorem d_PF_init_48 : decode b_PF_init 48 = .ok (.putfield 37, 3) := by decide +kernel
theorem d_PF_init_51 : decode b_PF_init 51 = .ok (.aload_n 0, 1) := by decide +kernel
theorem d_PF_init_52 : decode b_PF_init 52 = .ok (.new 41, 3) := by decide +kernel
theorem d_PF_init_55 : decode b_PF_init 55 = .ok (.dup, 1) := by decide +kernel
theorem d_PF_init_56 : decode b_PF_init 56 = .ok (.invokespecial 43, 3) := by decide +kernel
theorem d_PF_init_59 : decode b_PF_init 59 = .ok (.putfield 44, 3) := by decide +kernel
theorem d_PF_init_62 : decode b_PF_init 62 = .ok (.aload_n 0, 1) := by decide +kernel
theorem d_PF_init_63 : decode b_PF_init 63 = .ok (.new 25, 3) := by decide +kernel
theorem d_PF_init_66 : decode b_PF_init 66 = .ok (.dup, 1) := by decide +kernel
theorem d_PF_init_67 : decode b_PF_init 67 = .ok (.bipush 40, 2) := by decide +kernel
theorem d_PF_init_69 : decode b_PF_init 69 = .ok (.invokespecial 27, 3) := by decide +kernel
theorem d_PF_init_72 : decode b_PF_init 72 = .ok (.putfield 48, 3) := by decide +kernel
theorem d_PF_init_75 : decode b_PF_init 75 = .ok (.aload_n 0, 1) := by decide +kernel
theorem d_PF_init_76 : decode b_PF_init 76 = .ok (.new 51, 3) := by decide +kernel
theorem d_PF_init_79 : decode b_PF_init 79 = .ok (.dup, 1) := by decide +kernel
theorem d_PF_init_80 : decode b_PF_init 80 = .ok (.invokespecial 53, 3) := by decide +kernel
theorem d_PF_init_83 : decode b_PF_init 83 = .ok (.putfield 54, 3) := by decide +kernel
theorem d_PF_init_86 : decode b_PF_init 86 = .ok (.aload_n 0, 1) := by decide +kernel
theorem d_PF_init_87 : decode b_PF_init 87 = .ok (.aconst_null, 1) := by decide +kernel
theorem d_PF_init_88 : decode b_PF_init 88 = .ok (.putfield 58, 3) := by decide +kernel
theorem d_PF_init_91 : decode b_PF_init 91 = .ok (.aload_n 0, 1) := by decide +kernel
theorem d_PF_init_92 : decode b_PF_init 92 = .ok (.getfield 48, 3) := by decide +kernel
theorem d_PF_init_95 : decode b_PF_init 95 = .ok (.invokevirtual 62, 3) := by decide +kernel
theorem d_PF_init_98 : decode b_PF_init 98 = .ok (.return_, 1) := by decide +kernel
theorem oi_PF_3 : ∀ w ∈ ([.methodLink "PolicyForge" 3 objectInit, .instanceMethod objectInit, .code objectInit ⟨#[0xb1]⟩ 1 none] : List Cond), w ∈ ab_T := List.forall_mem_cons.mpr ⟨(ab_in 119 (by decide +kernel) (by decide +kernel)), List.forall_mem_cons.mpr ⟨(ab_in 120 (by decide +kernel) (by decide +kernel)), List.forall_mem_cons.mpr ⟨(ab_in 121 (by decide +kernel) (by decide +kernel)), fun _ h => absurd h List.not_mem_nil⟩⟩⟩
theorem nw_PF_9 : ab_nw "PolicyForge" 9 1 8 := ⟨rfl, R_RD, T_RD, t_RD, rfl, uw_RD, t_RD_ok, List.forall_mem_cons.mpr ⟨(ab_in 122 (by decide +kernel) (by decide +kernel)), List.forall_mem_cons.mpr ⟨(ab_in 123 (by decide +kernel) (by decide +kernel)), List.forall_mem_cons.mpr ⟨(ab_in 93 (by decide +kernel) (by decide +kernel)), fun _ h => absurd h List.not_mem_nil⟩⟩⟩, rfl, by decide +kernel⟩
theorem lI_PF_11 : ab_lI "PolicyForge" 11 y_RD_init b_RD_init 2 0 := ⟨List.forall_mem_cons.mpr ⟨(ab_in 124 (by decide +kernel) (by decide +kernel)), List.forall_mem_cons.mpr ⟨(ab_in 125 (by decide +kernel) (by decide +kernel)), List.forall_mem_cons.mpr ⟨(ab_in 93 (by decide +kernel) (by decide +kernel)), List.forall_mem_cons.mpr ⟨(ab_in 126 (by decide +kernel) (by decide +kernel)), fun _ h => absurd h List.not_mem_nil⟩⟩⟩⟩, ⟨rfl, by decide +kernel, by decide +kernel, by decide +kernel⟩, by decide⟩
theorem uw_PF : ∀ w ∈ u_ws R_PF T_PF 8, w ∈ ab_T := fun w h => List.mem_filter.mpr ⟨by have h2 := h; revert w; decide +kernel, by revert w; decide +kernel⟩
theorem fF_PF_12 : ab_fF "PolicyForge" 12 0 0 1 (.object "PolicyForge$Reader") := ⟨rfl, R_PF, T_PF, 8, t_PF, rfl, uw_PF, by decide, rfl, (ab_in 355 (by decide +kernel) (by decide +kernel)), t_PF_ok, n_PF, rfl, rfl, rfl⟩
theorem nw_PF_16 : ab_nw "PolicyForge" 16 3 10 := ⟨rfl, R_FM, T_FM, t_FM, rfl, uw_FM, t_FM_ok, List.forall_mem_cons.mpr ⟨(ab_in 273 (by decide +kernel) (by decide +kernel)), List.forall_mem_cons.mpr ⟨(ab_in 137 (by decide +kernel) (by decide +kernel)), List.forall_mem_cons.mpr ⟨(ab_in 95 (by decide +kernel) (by decide +kernel)), fun _ h => absurd h List.not_mem_nil⟩⟩⟩, rfl, by decide +kernel⟩
theorem lI_PF_18 : ab_lI "PolicyForge" 18 y_FM_init b_FM_init 2 1 := ⟨List.forall_mem_cons.mpr ⟨(ab_in 274 (by decide +kernel) (by decide +kernel)), List.forall_mem_cons.mpr ⟨(ab_in 139 (by decide +kernel) (by decide +kernel)), List.forall_mem_cons.mpr ⟨(ab_in 95 (by decide +kernel) (by decide +kernel)), List.forall_mem_cons.mpr ⟨(ab_in 140 (by decide +kernel) (by decide +kernel)), fun _ h => absurd h List.not_mem_nil⟩⟩⟩⟩, ⟨rfl, by decide +kernel, by decide +kernel, by decide +kernel⟩, by decide⟩
theorem fF_PF_21 : ab_fF "PolicyForge" 21 0 1 1 (.object "PolicyForge$Form") := ⟨rfl, R_PF, T_PF, 8, t_PF, rfl, uw_PF, by decide, rfl, (ab_in 356 (by decide +kernel) (by decide +kernel)), t_PF_ok, n_PF, rfl, rfl, rfl⟩
theorem nw_PF_25 : ab_nw "PolicyForge" 25 4 4 := ⟨rfl, R_RW, T_RW, t_RW, rfl, uw_RW, t_RW_ok, List.forall_mem_cons.mpr ⟨(ab_in 275 (by decide +kernel) (by decide +kernel)), List.forall_mem_cons.mpr ⟨(ab_in 145 (by decide +kernel) (by decide +kernel)), List.forall_mem_cons.mpr ⟨(ab_in 96 (by decide +kernel) (by decide +kernel)), fun _ h => absurd h List.not_mem_nil⟩⟩⟩, rfl, by decide +kernel⟩
theorem lI_PF_27 : ab_lI "PolicyForge" 27 y_RW_init b_RW_init 2 1 := ⟨List.forall_mem_cons.mpr ⟨(ab_in 276 (by decide +kernel) (by decide +kernel)), List.forall_mem_cons.mpr ⟨(ab_in 147 (by decide +kernel) (by decide +kernel)), List.forall_mem_cons.mpr ⟨(ab_in 96 (by decide +kernel) (by decide +kernel)), List.forall_mem_cons.mpr ⟨(ab_in 148 (by decide +kernel) (by decide +kernel)), fun _ h => absurd h List.not_mem_nil⟩⟩⟩⟩, ⟨rfl, by decide +kernel, by decide +kernel, by decide +kernel⟩, by decide⟩
theorem fF_PF_30 : ab_fF "PolicyForge" 30 0 2 1 (.object "PolicyForge$Row") := ⟨rfl, R_PF, T_PF, 8, t_PF, rfl, uw_PF, by decide, rfl, (ab_in 357 (by decide +kernel) (by decide +kernel)), t_PF_ok, n_PF, rfl, rfl, rfl⟩
theorem nw_PF_34 : ab_nw "PolicyForge" 34 5 4 := ⟨rfl, R_SC, T_SC, t_SC, rfl, uw_SC, t_SC_ok, List.forall_mem_cons.mpr ⟨(ab_in 277 (by decide +kernel) (by decide +kernel)), List.forall_mem_cons.mpr ⟨(ab_in 278 (by decide +kernel) (by decide +kernel)), List.forall_mem_cons.mpr ⟨(ab_in 97 (by decide +kernel) (by decide +kernel)), fun _ h => absurd h List.not_mem_nil⟩⟩⟩, rfl, by decide +kernel⟩
theorem lI_PF_36 : ab_lIN "PolicyForge" 36 y_SC_init "PolicyForge" b_SC_init 1 0 := ⟨(List.mem_filter.mpr ⟨List.mem_of_getElem? (i := 279) (by decide +kernel), by decide +kernel⟩), List.forall_mem_cons.mpr ⟨(ab_in 280 (by decide +kernel) (by decide +kernel)), List.forall_mem_cons.mpr ⟨(ab_in 97 (by decide +kernel) (by decide +kernel)), List.forall_mem_cons.mpr ⟨(ab_in 281 (by decide +kernel) (by decide +kernel)), fun _ h => absurd h List.not_mem_nil⟩⟩⟩, ⟨rfl, by decide +kernel, by decide +kernel, by decide +kernel⟩, by decide⟩
theorem fF_PF_37 : ab_fF "PolicyForge" 37 0 3 1 (.object "PolicyForge$Script") := ⟨rfl, R_PF, T_PF, 8, t_PF, rfl, uw_PF, by decide, rfl, (ab_in 358 (by decide +kernel) (by decide +kernel)), t_PF_ok, n_PF, rfl, rfl, rfl⟩
theorem nw_PF_41 : ab_nw "PolicyForge" 41 6 4 := ⟨rfl, R_FA, T_FA, t_FA, rfl, uw_FA, t_FA_ok, List.forall_mem_cons.mpr ⟨(ab_in 303 (by decide +kernel) (by decide +kernel)), List.forall_mem_cons.mpr ⟨(ab_in 304 (by decide +kernel) (by decide +kernel)), List.forall_mem_cons.mpr ⟨(ab_in 98 (by decide +kernel) (by decide +kernel)), fun _ h => absurd h List.not_mem_nil⟩⟩⟩, rfl, by decide +kernel⟩
theorem lI_PF_43 : ab_lIN "PolicyForge" 43 y_FA_init "PolicyForge" b_FA_init 1 0 := ⟨(List.mem_filter.mpr ⟨List.mem_of_getElem? (i := 305) (by decide +kernel), by decide +kernel⟩), List.forall_mem_cons.mpr ⟨(ab_in 306 (by decide +kernel) (by decide +kernel)), List.forall_mem_cons.mpr ⟨(ab_in 98 (by decide +kernel) (by decide +kernel)), List.forall_mem_cons.mpr ⟨(ab_in 307 (by decide +kernel) (by decide +kernel)), fun _ h => absurd h List.not_mem_nil⟩⟩⟩, ⟨rfl, by decide +kernel, by decide +kernel, by decide +kernel⟩, by decide⟩
theorem fF_PF_44 : ab_fF "PolicyForge" 44 0 4 1 (.object "PolicyForge$Facts") := ⟨rfl, R_PF, T_PF, 8, t_PF, rfl, uw_PF, by decide, rfl, (ab_in 359 (by decide +kernel) (by decide +kernel)), t_PF_ok, n_PF, rfl, rfl, rfl⟩
theorem fF_PF_48 : ab_fF "PolicyForge" 48 0 5 1 (.object "PolicyForge$Row") := ⟨rfl, R_PF, T_PF, 8, t_PF, rfl, uw_PF, by decide, rfl, (ab_in 360 (by decide +kernel) (by decide +kernel)), t_PF_ok, n_PF, rfl, rfl, rfl⟩
theorem nw_PF_51 : ab_nw "PolicyForge" 51 7 7 := ⟨rfl, R_MA, T_MA, t_MA, rfl, uw_MA, t_MA_ok, List.forall_mem_cons.mpr ⟨(ab_in 322 (by decide +kernel) (by decide +kernel)), List.forall_mem_cons.mpr ⟨(ab_in 323 (by decide +kernel) (by decide +kernel)), List.forall_mem_cons.mpr ⟨(ab_in 99 (by decide +kernel) (by decide +kernel)), fun _ h => absurd h List.not_mem_nil⟩⟩⟩, rfl, by decide +kernel⟩
theorem lI_PF_53 : ab_lIN "PolicyForge" 53 y_MA_init "PolicyForge" b_MA_init 1 0 := ⟨(List.mem_filter.mpr ⟨List.mem_of_getElem? (i := 324) (by decide +kernel), by decide +kernel⟩), List.forall_mem_cons.mpr ⟨(ab_in 325 (by decide +kernel) (by decide +kernel)), List.forall_mem_cons.mpr ⟨(ab_in 99 (by decide +kernel) (by decide +kernel)), List.forall_mem_cons.mpr ⟨(ab_in 326 (by decide +kernel) (by decide +kernel)), fun _ h => absurd h List.not_mem_nil⟩⟩⟩, ⟨rfl, by decide +kernel, by decide +kernel, by decide +kernel⟩, by decide⟩
theorem fF_PF_54 : ab_fF "PolicyForge" 54 0 6 1 (.object "PolicyForge$Machine") := ⟨rfl, R_PF, T_PF, 8, t_PF, rfl, uw_PF, by decide, rfl, (ab_in 361 (by decide +kernel) (by decide +kernel)), t_PF_ok, n_PF, rfl, rfl, rfl⟩
theorem fp_PF_58 : ab_fp "PolicyForge" 58 0 7 1 (.object "PolicyForge$Part") := ⟨rfl, R_PF, T_PF, 8, t_PF, rfl, uw_PF, by decide, rfl, (ab_in 362 (by decide +kernel) (by decide +kernel)), t_PF_ok, n_PF, rfl, rfl⟩
theorem fl_PF_48 : ab_fl "PolicyForge" 48 0 5 1 := ⟨rfl, R_PF, T_PF, 8, rfl, uw_PF, by decide, rfl, (ab_in 360 (by decide +kernel) (by decide +kernel))⟩
theorem lk_PF_62 : ab_lk "PolicyForge" 62 y_RW_start b_RW_start 1 none 0 4 := ⟨⟨rfl, T_RW, 4, rfl⟩, List.forall_mem_cons.mpr ⟨(ab_in 351 (by decide +kernel) (by decide +kernel)), List.forall_mem_cons.mpr ⟨(ab_in 352 (by decide +kernel) (by decide +kernel)), List.forall_mem_cons.mpr ⟨(ab_in 353 (by decide +kernel) (by decide +kernel)), List.forall_mem_cons.mpr ⟨(ab_in 96 (by decide +kernel) (by decide +kernel)), List.forall_mem_cons.mpr ⟨(ab_in 354 (by decide +kernel) (by decide +kernel)), fun _ h => absurd h List.not_mem_nil⟩⟩⟩⟩⟩, ⟨by decide +kernel, by decide +kernel, by decide +kernel⟩, by decide⟩
set_option maxRecDepth 100000 in
set_option maxHeartbeats 8000000 in
theorem c_PF_init {l : Launch} {D : va_G} {ca : Nat → ClassId} : ab_CA l D ca y_PF_init b_PF_init 1 5 420 7174 (ab_nl [1]) ab_Z [ab_O 0 0] ab_n7 (fun u' => u' = ab_uC) := by
  refine ab_CA.of (by decide) rfl (Nat.le_of_ble_eq_true rfl) ?_
  intro p e s m args below meth c ad X hr0 hlk hin
  have le1 : ∀ {l : List Nat} (h : (List.range 17).all (fun c => decide (ab_nl [1] c ≤ ab_nl l c)) = true) (c : Nat), ab_nl [1] c ≤ ab_nl l c := fun h c => ab_le17 h (fun c h => ab_nl_out (by simp; omega)) c
  refine ab_aload_n X 0 d_PF_init_0 rfl rfl ?_
  refine ab_objInit X oi_PF_3 d_PF_init_1 ⟨by first | exact Nat.le_of_ble_eq_true rfl | (simp only [ab_rm]; omega), by first | exact Nat.le_of_ble_eq_true rfl | (simp only [ab_rm]; omega)⟩ (Nat.le_of_ble_eq_true rfl) ?_
  refine ab_aload_n X 0 d_PF_init_4 rfl rfl ?_
  refine ab_new X nw_PF_9 d_PF_init_5 (by decide) (ab_G_Z _) (by (repeat' (first | (intro q hq; exact absurd hq (List.not_mem_nil)) | refine List.forall_mem_cons.mpr ⟨?_, ?_⟩)) <;> (first | trivial | (refine Or.inl ?_; first | assumption | exact Nat.le_of_ble_eq_true rfl | exact Nat.lt_succ_self _ | (simp [ab_nx]; done) | (simp [ab_nx]; omega)))) (by (repeat' (first | (intro q hq; exact absurd hq (List.not_mem_nil)) | refine List.forall_mem_cons.mpr ⟨?_, ?_⟩)) <;> (first | trivial | (refine Or.inl ?_; first | assumption | exact Nat.le_of_ble_eq_true rfl | exact Nat.lt_succ_self _ | (simp [ab_nx]; done) | (simp [ab_nx]; omega)))) ⟨by first | exact Nat.le_of_ble_eq_true rfl | (simp only [ab_rm]; omega), by first | exact Nat.le_of_ble_eq_true rfl | (simp only [ab_rm]; omega)⟩ (fun ad5 x5 => ?_)
  refine ab_widen (k := 1) (n := 8) (Nat.le_of_ble_eq_true rfl) (Nat.le_of_ble_eq_true rfl) ?_
  refine ab_dup X d_PF_init_8 rfl ?_
  refine ab_Nr ab_e0 ?_
  refine ab_callI (as := []) X (c_RD_init) lI_PF_11 d_PF_init_9 rfl rfl (by (repeat' (first | (intro q hq; exact absurd hq (List.not_mem_nil)) | refine List.forall_mem_cons.mpr ⟨?_, ?_⟩)) <;> (first | trivial | (refine Or.inl ?_; first | assumption | exact Nat.le_of_ble_eq_true rfl | exact Nat.lt_succ_self _ | (simp [ab_nx]; done) | (simp [ab_nx]; omega)))) (by (repeat' (first | (intro q hq; exact absurd hq (List.not_mem_nil)) | refine List.forall_mem_cons.mpr ⟨?_, ?_⟩)) <;> (first | trivial | (refine Or.inl ?_; first | assumption | exact Nat.le_of_ble_eq_true rfl | exact Nat.lt_succ_self _ | (simp [ab_nx]; done) | (simp [ab_nx]; omega)))) ⟨by first | exact Nat.le_of_ble_eq_true rfl | (simp only [ab_rm]; omega), by first | exact Nat.le_of_ble_eq_true rfl | (simp only [ab_rm]; omega)⟩ ⟨by first | exact Nat.le_of_ble_eq_true rfl | (simp only [ab_rm]; omega), by first | exact Nat.le_of_ble_eq_true rfl | (simp only [ab_rm]; omega)⟩ (Nat.le_of_ble_eq_true rfl) (fun ad9 u9 x9 h9 => ?_)
  obtain rfl := h9
  refine ab_widen (k := 403) (n := 6507) (Nat.le_of_ble_eq_true rfl) (Nat.le_of_ble_eq_true rfl) ?_
  refine ab_Nr ab_e1 ?_
  refine ab_putFR X fF_PF_12 (by first | exact Or.inl ⟨_, rfl⟩ | exact Or.inr ⟨_, rfl⟩) hin d_PF_init_12 (by decide) ?_
  refine ab_aload_n X 0 d_PF_init_15 rfl rfl ?_
  refine ab_u (u' := ab_u1) rfl ?_
  have y1 := ab_ex.trans x5 (le1 (l := [1, 1]) (by decide +kernel)) x9
  refine ab_new X nw_PF_16 d_PF_init_16 (by decide) (ab_g1) (by (repeat' (first | (intro q hq; exact absurd hq (List.not_mem_nil)) | refine List.forall_mem_cons.mpr ⟨?_, ?_⟩)) <;> (first | trivial | (refine Or.inl ?_; first | assumption | exact Nat.le_of_ble_eq_true rfl | exact Nat.lt_succ_self _ | (simp [ab_nx]; done) | (simp [ab_nx]; omega)))) (by (repeat' (first | (intro q hq; exact absurd hq (List.not_mem_nil)) | refine List.forall_mem_cons.mpr ⟨?_, ?_⟩)) <;> (first | trivial | (refine Or.inl ?_; first | assumption | exact Nat.le_of_ble_eq_true rfl | exact Nat.lt_succ_self _ | (simp [ab_nx]; done) | (simp [ab_nx]; omega)))) ⟨by first | exact Nat.le_of_ble_eq_true rfl | (simp only [ab_rm]; omega), by first | exact Nat.le_of_ble_eq_true rfl | (simp only [ab_rm]; omega)⟩ (fun ad16 x16 => ?_)
  refine ab_widen (k := 404) (n := 6517) (Nat.le_of_ble_eq_true rfl) (Nat.le_of_ble_eq_true rfl) ?_
  refine ab_dup X d_PF_init_19 rfl ?_
  refine ab_iconst (v := 0) X d_PF_init_20 (by decide) ?_
  refine ab_callI (as := [ab_I 0]) X (c_FM_init (N := ab_nx ab_n1 3) ab_u1 60 0 (by decide) (ab_g1.more (ab_nx_le _ 3)) (fun k => (ab_g1.1 3 60 k (by decide)).1) (Or.inl rfl) (by decide) (by decide)) lI_PF_18 d_PF_init_21 rfl rfl (by (repeat' (first | (intro q hq; exact absurd hq (List.not_mem_nil)) | refine List.forall_mem_cons.mpr ⟨?_, ?_⟩)) <;> (first | trivial | (refine Or.inl ?_; first | assumption | exact Nat.le_of_ble_eq_true rfl | exact Nat.lt_succ_self _ | (simp [ab_nx]; done) | (simp [ab_nx]; omega)))) (by (repeat' (first | (intro q hq; exact absurd hq (List.not_mem_nil)) | refine List.forall_mem_cons.mpr ⟨?_, ?_⟩)) <;> (first | trivial | (refine Or.inl ?_; first | assumption | exact Nat.le_of_ble_eq_true rfl | exact Nat.lt_succ_self _ | (simp [ab_nx]; done) | (simp [ab_nx]; omega)))) ⟨by first | exact Nat.le_of_ble_eq_true rfl | (simp only [ab_rm]; omega), by first | exact Nat.le_of_ble_eq_true rfl | (simp only [ab_rm]; omega)⟩ ⟨by first | exact Nat.le_of_ble_eq_true rfl | (simp only [ab_rm]; omega), by first | exact Nat.le_of_ble_eq_true rfl | (simp only [ab_rm]; omega)⟩ (Nat.le_of_ble_eq_true rfl) (fun ad21 u21 x21 h21 => ?_)
  obtain rfl := h21
  refine ab_widen (k := 409) (n := 6609) (Nat.le_of_ble_eq_true rfl) (Nat.le_of_ble_eq_true rfl) ?_
  refine ab_Nr ab_e2 ?_
  refine ab_putFR X fF_PF_21 (by first | exact Or.inl ⟨_, rfl⟩ | exact Or.inr ⟨_, rfl⟩) hin d_PF_init_24 (by decide) ?_
  refine ab_aload_n X 0 d_PF_init_27 rfl rfl ?_
  refine ab_u (u' := ab_u2) rfl ?_
  have y2 := ab_ex.trans (ab_ex.trans y1 (le1 (l := [1, 1, 20, 60, 120, 0, 0, 0, 120, 60, 20, 1, 1]) (by decide +kernel)) x16) (fun k => Nat.le_trans (le1 (l := [1, 1, 20, 60, 120, 0, 0, 0, 120, 60, 20, 1, 1]) (by decide +kernel) k) (ab_nx_le _ 3 k)) x21
  refine ab_new X nw_PF_25 d_PF_init_28 (by decide) (ab_g2) (by (repeat' (first | (intro q hq; exact absurd hq (List.not_mem_nil)) | refine List.forall_mem_cons.mpr ⟨?_, ?_⟩)) <;> (first | trivial | (refine Or.inl ?_; first | assumption | exact Nat.le_of_ble_eq_true rfl | exact Nat.lt_succ_self _ | (simp [ab_nx]; done) | (simp [ab_nx]; omega)))) (by (repeat' (first | (intro q hq; exact absurd hq (List.not_mem_nil)) | refine List.forall_mem_cons.mpr ⟨?_, ?_⟩)) <;> (first | trivial | (refine Or.inl ?_; first | assumption | exact Nat.le_of_ble_eq_true rfl | exact Nat.lt_succ_self _ | (simp [ab_nx]; done) | (simp [ab_nx]; omega)))) ⟨by first | exact Nat.le_of_ble_eq_true rfl | (simp only [ab_rm]; omega), by first | exact Nat.le_of_ble_eq_true rfl | (simp only [ab_rm]; omega)⟩ (fun ad28 x28 => ?_)
  refine ab_widen (k := 410) (n := 6613) (Nat.le_of_ble_eq_true rfl) (Nat.le_of_ble_eq_true rfl) ?_
  refine ab_dup X d_PF_init_31 rfl ?_
  refine ab_bipush (v := 40) X d_PF_init_32 (by decide) ?_
  refine ab_top (v := nI (ab_ln 8 (ab_nx ab_n2 4 8))) (by decide) ?_
  refine ab_callI (as := [ab_I (nI (ab_ln 8 (ab_nx ab_n2 4 8)))]) X (c_RW_init (N := ab_nx ab_n2 4) ab_u2 122 (by decide) (ab_g2.more (ab_nx_le _ 4)) (ab_g2.1 4 122 1 (by decide)).1 (ab_g2.1 4 122 2 (by decide)).1 (ab_g2.1 4 122 3 (by decide)).1) lI_PF_27 d_PF_init_34 rfl rfl (by (repeat' (first | (intro q hq; exact absurd hq (List.not_mem_nil)) | refine List.forall_mem_cons.mpr ⟨?_, ?_⟩)) <;> (first | trivial | (refine Or.inl ?_; first | assumption | exact Nat.le_of_ble_eq_true rfl | exact Nat.lt_succ_self _ | (simp [ab_nx]; done) | (simp [ab_nx]; omega)))) (by (repeat' (first | (intro q hq; exact absurd hq (List.not_mem_nil)) | refine List.forall_mem_cons.mpr ⟨?_, ?_⟩)) <;> (first | trivial | (refine Or.inl ?_; first | assumption | exact Nat.le_of_ble_eq_true rfl | exact Nat.lt_succ_self _ | (simp [ab_nx]; done) | (simp [ab_nx]; omega)))) ⟨by first | exact Nat.le_of_ble_eq_true rfl | (simp only [ab_rm]; omega), by first | exact Nat.le_of_ble_eq_true rfl | (simp only [ab_rm]; omega)⟩ ⟨by first | exact Nat.le_of_ble_eq_true rfl | (simp only [ab_rm]; omega), by first | exact Nat.le_of_ble_eq_true rfl | (simp only [ab_rm]; omega)⟩ (Nat.le_of_ble_eq_true rfl) (fun ad34 u34 x34 h34 => ?_)
  obtain rfl := h34
  refine ab_widen (k := 411) (n := 6653) (Nat.le_of_ble_eq_true rfl) (Nat.le_of_ble_eq_true rfl) ?_
  refine ab_Nr ab_e3 ?_
  refine ab_putFR X fF_PF_30 (by first | exact Or.inl ⟨_, rfl⟩ | exact Or.inr ⟨_, rfl⟩) hin d_PF_init_37 (by decide) ?_
  refine ab_aload_n X 0 d_PF_init_40 rfl rfl ?_
  refine ab_u (u' := ab_u3) rfl ?_
  have y3 := ab_ex.trans (ab_ex.trans y2 (le1 (l := [1, 1, 20, 61, 122, 0, 0, 0, 122, 61, 20, 1, 1]) (by decide +kernel)) x28) (fun k => Nat.le_trans (le1 (l := [1, 1, 20, 61, 122, 0, 0, 0, 122, 61, 20, 1, 1]) (by decide +kernel) k) (ab_nx_le _ 4 k)) x34
  refine ab_new X nw_PF_34 d_PF_init_41 (by decide) (ab_g3) (by (repeat' (first | (intro q hq; exact absurd hq (List.not_mem_nil)) | refine List.forall_mem_cons.mpr ⟨?_, ?_⟩)) <;> (first | trivial | (refine Or.inl ?_; first | assumption | exact Nat.le_of_ble_eq_true rfl | exact Nat.lt_succ_self _ | (simp [ab_nx]; done) | (simp [ab_nx]; omega)))) (by (repeat' (first | (intro q hq; exact absurd hq (List.not_mem_nil)) | refine List.forall_mem_cons.mpr ⟨?_, ?_⟩)) <;> (first | trivial | (refine Or.inl ?_; first | assumption | exact Nat.le_of_ble_eq_true rfl | exact Nat.lt_succ_self _ | (simp [ab_nx]; done) | (simp [ab_nx]; omega)))) ⟨by first | exact Nat.le_of_ble_eq_true rfl | (simp only [ab_rm]; omega), by first | exact Nat.le_of_ble_eq_true rfl | (simp only [ab_rm]; omega)⟩ (fun ad41 x41 => ?_)
  refine ab_widen (k := 412) (n := 6657) (Nat.le_of_ble_eq_true rfl) (Nat.le_of_ble_eq_true rfl) ?_
  refine ab_dup X d_PF_init_44 rfl ?_
  refine ab_callIN (as := []) X (c_SC_init (N := ab_nx ab_n3 5) ab_u3 0 (by decide) (ab_g3.more (ab_nx_le _ 5)) (fun k => (ab_g3.1 5 0 k (by decide)).1)) lI_PF_36 d_PF_init_45 rfl rfl (by (repeat' (first | (intro q hq; exact absurd hq (List.not_mem_nil)) | refine List.forall_mem_cons.mpr ⟨?_, ?_⟩)) <;> (first | trivial | (refine Or.inl ?_; first | assumption | exact Nat.le_of_ble_eq_true rfl | exact Nat.lt_succ_self _ | (simp [ab_nx]; done) | (simp [ab_nx]; omega)))) (by (repeat' (first | (intro q hq; exact absurd hq (List.not_mem_nil)) | refine List.forall_mem_cons.mpr ⟨?_, ?_⟩)) <;> (first | trivial | (refine Or.inl ?_; first | assumption | exact Nat.le_of_ble_eq_true rfl | exact Nat.lt_succ_self _ | (simp [ab_nx]; done) | (simp [ab_nx]; omega)))) ⟨by first | exact Nat.le_of_ble_eq_true rfl | (simp only [ab_rm]; omega), by first | exact Nat.le_of_ble_eq_true rfl | (simp only [ab_rm]; omega)⟩ ⟨by first | exact Nat.le_of_ble_eq_true rfl | (simp only [ab_rm]; omega), by first | exact Nat.le_of_ble_eq_true rfl | (simp only [ab_rm]; omega)⟩ (Nat.le_of_ble_eq_true rfl) (fun ad45 u45 x45 h45 => ?_)
  obtain rfl := h45
  refine ab_widen (k := 414) (n := 6823) (Nat.le_of_ble_eq_true rfl) (Nat.le_of_ble_eq_true rfl) ?_
  refine ab_Nr ab_e4 ?_
  refine ab_putFR X fF_PF_37 (by first | exact Or.inl ⟨_, rfl⟩ | exact Or.inr ⟨_, rfl⟩) hin d_PF_init_48 (by decide) ?_
  refine ab_aload_n X 0 d_PF_init_51 rfl rfl ?_
  refine ab_u (u' := ab_u4) rfl ?_
  have y4 := ab_ex.trans (ab_ex.trans y3 (le1 (l := [1, 1, 20, 61, 123, 0, 0, 0, 123, 61, 20, 1, 1]) (by decide +kernel)) x41) (fun k => Nat.le_trans (le1 (l := [1, 1, 20, 61, 123, 0, 0, 0, 123, 61, 20, 1, 1]) (by decide +kernel) k) (ab_nx_le _ 5 k)) x45
  refine ab_new X nw_PF_41 d_PF_init_52 (by decide) (ab_g4) (by (repeat' (first | (intro q hq; exact absurd hq (List.not_mem_nil)) | refine List.forall_mem_cons.mpr ⟨?_, ?_⟩)) <;> (first | trivial | (refine Or.inl ?_; first | assumption | exact Nat.le_of_ble_eq_true rfl | exact Nat.lt_succ_self _ | (simp [ab_nx]; done) | (simp [ab_nx]; omega)))) (by (repeat' (first | (intro q hq; exact absurd hq (List.not_mem_nil)) | refine List.forall_mem_cons.mpr ⟨?_, ?_⟩)) <;> (first | trivial | (refine Or.inl ?_; first | assumption | exact Nat.le_of_ble_eq_true rfl | exact Nat.lt_succ_self _ | (simp [ab_nx]; done) | (simp [ab_nx]; omega)))) ⟨by first | exact Nat.le_of_ble_eq_true rfl | (simp only [ab_rm]; omega), by first | exact Nat.le_of_ble_eq_true rfl | (simp only [ab_rm]; omega)⟩ (fun ad52 x52 => ?_)
  refine ab_widen (k := 415) (n := 6827) (Nat.le_of_ble_eq_true rfl) (Nat.le_of_ble_eq_true rfl) ?_
  refine ab_dup X d_PF_init_55 rfl ?_
  refine ab_callIN (as := []) X (c_FA_init (N := ab_nx ab_n4 6) ab_u4 0 (by decide) (fun k => (ab_g4.1 6 0 k (by decide)).1)) lI_PF_43 d_PF_init_56 rfl rfl (by (repeat' (first | (intro q hq; exact absurd hq (List.not_mem_nil)) | refine List.forall_mem_cons.mpr ⟨?_, ?_⟩)) <;> (first | trivial | (refine Or.inl ?_; first | assumption | exact Nat.le_of_ble_eq_true rfl | exact Nat.lt_succ_self _ | (simp [ab_nx]; done) | (simp [ab_nx]; omega)))) (by (repeat' (first | (intro q hq; exact absurd hq (List.not_mem_nil)) | refine List.forall_mem_cons.mpr ⟨?_, ?_⟩)) <;> (first | trivial | (refine Or.inl ?_; first | assumption | exact Nat.le_of_ble_eq_true rfl | exact Nat.lt_succ_self _ | (simp [ab_nx]; done) | (simp [ab_nx]; omega)))) ⟨by first | exact Nat.le_of_ble_eq_true rfl | (simp only [ab_rm]; omega), by first | exact Nat.le_of_ble_eq_true rfl | (simp only [ab_rm]; omega)⟩ ⟨by first | exact Nat.le_of_ble_eq_true rfl | (simp only [ab_rm]; omega), by first | exact Nat.le_of_ble_eq_true rfl | (simp only [ab_rm]; omega)⟩ (Nat.le_of_ble_eq_true rfl) (fun ad56 u56 x56 h56 => ?_)
  obtain rfl := h56
  refine ab_widen (k := 415) (n := 6827) (Nat.le_of_ble_eq_true rfl) (Nat.le_of_ble_eq_true rfl) ?_
  refine ab_Nr ab_e5 ?_
  refine ab_putFR X fF_PF_44 (by first | exact Or.inl ⟨_, rfl⟩ | exact Or.inr ⟨_, rfl⟩) hin d_PF_init_59 (by decide) ?_
  refine ab_aload_n X 0 d_PF_init_62 rfl rfl ?_
  refine ab_u (u' := ab_u5) rfl ?_
  have y5 := ab_ex.trans (ab_ex.trans y4 (le1 (l := [1, 1, 20, 61, 123, 1, 0, 0, 123, 61, 20, 1, 1, 1, 1]) (by decide +kernel)) x52) (fun k => Nat.le_trans (le1 (l := [1, 1, 20, 61, 123, 1, 0, 0, 123, 61, 20, 1, 1, 1, 1]) (by decide +kernel) k) (ab_nx_le _ 6 k)) x56
  refine ab_new X nw_PF_25 d_PF_init_63 (by decide) (ab_g5) (by (repeat' (first | (intro q hq; exact absurd hq (List.not_mem_nil)) | refine List.forall_mem_cons.mpr ⟨?_, ?_⟩)) <;> (first | trivial | (refine Or.inl ?_; first | assumption | exact Nat.le_of_ble_eq_true rfl | exact Nat.lt_succ_self _ | (simp [ab_nx]; done) | (simp [ab_nx]; omega)))) (by (repeat' (first | (intro q hq; exact absurd hq (List.not_mem_nil)) | refine List.forall_mem_cons.mpr ⟨?_, ?_⟩)) <;> (first | trivial | (refine Or.inl ?_; first | assumption | exact Nat.le_of_ble_eq_true rfl | exact Nat.lt_succ_self _ | (simp [ab_nx]; done) | (simp [ab_nx]; omega)))) ⟨by first | exact Nat.le_of_ble_eq_true rfl | (simp only [ab_rm]; omega), by first | exact Nat.le_of_ble_eq_true rfl | (simp only [ab_rm]; omega)⟩ (fun ad63 x63 => ?_)
  refine ab_widen (k := 416) (n := 6831) (Nat.le_of_ble_eq_true rfl) (Nat.le_of_ble_eq_true rfl) ?_
  refine ab_dup X d_PF_init_66 rfl ?_
  refine ab_bipush (v := 40) X d_PF_init_67 (by decide) ?_
  refine ab_top (v := nI (ab_ln 8 (ab_nx ab_n5 4 8))) (by decide) ?_
  refine ab_callI (as := [ab_I (nI (ab_ln 8 (ab_nx ab_n5 4 8)))]) X (c_RW_init (N := ab_nx ab_n5 4) ab_u5 123 (by decide) (ab_g5.more (ab_nx_le _ 4)) (ab_g5.1 4 123 1 (by decide)).1 (ab_g5.1 4 123 2 (by decide)).1 (ab_g5.1 4 123 3 (by decide)).1) lI_PF_27 d_PF_init_69 rfl rfl (by (repeat' (first | (intro q hq; exact absurd hq (List.not_mem_nil)) | refine List.forall_mem_cons.mpr ⟨?_, ?_⟩)) <;> (first | trivial | (refine Or.inl ?_; first | assumption | exact Nat.le_of_ble_eq_true rfl | exact Nat.lt_succ_self _ | (simp [ab_nx]; done) | (simp [ab_nx]; omega)))) (by (repeat' (first | (intro q hq; exact absurd hq (List.not_mem_nil)) | refine List.forall_mem_cons.mpr ⟨?_, ?_⟩)) <;> (first | trivial | (refine Or.inl ?_; first | assumption | exact Nat.le_of_ble_eq_true rfl | exact Nat.lt_succ_self _ | (simp [ab_nx]; done) | (simp [ab_nx]; omega)))) ⟨by first | exact Nat.le_of_ble_eq_true rfl | (simp only [ab_rm]; omega), by first | exact Nat.le_of_ble_eq_true rfl | (simp only [ab_rm]; omega)⟩ ⟨by first | exact Nat.le_of_ble_eq_true rfl | (simp only [ab_rm]; omega), by first | exact Nat.le_of_ble_eq_true rfl | (simp only [ab_rm]; omega)⟩ (Nat.le_of_ble_eq_true rfl) (fun ad69 u69 x69 h69 => ?_)
  obtain rfl := h69
  refine ab_widen (k := 417) (n := 6871) (Nat.le_of_ble_eq_true rfl) (Nat.le_of_ble_eq_true rfl) ?_
  refine ab_Nr ab_e6 ?_
  refine ab_putFR X fF_PF_48 (by first | exact Or.inl ⟨_, rfl⟩ | exact Or.inr ⟨_, rfl⟩) hin d_PF_init_72 (by decide) ?_
  refine ab_aload_n X 0 d_PF_init_75 rfl rfl ?_
  refine ab_u (u' := ab_u6) rfl ?_
  have y6 := ab_ex.trans (ab_ex.trans y5 (le1 (l := [1, 1, 20, 61, 123, 1, 1, 0, 123, 61, 20, 1, 1, 1, 1]) (by decide +kernel)) x63) (fun k => Nat.le_trans (le1 (l := [1, 1, 20, 61, 123, 1, 1, 0, 123, 61, 20, 1, 1, 1, 1]) (by decide +kernel) k) (ab_nx_le _ 4 k)) x69
  refine ab_new X nw_PF_51 d_PF_init_76 (by decide) (ab_g6) (by (repeat' (first | (intro q hq; exact absurd hq (List.not_mem_nil)) | refine List.forall_mem_cons.mpr ⟨?_, ?_⟩)) <;> (first | trivial | (refine Or.inl ?_; first | assumption | exact Nat.le_of_ble_eq_true rfl | exact Nat.lt_succ_self _ | (simp [ab_nx]; done) | (simp [ab_nx]; omega)))) (by (repeat' (first | (intro q hq; exact absurd hq (List.not_mem_nil)) | refine List.forall_mem_cons.mpr ⟨?_, ?_⟩)) <;> (first | trivial | (refine Or.inl ?_; first | assumption | exact Nat.le_of_ble_eq_true rfl | exact Nat.lt_succ_self _ | (simp [ab_nx]; done) | (simp [ab_nx]; omega)))) ⟨by first | exact Nat.le_of_ble_eq_true rfl | (simp only [ab_rm]; omega), by first | exact Nat.le_of_ble_eq_true rfl | (simp only [ab_rm]; omega)⟩ (fun ad76 x76 => ?_)
  refine ab_widen (k := 418) (n := 6878) (Nat.le_of_ble_eq_true rfl) (Nat.le_of_ble_eq_true rfl) ?_
  refine ab_dup X d_PF_init_79 rfl ?_
  refine ab_callIN (as := []) X (c_MA_init (N := ab_nx ab_n6 7) ab_u6 0 (by decide) (ab_g6.more (ab_nx_le _ 7)) (fun k => (ab_g6.1 7 0 k (by decide)).1)) lI_PF_53 d_PF_init_80 rfl rfl (by (repeat' (first | (intro q hq; exact absurd hq (List.not_mem_nil)) | refine List.forall_mem_cons.mpr ⟨?_, ?_⟩)) <;> (first | trivial | (refine Or.inl ?_; first | assumption | exact Nat.le_of_ble_eq_true rfl | exact Nat.lt_succ_self _ | (simp [ab_nx]; done) | (simp [ab_nx]; omega)))) (by (repeat' (first | (intro q hq; exact absurd hq (List.not_mem_nil)) | refine List.forall_mem_cons.mpr ⟨?_, ?_⟩)) <;> (first | trivial | (refine Or.inl ?_; first | assumption | exact Nat.le_of_ble_eq_true rfl | exact Nat.lt_succ_self _ | (simp [ab_nx]; done) | (simp [ab_nx]; omega)))) ⟨by first | exact Nat.le_of_ble_eq_true rfl | (simp only [ab_rm]; omega), by first | exact Nat.le_of_ble_eq_true rfl | (simp only [ab_rm]; omega)⟩ ⟨by first | exact Nat.le_of_ble_eq_true rfl | (simp only [ab_rm]; omega), by first | exact Nat.le_of_ble_eq_true rfl | (simp only [ab_rm]; omega)⟩ (Nat.le_of_ble_eq_true rfl) (fun ad80 u80 x80 h80 => ?_)
  obtain rfl := h80
  refine ab_widen (k := 420) (n := 7174) (Nat.le_of_ble_eq_true rfl) (Nat.le_of_ble_eq_true rfl) ?_
  refine ab_Nr ab_e7 ?_
  refine ab_putFR X fF_PF_54 (by first | exact Or.inl ⟨_, rfl⟩ | exact Or.inr ⟨_, rfl⟩) hin d_PF_init_83 (by decide) ?_
  refine ab_u (u' := ab_u7) rfl ?_
  have y7 := ab_ex.trans (ab_ex.trans y6 (le1 (l := [1, 1, 20, 61, 124, 1, 1, 0, 124, 61, 20, 1, 1, 1, 1]) (by decide +kernel)) x76) (fun k => Nat.le_trans (le1 (l := [1, 1, 20, 61, 124, 1, 1, 0, 124, 61, 20, 1, 1, 1, 1]) (by decide +kernel) k) (ab_nx_le _ 7 k)) x80
  refine ab_aload_n X 0 d_PF_init_86 rfl rfl ?_
  refine ab_null X d_PF_init_87 ?_
  refine ab_putR X fp_PF_58 d_PF_init_88 (by decide) ?_
  refine ab_u (ab_ur_same rfl) ?_
  refine ab_aload_n X 0 d_PF_init_91 rfl rfl ?_
  refine ab_gR X fl_PF_48 d_PF_init_92 (by decide) (rfl) ?_
  refine ab_callV (as := []) X (fun h => by cases h) (c_RW_start (N := ab_n7) ab_u7 123 (by decide)) lk_PF_62 d_PF_init_95 rfl rfl (by decide) ⟨by first | exact Nat.le_of_ble_eq_true rfl | (simp only [ab_rm]; omega), by first | exact Nat.le_of_ble_eq_true rfl | (simp only [ab_rm]; omega)⟩ ⟨by first | exact Nat.le_of_ble_eq_true rfl | (simp only [ab_rm]; omega), by first | exact Nat.le_of_ble_eq_true rfl | (simp only [ab_rm]; omega)⟩ (Nat.le_of_ble_eq_true rfl) (fun u95 r95 h95 => ?_)
  obtain ⟨rfl, rfl⟩ := h95
  exact ab_retA X hr0 hlk y7 d_PF_init_98 rfl

