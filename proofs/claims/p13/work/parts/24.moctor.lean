/-! The constructor of the reference. -/
theorem ab_m_ext {N M : Nat → Nat} (h : (List.range 21).all (fun c => decide (N c = M c)) = true) (h1 : ∀ c, 21 ≤ c → N c = 0) (h2 : ∀ c, 21 ≤ c → M c = 0) : N = M := by
  funext c
  by_cases hc : c < 21
  · exact of_decide_eq_true (List.all_eq_true.mp h c (List.mem_range.mpr hc))
  · rw [h1 c (by omega), h2 c (by omega)]
theorem ab_kle {M : Nat → Nat} (h : (List.range 21).all (fun c => decide (ab_nx ab_n7 17 c ≤ M c)) = true) (c : Nat) : ab_nx ab_n7 17 c ≤ M c := by
  by_cases hc : c < 21
  · exact of_decide_eq_true (List.all_eq_true.mp h c (List.mem_range.mpr hc))
  · have e : ab_nx ab_n7 17 c = 0 := by
      unfold ab_nx
      rw [if_neg (by omega)]
      exact ab_nl_out (by simp; omega)
    rw [e]; exact Nat.zero_le _
def ab_m0 : ab_S := ab_uC
def ab_k0 : Nat → Nat := ab_nl [1, 1, 20, 61, 124, 1, 1, 1, 124, 61, 20, 1, 1, 1, 1, 1, 1, 1]
theorem ab_ke : ab_nx ab_n7 17 = ab_k0 := ab_m_ext (by decide +kernel) (fun c h => by unfold ab_nx; rw [if_neg (by omega)]; exact ab_nl_out (by simp; omega)) (fun c h => ab_nl_out (by simp; omega))
theorem ab_h0 : ab_G ab_k0 ab_m0 := by
  have h := ab_gC.more (ab_nx_le _ 17)
  rw [ab_ke] at h
  exact h
def ab_k1 : Nat → Nat := ab_nl [1, 1, 20, 61, 124, 1, 1, 1, 124, 61, 20, 1, 1, 1, 1, 1, 1, 1, 1]
theorem ab_ke1 : ab_nx ab_k0 18 = ab_k1 := ab_m_ext (by decide +kernel) (fun c h => by unfold ab_nx; rw [if_neg (by omega)]; exact ab_nl_out (by simp; omega)) (fun c h => ab_nl_out (by simp; omega))
def ab_m1 : ab_S := ab_ur ab_m0 17 0 1 (some (18, 0))
theorem ab_h1 : ab_G ab_k1 ab_m1 := by
  have h := ab_h0.more (ab_nx_le _ 18)
  rw [ab_ke1] at h
  exact h.ur (c := 17) (i := 0) (k := 1) (r := some (18, 0)) (by decide) (Or.inl (by decide))
def ab_m2 : ab_S := ab_ui ab_m1 17 0 3 (-1)
theorem ab_h2 : ab_G ab_k1 ab_m2 := ab_h1.ui (c := 17) (i := 0) (k := 3) (by decide) (-1)
def ab_k2 : Nat → Nat := ab_nl [1, 1, 20, 61, 124, 1, 1, 1, 124, 61, 20, 1, 1, 1, 1, 1, 1, 1, 2]
theorem ab_ke2 : ab_nx ab_k1 18 = ab_k2 := ab_m_ext (by decide +kernel) (fun c h => by unfold ab_nx; rw [if_neg (by omega)]; exact ab_nl_out (by simp; omega)) (fun c h => ab_nl_out (by simp; omega))
def ab_m3 : ab_S := ab_ur ab_m2 17 0 7 (some (18, 1))
theorem ab_h3 : ab_G ab_k2 ab_m3 := by
  have h := ab_h2.more (ab_nx_le _ 18)
  rw [ab_ke2] at h
  exact h.ur (c := 17) (i := 0) (k := 7) (r := some (18, 1)) (by decide) (Or.inl (by decide))
def ab_k3 : Nat → Nat := ab_nl [1, 1, 20, 61, 124, 1, 1, 1, 124, 61, 20, 1, 1, 1, 1, 1, 1, 1, 3]
theorem ab_ke3 : ab_nx ab_k2 18 = ab_k3 := ab_m_ext (by decide +kernel) (fun c h => by unfold ab_nx; rw [if_neg (by omega)]; exact ab_nl_out (by simp; omega)) (fun c h => ab_nl_out (by simp; omega))
def ab_m4 : ab_S := ab_ur ab_m3 17 0 8 (some (18, 2))
theorem ab_h4 : ab_G ab_k3 ab_m4 := by
  have h := ab_h3.more (ab_nx_le _ 18)
  rw [ab_ke3] at h
  exact h.ur (c := 17) (i := 0) (k := 8) (r := some (18, 2)) (by decide) (Or.inl (by decide))
def ab_k4 : Nat → Nat := ab_nl [1, 1, 20, 61, 124, 1, 1, 1, 124, 61, 20, 1, 1, 1, 1, 1, 1, 1, 4]
theorem ab_ke4 : ab_nx ab_k3 18 = ab_k4 := ab_m_ext (by decide +kernel) (fun c h => by unfold ab_nx; rw [if_neg (by omega)]; exact ab_nl_out (by simp; omega)) (fun c h => ab_nl_out (by simp; omega))
def ab_m5 : ab_S := ab_ur ab_m4 17 0 9 (some (18, 3))
theorem ab_h5 : ab_G ab_k4 ab_m5 := by
  have h := ab_h4.more (ab_nx_le _ 18)
  rw [ab_ke4] at h
  exact h.ur (c := 17) (i := 0) (k := 9) (r := some (18, 3)) (by decide) (Or.inl (by decide))
def ab_k5 : Nat → Nat := ab_nl [1, 1, 20, 61, 124, 1, 1, 1, 124, 61, 20, 1, 1, 1, 1, 1, 1, 1, 5]
theorem ab_ke5 : ab_nx ab_k4 18 = ab_k5 := ab_m_ext (by decide +kernel) (fun c h => by unfold ab_nx; rw [if_neg (by omega)]; exact ab_nl_out (by simp; omega)) (fun c h => ab_nl_out (by simp; omega))
def ab_m6 : ab_S := ab_ur ab_m5 17 0 10 (some (18, 4))
theorem ab_h6 : ab_G ab_k5 ab_m6 := by
  have h := ab_h5.more (ab_nx_le _ 18)
  rw [ab_ke5] at h
  exact h.ur (c := 17) (i := 0) (k := 10) (r := some (18, 4)) (by decide) (Or.inl (by decide))
def ab_k6 : Nat → Nat := ab_nl [1, 1, 20, 61, 124, 1, 1, 1, 124, 61, 20, 1, 1, 1, 1, 1, 1, 1, 6]
theorem ab_ke6 : ab_nx ab_k5 18 = ab_k6 := ab_m_ext (by decide +kernel) (fun c h => by unfold ab_nx; rw [if_neg (by omega)]; exact ab_nl_out (by simp; omega)) (fun c h => ab_nl_out (by simp; omega))
def ab_m7 : ab_S := ab_ur ab_m6 17 0 11 (some (18, 5))
theorem ab_h7 : ab_G ab_k6 ab_m7 := by
  have h := ab_h6.more (ab_nx_le _ 18)
  rw [ab_ke6] at h
  exact h.ur (c := 17) (i := 0) (k := 11) (r := some (18, 5)) (by decide) (Or.inl (by decide))
def ab_k7 : Nat → Nat := ab_nl [1, 1, 20, 61, 124, 1, 1, 1, 124, 61, 20, 1, 1, 1, 1, 1, 1, 1, 7]
theorem ab_ke7 : ab_nx ab_k6 18 = ab_k7 := ab_m_ext (by decide +kernel) (fun c h => by unfold ab_nx; rw [if_neg (by omega)]; exact ab_nl_out (by simp; omega)) (fun c h => ab_nl_out (by simp; omega))
def ab_m8 : ab_S := ab_ur ab_m7 17 0 12 (some (18, 6))
theorem ab_h8 : ab_G ab_k7 ab_m8 := by
  have h := ab_h7.more (ab_nx_le _ 18)
  rw [ab_ke7] at h
  exact h.ur (c := 17) (i := 0) (k := 12) (r := some (18, 6)) (by decide) (Or.inl (by decide))
def ab_k8 : Nat → Nat := ab_nl [1, 1, 20, 61, 124, 1, 1, 1, 124, 61, 20, 1, 1, 1, 1, 1, 1, 1, 8]
theorem ab_ke8 : ab_nx ab_k7 18 = ab_k8 := ab_m_ext (by decide +kernel) (fun c h => by unfold ab_nx; rw [if_neg (by omega)]; exact ab_nl_out (by simp; omega)) (fun c h => ab_nl_out (by simp; omega))
def ab_m9 : ab_S := ab_ur ab_m8 17 0 13 (some (18, 7))
theorem ab_h9 : ab_G ab_k8 ab_m9 := by
  have h := ab_h8.more (ab_nx_le _ 18)
  rw [ab_ke8] at h
  exact h.ur (c := 17) (i := 0) (k := 13) (r := some (18, 7)) (by decide) (Or.inl (by decide))
def ab_k9 : Nat → Nat := ab_nl [1, 1, 20, 61, 124, 1, 1, 1, 124, 61, 20, 1, 1, 1, 1, 1, 1, 1, 9]
theorem ab_ke9 : ab_nx ab_k8 18 = ab_k9 := ab_m_ext (by decide +kernel) (fun c h => by unfold ab_nx; rw [if_neg (by omega)]; exact ab_nl_out (by simp; omega)) (fun c h => ab_nl_out (by simp; omega))
def ab_m10 : ab_S := ab_ur ab_m9 17 0 14 (some (18, 8))
theorem ab_h10 : ab_G ab_k9 ab_m10 := by
  have h := ab_h9.more (ab_nx_le _ 18)
  rw [ab_ke9] at h
  exact h.ur (c := 17) (i := 0) (k := 14) (r := some (18, 8)) (by decide) (Or.inl (by decide))
def ab_k10 : Nat → Nat := ab_nl [1, 1, 20, 61, 124, 1, 1, 1, 124, 61, 20, 1, 1, 1, 1, 1, 1, 1, 10]
theorem ab_ke10 : ab_nx ab_k9 18 = ab_k10 := ab_m_ext (by decide +kernel) (fun c h => by unfold ab_nx; rw [if_neg (by omega)]; exact ab_nl_out (by simp; omega)) (fun c h => ab_nl_out (by simp; omega))
def ab_m11 : ab_S := ab_ur ab_m10 17 0 15 (some (18, 9))
theorem ab_h11 : ab_G ab_k10 ab_m11 := by
  have h := ab_h10.more (ab_nx_le _ 18)
  rw [ab_ke10] at h
  exact h.ur (c := 17) (i := 0) (k := 15) (r := some (18, 9)) (by decide) (Or.inl (by decide))
def ab_k11 : Nat → Nat := ab_nl [1, 1, 20, 61, 124, 1, 1, 1, 124, 61, 20, 1, 1, 1, 1, 1, 1, 1, 11]
theorem ab_ke11 : ab_nx ab_k10 18 = ab_k11 := ab_m_ext (by decide +kernel) (fun c h => by unfold ab_nx; rw [if_neg (by omega)]; exact ab_nl_out (by simp; omega)) (fun c h => ab_nl_out (by simp; omega))
def ab_m12 : ab_S := ab_ur ab_m11 17 0 20 (some (18, 10))
theorem ab_h12 : ab_G ab_k11 ab_m12 := by
  have h := ab_h11.more (ab_nx_le _ 18)
  rw [ab_ke11] at h
  exact h.ur (c := 17) (i := 0) (k := 20) (r := some (18, 10)) (by decide) (Or.inl (by decide))
def ab_k12 : Nat → Nat := ab_nl [1, 1, 20, 61, 124, 1, 1, 1, 124, 61, 20, 1, 1, 1, 1, 1, 1, 1, 12]
theorem ab_ke12 : ab_nx ab_k11 18 = ab_k12 := ab_m_ext (by decide +kernel) (fun c h => by unfold ab_nx; rw [if_neg (by omega)]; exact ab_nl_out (by simp; omega)) (fun c h => ab_nl_out (by simp; omega))
def ab_m13 : ab_S := ab_ur ab_m12 17 0 21 (some (18, 11))
theorem ab_h13 : ab_G ab_k12 ab_m13 := by
  have h := ab_h12.more (ab_nx_le _ 18)
  rw [ab_ke12] at h
  exact h.ur (c := 17) (i := 0) (k := 21) (r := some (18, 11)) (by decide) (Or.inl (by decide))
def ab_k13 : Nat → Nat := ab_nl [1, 1, 20, 61, 124, 1, 1, 1, 124, 61, 20, 1, 1, 1, 1, 1, 1, 1, 13]
theorem ab_ke13 : ab_nx ab_k12 18 = ab_k13 := ab_m_ext (by decide +kernel) (fun c h => by unfold ab_nx; rw [if_neg (by omega)]; exact ab_nl_out (by simp; omega)) (fun c h => ab_nl_out (by simp; omega))
def ab_m14 : ab_S := ab_ur ab_m13 17 0 22 (some (18, 12))
theorem ab_h14 : ab_G ab_k13 ab_m14 := by
  have h := ab_h13.more (ab_nx_le _ 18)
  rw [ab_ke13] at h
  exact h.ur (c := 17) (i := 0) (k := 22) (r := some (18, 12)) (by decide) (Or.inl (by decide))
def ab_k14 : Nat → Nat := ab_nl [1, 1, 20, 61, 124, 1, 1, 1, 124, 61, 20, 1, 1, 1, 1, 1, 1, 1, 14]
theorem ab_ke14 : ab_nx ab_k13 18 = ab_k14 := ab_m_ext (by decide +kernel) (fun c h => by unfold ab_nx; rw [if_neg (by omega)]; exact ab_nl_out (by simp; omega)) (fun c h => ab_nl_out (by simp; omega))
def ab_m15 : ab_S := ab_ur ab_m14 17 0 23 (some (18, 13))
theorem ab_h15 : ab_G ab_k14 ab_m15 := by
  have h := ab_h14.more (ab_nx_le _ 18)
  rw [ab_ke14] at h
  exact h.ur (c := 17) (i := 0) (k := 23) (r := some (18, 13)) (by decide) (Or.inl (by decide))
def ab_k15 : Nat → Nat := ab_nl [1, 1, 20, 61, 124, 1, 1, 1, 124, 61, 20, 1, 1, 1, 1, 1, 1, 1, 15]
theorem ab_ke15 : ab_nx ab_k14 18 = ab_k15 := ab_m_ext (by decide +kernel) (fun c h => by unfold ab_nx; rw [if_neg (by omega)]; exact ab_nl_out (by simp; omega)) (fun c h => ab_nl_out (by simp; omega))
def ab_m16 : ab_S := ab_ur ab_m15 17 0 24 (some (18, 14))
theorem ab_h16 : ab_G ab_k15 ab_m16 := by
  have h := ab_h15.more (ab_nx_le _ 18)
  rw [ab_ke15] at h
  exact h.ur (c := 17) (i := 0) (k := 24) (r := some (18, 14)) (by decide) (Or.inl (by decide))
def ab_k16 : Nat → Nat := ab_nl [1, 1, 20, 61, 124, 1, 1, 1, 124, 61, 20, 1, 1, 1, 1, 1, 1, 1, 16]
theorem ab_ke16 : ab_nx ab_k15 18 = ab_k16 := ab_m_ext (by decide +kernel) (fun c h => by unfold ab_nx; rw [if_neg (by omega)]; exact ab_nl_out (by simp; omega)) (fun c h => ab_nl_out (by simp; omega))
def ab_m17 : ab_S := ab_ur ab_m16 17 0 25 (some (18, 15))
theorem ab_h17 : ab_G ab_k16 ab_m17 := by
  have h := ab_h16.more (ab_nx_le _ 18)
  rw [ab_ke16] at h
  exact h.ur (c := 17) (i := 0) (k := 25) (r := some (18, 15)) (by decide) (Or.inl (by decide))
def ab_k17 : Nat → Nat := ab_nl [1, 1, 20, 61, 124, 1, 1, 1, 124, 61, 20, 1, 1, 1, 1, 1, 1, 1, 17]
theorem ab_ke17 : ab_nx ab_k16 18 = ab_k17 := ab_m_ext (by decide +kernel) (fun c h => by unfold ab_nx; rw [if_neg (by omega)]; exact ab_nl_out (by simp; omega)) (fun c h => ab_nl_out (by simp; omega))
def ab_m18 : ab_S := ab_ur ab_m17 17 0 28 (some (18, 16))
theorem ab_h18 : ab_G ab_k17 ab_m18 := by
  have h := ab_h17.more (ab_nx_le _ 18)
  rw [ab_ke17] at h
  exact h.ur (c := 17) (i := 0) (k := 28) (r := some (18, 16)) (by decide) (Or.inl (by decide))
def ab_k18 : Nat → Nat := ab_nl [1, 1, 20, 61, 124, 1, 1, 1, 124, 61, 20, 1, 1, 1, 1, 1, 1, 1, 18]
theorem ab_ke18 : ab_nx ab_k17 18 = ab_k18 := ab_m_ext (by decide +kernel) (fun c h => by unfold ab_nx; rw [if_neg (by omega)]; exact ab_nl_out (by simp; omega)) (fun c h => ab_nl_out (by simp; omega))
def ab_m19 : ab_S := ab_ur ab_m18 17 0 31 (some (18, 17))
theorem ab_h19 : ab_G ab_k18 ab_m19 := by
  have h := ab_h18.more (ab_nx_le _ 18)
  rw [ab_ke18] at h
  exact h.ur (c := 17) (i := 0) (k := 31) (r := some (18, 17)) (by decide) (Or.inl (by decide))
def ab_k19 : Nat → Nat := ab_nl [1, 1, 20, 61, 124, 1, 1, 1, 124, 61, 20, 1, 1, 1, 1, 1, 1, 1, 19]
theorem ab_ke19 : ab_nx ab_k18 18 = ab_k19 := ab_m_ext (by decide +kernel) (fun c h => by unfold ab_nx; rw [if_neg (by omega)]; exact ab_nl_out (by simp; omega)) (fun c h => ab_nl_out (by simp; omega))
def ab_m20 : ab_S := ab_ur ab_m19 17 0 34 (some (18, 18))
theorem ab_h20 : ab_G ab_k19 ab_m20 := by
  have h := ab_h19.more (ab_nx_le _ 18)
  rw [ab_ke19] at h
  exact h.ur (c := 17) (i := 0) (k := 34) (r := some (18, 18)) (by decide) (Or.inl (by decide))
def ab_k20 : Nat → Nat := ab_nl [1, 1, 20, 61, 124, 1, 1, 1, 124, 61, 20, 1, 1, 1, 1, 1, 1, 1, 20]
theorem ab_ke20 : ab_nx ab_k19 18 = ab_k20 := ab_m_ext (by decide +kernel) (fun c h => by unfold ab_nx; rw [if_neg (by omega)]; exact ab_nl_out (by simp; omega)) (fun c h => ab_nl_out (by simp; omega))
def ab_m21 : ab_S := ab_ur ab_m20 17 0 36 (some (18, 19))
theorem ab_h21 : ab_G ab_k20 ab_m21 := by
  have h := ab_h20.more (ab_nx_le _ 18)
  rw [ab_ke20] at h
  exact h.ur (c := 17) (i := 0) (k := 36) (r := some (18, 19)) (by decide) (Or.inl (by decide))
def ab_k21 : Nat → Nat := ab_nl [1, 1, 20, 61, 124, 1, 1, 1, 124, 61, 20, 1, 1, 1, 1, 1, 1, 1, 21]
theorem ab_ke21 : ab_nx ab_k20 18 = ab_k21 := ab_m_ext (by decide +kernel) (fun c h => by unfold ab_nx; rw [if_neg (by omega)]; exact ab_nl_out (by simp; omega)) (fun c h => ab_nl_out (by simp; omega))
def ab_m22 : ab_S := ab_ur ab_m21 17 0 38 (some (18, 20))
theorem ab_h22 : ab_G ab_k21 ab_m22 := by
  have h := ab_h21.more (ab_nx_le _ 18)
  rw [ab_ke21] at h
  exact h.ur (c := 17) (i := 0) (k := 38) (r := some (18, 20)) (by decide) (Or.inl (by decide))
def ab_k22 : Nat → Nat := ab_nl [1, 1, 20, 61, 124, 1, 1, 1, 124, 61, 20, 1, 1, 1, 1, 1, 1, 1, 21, 1]
theorem ab_ke22 : ab_nx ab_k21 19 = ab_k22 := ab_m_ext (by decide +kernel) (fun c h => by unfold ab_nx; rw [if_neg (by omega)]; exact ab_nl_out (by simp; omega)) (fun c h => ab_nl_out (by simp; omega))
def ab_m23 : ab_S := ab_ur ab_m22 17 0 43 (some (19, 0))
theorem ab_h23 : ab_G ab_k22 ab_m23 := by
  have h := ab_h22.more (ab_nx_le _ 19)
  rw [ab_ke22] at h
  exact h.ur (c := 17) (i := 0) (k := 43) (r := some (19, 0)) (by decide) (Or.inl (by decide))
abbrev ab_uM : ab_S := ab_m23
abbrev ab_nM : Nat → Nat := ab_k22
abbrev b_MO_init : ByteArray := prog_10_method_1_code
def y_MO_init : MethodName := ⟨"PolicyForgeModel", "<init>", "()V"⟩
theorem d_MO_init_0 : decode b_MO_init 0 = .ok (.aload_n 0, 1) := by decide +kernel
theorem d_MO_init_1 : decode b_MO_init 1 = .ok (.invokespecial 1, 3) := by decide +kernel
theorem d_MO_init_4 : decode b_MO_init 4 = .ok (.aload_n 0, 1) := by decide +kernel
theorem d_MO_init_5 : decode b_MO_init 5 = .ok (.iconst 0, 1) := by decide +kernel
theorem d_MO_init_6 : decode b_MO_init 6 = .ok (.putfield 7, 3) := by decide +kernel
theorem d_MO_init_9 : decode b_MO_init 9 = .ok (.aload_n 0, 1) := by decide +kernel
theorem d_MO_init_10 : decode b_MO_init 10 = .ok (.bipush 100, 2) := by decide +kernel
theorem d_MO_init_12 : decode b_MO_init 12 = .ok (.newarray .int, 2) := by decide +kernel
theorem d_MO_init_14 : decode b_MO_init 14 = .ok (.putfield 13, 3) := by decide +kernel
theorem d_MO_init_17 : decode b_MO_init 17 = .ok (.aload_n 0, 1) := by decide +kernel
theorem d_MO_init_18 : decode b_MO_init 18 = .ok (.iconst 0, 1) := by decide +kernel
theorem d_MO_init_19 : decode b_MO_init 19 = .ok (.putfield 17, 3) := by decide +kernel
theorem d_MO_init_22 : decode b_MO_init 22 = .ok (.aload_n 0, 1) := by decide +kernel
theorem d_MO_init_23 : decode b_MO_init 23 = .ok (.iconst (-1), 1) := by decide +kernel
theorem d_MO_init_24 : decode b_MO_init 24 = .ok (.putfield 20, 3) := by decide +kernel
theorem d_MO_init_27 : decode b_MO_init 27 = .ok (.aload_n 0, 1) := by decide +kernel
theorem d_MO_init_28 : decode b_MO_init 28 = .ok (.iconst 0, 1) := by decide +kernel
theorem d_MO_init_29 : decode b_MO_init 29 = .ok (.putfield 23, 3) := by decide +kernel
theorem d_MO_init_32 : decode b_MO_init 32 = .ok (.aload_n 0, 1) := by decide +kernel
theorem d_MO_init_33 : decode b_MO_init 33 = .ok (.iconst 0, 1) := by decide +kernel
theorem d_MO_init_34 : decode b_MO_init 34 = .ok (.putfield 27, 3) := by decide +kernel
theorem d_MO_init_37 : decode b_MO_init 37 = .ok (.aload_n 0, 1) := by decide +kernel
theorem d_MO_init_38 : decode b_MO_init 38 = .ok (.iconst 0, 1) := by decide +kernel
theorem d_MO_init_39 : decode b_MO_init 39 = .ok (.putfield 30, 3) := by decide +kernel
theorem d_MO_init_42 : decode b_MO_init 42 = .ok (.aload_n 0, 1) := by decide +kernel
theorem d_MO_init_43 : decode b_MO_init 43 = .ok (.bipush 40, 2) := by decide +kernel
theorem d_MO_init_45 : decode b_MO_init 45 = .ok (.newarray .int, 2) := by decide +kernel
theorem d_MO_init_47 : decode b_MO_init 47 = .ok (.putfield 33, 3) := by decide +kernel
theorem d_MO_init_50 : decode b_MO_init 50 = .ok (.aload_n 0, 1) := by decide +kernel
theorem d_MO_init_51 : decode b_MO_init 51 = .ok (.bipush 40, 2) := by decide +kernel
theorem d_MO_init_53 : decode b_MO_init 53 = .ok (.newarray .int, 2) := by decide +kernel
theorem d_MO_init_55 : decode b_MO_init 55 = .ok (.putfield 36, 3) := by decide +kernel
theorem d_MO_init_58 : decode b_MO_init 58 = .ok (.aload_n 0, 1) := by decide +kernel
theorem d_MO_init_59 : decode b_MO_init 59 = .ok (.bipush 40, 2) := by decide +kernel
theorem d_MO_init_61 : decode b_MO_init 61 = .ok (.newarray .int, 2) := by decide +kernel
theorem d_MO_init_63 : decode b_MO_init 63 = .ok (.putfield 39, 3) := by decide +kernel
theorem d_MO_init_66 : decode b_MO_init 66 = .ok (.aload_n 0, 1) := by decide +kernel
theorem d_MO_init_67 : decode b_MO_init 67 = .ok (.sipush 160, 3) := by decide +kernel
theorem d_MO_init_70 : decode b_MO_init 70 = .ok (.newarray .int, 2) := by decide +kernel
theorem d_MO_init_72 : decode b_MO_init 72 = .ok (.putfield 42, 3) := by decide +kernel
theorem d_MO_init_75 : decode b_MO_init 75 = .ok (.aload_n 0, 1) := by decide +kernel
theorem d_MO_init_76 : decode b_MO_init 76 = .ok (.bipush 72, 2) := by decide +kernel
theorem d_MO_init_78 : decode b_MO_init 78 = .ok (.newarray .int, 2) := by decide +kernel
theorem d_MO_init_80 : decode b_MO_init 80 = .ok (.putfield 45, 3) := by decide +kernel
theorem d_MO_init_83 : decode b_MO_init 83 = .ok (.aload_n 0, 1) := by decide +kernel
theorem d_MO_init_84 : decode b_MO_init 84 = .ok (.bipush 72, 2) := by decide +kernel
theorem d_MO_init_86 : decode b_MO_init 86 = .ok (.newarray .int, 2) := by decide +kernel
theorem d_MO_init_88 : decode b_MO_init 88 = .ok (.putfield 48, 3) := by decide +kernel
theorem d_MO_init_91 : decode b_MO_init 91 = .ok (.aload_n 0, 1) := by decide +kernel
theorem d_MO_init_92 : decode b_MO_init 92 = .ok (.bipush 72, 2) := by decide +kernel
theorem d_MO_init_94 : decode b_MO_init 94 = .ok (.newarray .int, 2) := by decide +kernel
theorem d_MO_init_96 : decode b_MO_init 96 = .ok (.putfield 51, 3) := by decide +kernel
theorem d_MO_init_99 : decode b_MO_init 99 = .ok (.aload_n 0, 1) := by decide +kernel
theorem d_MO_init_100 : decode b_MO_init 100 = .ok (.bipush 24, 2) := by decide +kernel
theorem d_MO_init_102 : decode b_MO_init 102 = .ok (.newarray .int, 2) := by decide +kernel
theorem d_MO_init_104 : decode b_MO_init 104 = .ok (.putfield 54, 3) := by decide +kernel
theorem d_MO_init_107 : decode b_MO_init 107 = .ok (.aload_n 0, 1) := by decide +kernel
theorem d_MO_init_108 : decode b_MO_init 108 = .ok (.sipush 7200, 3) := by decide +kernel
theorem d_MO_init_111 : decode b_MO_init 111 = .ok (.newarray .int, 2) := by decide +kernel
theorem d_MO_init_113 : decode b_MO_init 113 = .ok (.putfield 57, 3) := by decide +kernel
theorem d_MO_init_116 : decode b_MO_init 116 = .ok (.aload_n 0, 1) := by decide +kernel
theorem d_MO_init_117 : decode b_MO_init 117 = .ok (.iconst 0, 1) := by decide +kernel
theorem d_MO_init_118 : decode b_MO_init 118 = .ok (.putfield 60, 3) := by decide +kernel
theorem d_MO_init_121 : decode b_MO_init 121 = .ok (.aload_n 0, 1) := by decide +kernel
theorem d_MO_init_122 : decode b_MO_init 122 = .ok (.iconst 0, 1) := by decide +kernel
theorem d_MO_init_123 : decode b_MO_init 123 = .ok (.putfield 63, 3) := by decide +kernel
theorem d_MO_init_126 : decode b_MO_init 126 = .ok (.aload_n 0, 1) := by decide +kernel
theorem d_MO_init_127 : decode b_MO_init 127 = .ok (.iconst 0, 1) := by decide +kernel
theorem d_MO_init_128 : decode b_MO_init 128 = .ok (.putfield 66, 3) := by decide +kernel
theorem d_MO_init_131 : decode b_MO_init 131 = .ok (.aload_n 0, 1) := by decide +kernel
theorem d_MO_init_132 : decode b_MO_init 132 = .ok (.iconst 0, 1) := by decide +kernel
theorem d_MO_init_133 : decode b_MO_init 133 = .ok (.putfield 69, 3) := by decide +kernel
theorem d_MO_init_136 : decode b_MO_init 136 = .ok (.aload_n 0, 1) := by decide +kernel
theorem d_MO_init_137 : decode b_MO_init 137 = .ok (.sipush 3600, 3) := by decide +kernel
theorem d_MO_init_140 : decode b_MO_init 140 = .ok (.newarray .int, 2) := by decide +kernel
theorem d_MO_init_142 : decode b_MO_init 142 = .ok (.putfield 72, 3) := by decide +kernel
theorem d_MO_init_145 : decode b_MO_init 145 = .ok (.aload_n 0, 1) := by decide +kernel
theorem d_MO_init_146 : decode b_MO_init 146 = .ok (.bipush 72, 2) := by decide +kernel
theorem d_MO_init_148 : decode b_MO_init 148 = .ok (.newarray .int, 2) := by decide +kernel
theorem d_MO_init_150 : decode b_MO_init 150 = .ok (.putfield 75, 3) := by decide +kernel
theorem d_MO_init_153 : decode b_MO_init 153 = .ok (.aload_n 0, 1) := by decide +kernel
theorem d_MO_init_154 : decode b_MO_init 154 = .ok (.bipush 72, 2) := by decide +kernel
theorem d_MO_init_156 : decode b_MO_init 156 = .ok (.newarray .int, 2) := by decide +kernel
theorem d_MO_init_158 : decode b_MO_init 158 = .ok (.putfield 78, 3) := by decide +kernel
theorem d_MO_init_161 : decode b_MO_init 161 = .ok (.aload_n 0, 1) := by decide +kernel
theorem d_MO_init_162 : decode b_MO_init 162 = .ok (.sipush 1200, 3) := by decide +kernel
theorem d_MO_init_165 : decode b_MO_init 165 = .ok (.newarray .int, 2) := by decide +kernel
theorem d_MO_init_167 : decode b_MO_init 167 = .ok (.putfield 81, 3) := by decide +kernel
theorem d_MO_init_170 : decode b_MO_init 170 = .ok (.aload_n 0, 1) := by decide +kernel
theorem d_MO_init_171 : decode b_MO_init 171 = .ok (.bipush 24, 2) := by decide +kernel
theorem d_MO_init_173 : decode b_MO_init 173 = .ok (.newarray .int, 2) := by decide +kernel
theorem d_MO_init_175 : decode b_MO_init 175 = .ok (.putfield 84, 3) := by decide +kernel
theorem d_MO_init_178 : decode b_MO_init 178 = .ok (.aload_n 0, 1) := by decide +kernel
theorem d_MO_init_179 : decode b_MO_init 179 = .ok (.bipush 64, 2) := by decide +kernel
theorem d_MO_init_181 : decode b_MO_init 181 = .ok (.newarray .int, 2) := by decide +kernel
theorem d_MO_init_183 : decode b_MO_init 183 = .ok (.putfield 87, 3) := by decide +kernel
theorem d_MO_init_186 : decode b_MO_init 186 = .ok (.aload_n 0, 1) := by decide +kernel
theorem d_MO_init_187 : decode b_MO_init 187 = .ok (.iconst 0, 1) := by decide +kernel
theorem d_MO_init_188 : decode b_MO_init 188 = .ok (.putfield 90, 3) := by decide +kernel
theorem d_MO_init_191 : decode b_MO_init 191 = .ok (.aload_n 0, 1) := by decide +kernel
theorem d_MO_init_192 : decode b_MO_init 192 = .ok (.iconst 0, 1) := by decide +kernel
theorem d_MO_init_193 : decode b_MO_init 193 = .ok (.putfield 93, 3) := by decide +kernel
theorem d_MO_init_196 : decode b_MO_init 196 = .ok (.aload_n 0, 1) := by decide +kernel
theorem d_MO_init_197 : decode b_MO_init 197 = .ok (.bipush 64, 2) := by decide +kernel
theorem d_MO_init_199 : decode b_MO_init 199 = .ok (.newarray .int, 2) := by decide +kernel
theorem d_MO_init_201 : decode b_MO_init 201 = .ok (.putfield 96, 3) := by decide +kernel
theorem d_MO_init_204 : decode b_MO_init 204 = .ok (.aload_n 0, 1) := by decide +kernel
theorem d_MO_init_205 : decode b_MO_init 205 = .ok (.iconst 0, 1) := by decide +kernel
theorem d_MO_init_206 : decode b_MO_init 206 = .ok (.putfield 99, 3) := by decide +kernel
theorem d_MO_init_209 : decode b_MO_init 209 = .ok (.aload_n 0, 1) := by decide +kernel
theorem d_MO_init_210 : decode b_MO_init 210 = .ok (.iconst 0, 1) := by decide +kernel
theorem d_MO_init_211 : decode b_MO_init 211 = .ok (.putfield 102, 3) := by decide +kernel
theorem d_MO_init_214 : decode b_MO_init 214 = .ok (.aload_n 0, 1) := by decide +kernel
theorem d_MO_init_215 : decode b_MO_init 215 = .ok (.bipush 64, 2) := by decide +kernel
theorem d_MO_init_217 : decode b_MO_init 217 = .ok (.newarray .int, 2) := by decide +kernel
theorem d_MO_init_219 : decode b_MO_init 219 = .ok (.putfield 105, 3) := by decide +kernel
theorem d_MO_init_222 : decode b_MO_init 222 = .ok (.aload_n 0, 1) := by decide +kernel
theorem d_MO_init_223 : decode b_MO_init 223 = .ok (.iconst 0, 1) := by decide +kernel
theorem d_MO_init_224 : decode b_MO_init 224 = .ok (.putfield 108, 3) := by decide +kernel
theorem d_MO_init_227 : decode b_MO_init 227 = .ok (.aload_n 0, 1) := by decide +kernel
theorem d_MO_init_228 : decode b_MO_init 228 = .ok (.iconst 0, 1) := by decide +kernel
theorem d_MO_init_229 : decode b_MO_init 229 = .ok (.putfield 111, 3) := by decide +kernel
theorem d_MO_init_232 : decode b_MO_init 232 = .ok (.aload_n 0, 1) := by decide +kernel
theorem d_MO_init_233 : decode b_MO_init 233 = .ok (.sipush 128, 3) := by decide +kernel
theorem d_MO_init_236 : decode b_MO_init 236 = .ok (.newarray .int, 2) := by decide +kernel
theorem d_MO_init_238 : decode b_MO_init 238 = .ok (.putfield 114, 3) := by decide +kernel
theorem d_MO_init_241 : decode b_MO_init 241 = .ok (.aload_n 0, 1) := by decide +kernel
theorem d_MO_init_242 : decode b_MO_init 242 = .ok (.iconst 0, 1) := by decide +kernel
theorem d_MO_init_243 : decode b_MO_init 243 = .ok (.putfield 117, 3) := by decide +kernel
theorem d_MO_init_246 : decode b_MO_init 246 = .ok (.aload_n 0, 1) := by decide +kernel
theorem d_MO_init_247 : decode b_MO_init 247 = .ok (.bipush 64, 2) := by decide +kernel
theorem d_MO_init_249 : decode b_MO_init 249 = .ok (.newarray .int, 2) := by decide +kernel
theorem d_MO_init_251 : decode b_MO_init 251 = .ok (.putfield 120, 3) := by decide +kernel
theorem d_MO_init_254 : decode b_MO_init 254 = .ok (.aload_n 0, 1) := by decide +kernel
theorem d_MO_init_255 : decode b_MO_init 255 = .ok (.iconst 0, 1) := by decide +kernel
theorem d_MO_init_256 : decode b_MO_init 256 = .ok (.putfield 123, 3) := by decide +kernel
theorem d_MO_init_259 : decode b_MO_init 259 = .ok (.aload_n 0, 1) := by decide +kernel
theorem d_MO_init_260 : decode b_MO_init 260 = .ok (.bipush 40, 2) := by decide +kernel
theorem d_MO_init_262 : decode b_MO_init 262 = .ok (.newarray .int, 2) := by decide +kernel
theorem d_MO_init_264 : decode b_MO_init 264 = .ok (.putfield 126, 3) := by decide +kernel
theorem d_MO_init_267 : decode b_MO_init 267 = .ok (.aload_n 0, 1) := by decide +kernel
theorem d_MO_init_268 : decode b_MO_init 268 = .ok (.iconst 0, 1) := by decide +kernel
theorem d_MO_init_269 : decode b_MO_init 269 = .ok (.putfield 129, 3) := by decide +kernel
theorem d_MO_init_272 : decode b_MO_init 272 = .ok (.aload_n 0, 1) := by decide +kernel
theorem d_MO_init_273 : decode b_MO_init 273 = .ok (.iconst 0, 1) := by decide +kernel
theorem d_MO_init_274 : decode b_MO_init 274 = .ok (.putfield 132, 3) := by decide +kernel
theorem d_MO_init_277 : decode b_MO_init 277 = .ok (.aload_n 0, 1) := by decide +kernel
theorem d_MO_init_278 : decode b_MO_init 278 = .ok (.iconst 0, 1) := by decide +kernel
theorem d_MO_init_279 : decode b_MO_init 279 = .ok (.putfield 135, 3) := by decide +kernel
theorem d_MO_init_282 : decode b_MO_init 282 = .ok (.aload_n 0, 1) := by decide +kernel
theorem d_MO_init_283 : decode b_MO_init 283 = .ok (.iconst 0, 1) := by decide +kernel
theorem d_MO_init_284 : decode b_MO_init 284 = .ok (.putfield 138, 3) := by decide +kernel
theorem d_MO_init_287 : decode b_MO_init 287 = .ok (.aload_n 0, 1) := by decide +kernel
theorem d_MO_init_288 : decode b_MO_init 288 = .ok (.bipush 24, 2) := by decide +kernel
theorem d_MO_init_290 : decode b_MO_init 290 = .ok (.newarray .boolean, 2) := by decide +kernel
theorem d_MO_init_292 : decode b_MO_init 292 = .ok (.putfield 141, 3) := by decide +kernel
theorem d_MO_init_295 : decode b_MO_init 295 = .ok (.return_, 1) := by decide +kernel
theorem oi_MO_1 : ∀ w ∈ ([.methodLink "PolicyForgeModel" 1 objectInit, .instanceMethod objectInit, .code objectInit ⟨#[0xb1]⟩ 1 none] : List Cond), w ∈ ab_T := List.forall_mem_cons.mpr ⟨(ab_in 925 (by decide +kernel) (by decide +kernel)), List.forall_mem_cons.mpr ⟨(ab_in 120 (by decide +kernel) (by decide +kernel)), List.forall_mem_cons.mpr ⟨(ab_in 121 (by decide +kernel) (by decide +kernel)), fun _ h => absurd h List.not_mem_nil⟩⟩⟩
theorem uw_MO : ∀ w ∈ u_ws R_MO T_MO 44, w ∈ ab_T := fun w h => List.mem_filter.mpr ⟨by have h2 := h; revert w; decide +kernel, by revert w; decide +kernel⟩
theorem fp_MO_7 : ab_fp "PolicyForgeModel" 7 17 0 0 .int := ⟨rfl, R_MO, T_MO, 44, t_MO, rfl, uw_MO, by decide, rfl, (ab_in 926 (by decide +kernel) (by decide +kernel)), t_MO_ok, n_MO, rfl, rfl⟩
theorem fF_MO_13 : ab_fF "PolicyForgeModel" 13 17 1 1 (t_MO 1) := ⟨rfl, R_MO, T_MO, 44, t_MO, rfl, uw_MO, by decide, rfl, (ab_in 927 (by decide +kernel) (by decide +kernel)), t_MO_ok, n_MO, rfl, rfl, rfl⟩
theorem fp_MO_17 : ab_fp "PolicyForgeModel" 17 17 2 0 .int := ⟨rfl, R_MO, T_MO, 44, t_MO, rfl, uw_MO, by decide, rfl, (ab_in 928 (by decide +kernel) (by decide +kernel)), t_MO_ok, n_MO, rfl, rfl⟩
theorem fp_MO_20 : ab_fp "PolicyForgeModel" 20 17 3 0 .int := ⟨rfl, R_MO, T_MO, 44, t_MO, rfl, uw_MO, by decide, rfl, (ab_in 929 (by decide +kernel) (by decide +kernel)), t_MO_ok, n_MO, rfl, rfl⟩
theorem fp_MO_23 : ab_fp "PolicyForgeModel" 23 17 4 0 .boolean := ⟨rfl, R_MO, T_MO, 44, t_MO, rfl, uw_MO, by decide, rfl, (ab_in 930 (by decide +kernel) (by decide +kernel)), t_MO_ok, n_MO, rfl, rfl⟩
theorem fp_MO_27 : ab_fp "PolicyForgeModel" 27 17 5 0 .int := ⟨rfl, R_MO, T_MO, 44, t_MO, rfl, uw_MO, by decide, rfl, (ab_in 931 (by decide +kernel) (by decide +kernel)), t_MO_ok, n_MO, rfl, rfl⟩
theorem fp_MO_30 : ab_fp "PolicyForgeModel" 30 17 6 0 .int := ⟨rfl, R_MO, T_MO, 44, t_MO, rfl, uw_MO, by decide, rfl, (ab_in 932 (by decide +kernel) (by decide +kernel)), t_MO_ok, n_MO, rfl, rfl⟩
theorem fF_MO_33 : ab_fF "PolicyForgeModel" 33 17 7 1 (t_MO 7) := ⟨rfl, R_MO, T_MO, 44, t_MO, rfl, uw_MO, by decide, rfl, (ab_in 933 (by decide +kernel) (by decide +kernel)), t_MO_ok, n_MO, rfl, rfl, rfl⟩
theorem fF_MO_36 : ab_fF "PolicyForgeModel" 36 17 8 1 (t_MO 8) := ⟨rfl, R_MO, T_MO, 44, t_MO, rfl, uw_MO, by decide, rfl, (ab_in 934 (by decide +kernel) (by decide +kernel)), t_MO_ok, n_MO, rfl, rfl, rfl⟩
theorem fF_MO_39 : ab_fF "PolicyForgeModel" 39 17 9 1 (t_MO 9) := ⟨rfl, R_MO, T_MO, 44, t_MO, rfl, uw_MO, by decide, rfl, (ab_in 935 (by decide +kernel) (by decide +kernel)), t_MO_ok, n_MO, rfl, rfl, rfl⟩
theorem fF_MO_42 : ab_fF "PolicyForgeModel" 42 17 10 1 (t_MO 10) := ⟨rfl, R_MO, T_MO, 44, t_MO, rfl, uw_MO, by decide, rfl, (ab_in 936 (by decide +kernel) (by decide +kernel)), t_MO_ok, n_MO, rfl, rfl, rfl⟩
theorem fF_MO_45 : ab_fF "PolicyForgeModel" 45 17 11 1 (t_MO 11) := ⟨rfl, R_MO, T_MO, 44, t_MO, rfl, uw_MO, by decide, rfl, (ab_in 937 (by decide +kernel) (by decide +kernel)), t_MO_ok, n_MO, rfl, rfl, rfl⟩
theorem fF_MO_48 : ab_fF "PolicyForgeModel" 48 17 12 1 (t_MO 12) := ⟨rfl, R_MO, T_MO, 44, t_MO, rfl, uw_MO, by decide, rfl, (ab_in 938 (by decide +kernel) (by decide +kernel)), t_MO_ok, n_MO, rfl, rfl, rfl⟩
theorem fF_MO_51 : ab_fF "PolicyForgeModel" 51 17 13 1 (t_MO 13) := ⟨rfl, R_MO, T_MO, 44, t_MO, rfl, uw_MO, by decide, rfl, (ab_in 939 (by decide +kernel) (by decide +kernel)), t_MO_ok, n_MO, rfl, rfl, rfl⟩
theorem fF_MO_54 : ab_fF "PolicyForgeModel" 54 17 14 1 (t_MO 14) := ⟨rfl, R_MO, T_MO, 44, t_MO, rfl, uw_MO, by decide, rfl, (ab_in 940 (by decide +kernel) (by decide +kernel)), t_MO_ok, n_MO, rfl, rfl, rfl⟩
theorem fF_MO_57 : ab_fF "PolicyForgeModel" 57 17 15 1 (t_MO 15) := ⟨rfl, R_MO, T_MO, 44, t_MO, rfl, uw_MO, by decide, rfl, (ab_in 941 (by decide +kernel) (by decide +kernel)), t_MO_ok, n_MO, rfl, rfl, rfl⟩
theorem fp_MO_60 : ab_fp "PolicyForgeModel" 60 17 16 0 .int := ⟨rfl, R_MO, T_MO, 44, t_MO, rfl, uw_MO, by decide, rfl, (ab_in 942 (by decide +kernel) (by decide +kernel)), t_MO_ok, n_MO, rfl, rfl⟩
theorem fp_MO_63 : ab_fp "PolicyForgeModel" 63 17 17 0 .int := ⟨rfl, R_MO, T_MO, 44, t_MO, rfl, uw_MO, by decide, rfl, (ab_in 943 (by decide +kernel) (by decide +kernel)), t_MO_ok, n_MO, rfl, rfl⟩
theorem fp_MO_66 : ab_fp "PolicyForgeModel" 66 17 18 0 .int := ⟨rfl, R_MO, T_MO, 44, t_MO, rfl, uw_MO, by decide, rfl, (ab_in 944 (by decide +kernel) (by decide +kernel)), t_MO_ok, n_MO, rfl, rfl⟩
theorem fp_MO_69 : ab_fp "PolicyForgeModel" 69 17 19 0 .int := ⟨rfl, R_MO, T_MO, 44, t_MO, rfl, uw_MO, by decide, rfl, (ab_in 945 (by decide +kernel) (by decide +kernel)), t_MO_ok, n_MO, rfl, rfl⟩
theorem fF_MO_72 : ab_fF "PolicyForgeModel" 72 17 20 1 (t_MO 20) := ⟨rfl, R_MO, T_MO, 44, t_MO, rfl, uw_MO, by decide, rfl, (ab_in 946 (by decide +kernel) (by decide +kernel)), t_MO_ok, n_MO, rfl, rfl, rfl⟩
theorem fF_MO_75 : ab_fF "PolicyForgeModel" 75 17 21 1 (t_MO 21) := ⟨rfl, R_MO, T_MO, 44, t_MO, rfl, uw_MO, by decide, rfl, (ab_in 947 (by decide +kernel) (by decide +kernel)), t_MO_ok, n_MO, rfl, rfl, rfl⟩
theorem fF_MO_78 : ab_fF "PolicyForgeModel" 78 17 22 1 (t_MO 22) := ⟨rfl, R_MO, T_MO, 44, t_MO, rfl, uw_MO, by decide, rfl, (ab_in 948 (by decide +kernel) (by decide +kernel)), t_MO_ok, n_MO, rfl, rfl, rfl⟩
theorem fF_MO_81 : ab_fF "PolicyForgeModel" 81 17 23 1 (t_MO 23) := ⟨rfl, R_MO, T_MO, 44, t_MO, rfl, uw_MO, by decide, rfl, (ab_in 949 (by decide +kernel) (by decide +kernel)), t_MO_ok, n_MO, rfl, rfl, rfl⟩
theorem fF_MO_84 : ab_fF "PolicyForgeModel" 84 17 24 1 (t_MO 24) := ⟨rfl, R_MO, T_MO, 44, t_MO, rfl, uw_MO, by decide, rfl, (ab_in 950 (by decide +kernel) (by decide +kernel)), t_MO_ok, n_MO, rfl, rfl, rfl⟩
theorem fF_MO_87 : ab_fF "PolicyForgeModel" 87 17 25 1 (t_MO 25) := ⟨rfl, R_MO, T_MO, 44, t_MO, rfl, uw_MO, by decide, rfl, (ab_in 951 (by decide +kernel) (by decide +kernel)), t_MO_ok, n_MO, rfl, rfl, rfl⟩
theorem fp_MO_90 : ab_fp "PolicyForgeModel" 90 17 26 0 .int := ⟨rfl, R_MO, T_MO, 44, t_MO, rfl, uw_MO, by decide, rfl, (ab_in 952 (by decide +kernel) (by decide +kernel)), t_MO_ok, n_MO, rfl, rfl⟩
theorem fp_MO_93 : ab_fp "PolicyForgeModel" 93 17 27 0 .int := ⟨rfl, R_MO, T_MO, 44, t_MO, rfl, uw_MO, by decide, rfl, (ab_in 953 (by decide +kernel) (by decide +kernel)), t_MO_ok, n_MO, rfl, rfl⟩
theorem fF_MO_96 : ab_fF "PolicyForgeModel" 96 17 28 1 (t_MO 28) := ⟨rfl, R_MO, T_MO, 44, t_MO, rfl, uw_MO, by decide, rfl, (ab_in 954 (by decide +kernel) (by decide +kernel)), t_MO_ok, n_MO, rfl, rfl, rfl⟩
theorem fp_MO_99 : ab_fp "PolicyForgeModel" 99 17 29 0 .int := ⟨rfl, R_MO, T_MO, 44, t_MO, rfl, uw_MO, by decide, rfl, (ab_in 955 (by decide +kernel) (by decide +kernel)), t_MO_ok, n_MO, rfl, rfl⟩
theorem fp_MO_102 : ab_fp "PolicyForgeModel" 102 17 30 0 .int := ⟨rfl, R_MO, T_MO, 44, t_MO, rfl, uw_MO, by decide, rfl, (ab_in 956 (by decide +kernel) (by decide +kernel)), t_MO_ok, n_MO, rfl, rfl⟩
theorem fF_MO_105 : ab_fF "PolicyForgeModel" 105 17 31 1 (t_MO 31) := ⟨rfl, R_MO, T_MO, 44, t_MO, rfl, uw_MO, by decide, rfl, (ab_in 957 (by decide +kernel) (by decide +kernel)), t_MO_ok, n_MO, rfl, rfl, rfl⟩
theorem fp_MO_108 : ab_fp "PolicyForgeModel" 108 17 32 0 .int := ⟨rfl, R_MO, T_MO, 44, t_MO, rfl, uw_MO, by decide, rfl, (ab_in 958 (by decide +kernel) (by decide +kernel)), t_MO_ok, n_MO, rfl, rfl⟩
theorem fp_MO_111 : ab_fp "PolicyForgeModel" 111 17 33 0 .int := ⟨rfl, R_MO, T_MO, 44, t_MO, rfl, uw_MO, by decide, rfl, (ab_in 959 (by decide +kernel) (by decide +kernel)), t_MO_ok, n_MO, rfl, rfl⟩
theorem fF_MO_114 : ab_fF "PolicyForgeModel" 114 17 34 1 (t_MO 34) := ⟨rfl, R_MO, T_MO, 44, t_MO, rfl, uw_MO, by decide, rfl, (ab_in 960 (by decide +kernel) (by decide +kernel)), t_MO_ok, n_MO, rfl, rfl, rfl⟩
theorem fp_MO_117 : ab_fp "PolicyForgeModel" 117 17 35 0 .int := ⟨rfl, R_MO, T_MO, 44, t_MO, rfl, uw_MO, by decide, rfl, (ab_in 961 (by decide +kernel) (by decide +kernel)), t_MO_ok, n_MO, rfl, rfl⟩
theorem fF_MO_120 : ab_fF "PolicyForgeModel" 120 17 36 1 (t_MO 36) := ⟨rfl, R_MO, T_MO, 44, t_MO, rfl, uw_MO, by decide, rfl, (ab_in 962 (by decide +kernel) (by decide +kernel)), t_MO_ok, n_MO, rfl, rfl, rfl⟩
theorem fp_MO_123 : ab_fp "PolicyForgeModel" 123 17 37 0 .int := ⟨rfl, R_MO, T_MO, 44, t_MO, rfl, uw_MO, by decide, rfl, (ab_in 963 (by decide +kernel) (by decide +kernel)), t_MO_ok, n_MO, rfl, rfl⟩
theorem fF_MO_126 : ab_fF "PolicyForgeModel" 126 17 38 1 (t_MO 38) := ⟨rfl, R_MO, T_MO, 44, t_MO, rfl, uw_MO, by decide, rfl, (ab_in 964 (by decide +kernel) (by decide +kernel)), t_MO_ok, n_MO, rfl, rfl, rfl⟩
theorem fp_MO_129 : ab_fp "PolicyForgeModel" 129 17 39 0 .int := ⟨rfl, R_MO, T_MO, 44, t_MO, rfl, uw_MO, by decide, rfl, (ab_in 965 (by decide +kernel) (by decide +kernel)), t_MO_ok, n_MO, rfl, rfl⟩
theorem fp_MO_132 : ab_fp "PolicyForgeModel" 132 17 40 0 .boolean := ⟨rfl, R_MO, T_MO, 44, t_MO, rfl, uw_MO, by decide, rfl, (ab_in 966 (by decide +kernel) (by decide +kernel)), t_MO_ok, n_MO, rfl, rfl⟩
theorem fp_MO_135 : ab_fp "PolicyForgeModel" 135 17 41 0 .int := ⟨rfl, R_MO, T_MO, 44, t_MO, rfl, uw_MO, by decide, rfl, (ab_in 967 (by decide +kernel) (by decide +kernel)), t_MO_ok, n_MO, rfl, rfl⟩
theorem fp_MO_138 : ab_fp "PolicyForgeModel" 138 17 42 0 .boolean := ⟨rfl, R_MO, T_MO, 44, t_MO, rfl, uw_MO, by decide, rfl, (ab_in 968 (by decide +kernel) (by decide +kernel)), t_MO_ok, n_MO, rfl, rfl⟩
theorem fF_MO_141 : ab_fF "PolicyForgeModel" 141 17 43 1 (t_MO 43) := ⟨rfl, R_MO, T_MO, 44, t_MO, rfl, uw_MO, by decide, rfl, (ab_in 969 (by decide +kernel) (by decide +kernel)), t_MO_ok, n_MO, rfl, rfl, rfl⟩
set_option maxRecDepth 100000 in
set_option maxHeartbeats 8000000 in
theorem c_MO_init {l : Launch} {D : va_G} {ca : Nat → ClassId} : ab_CA l D ca y_MO_init b_MO_init 1 1 22 13236 (ab_nx ab_n7 17) ab_uC [ab_O 17 0] ab_nM (fun u' => u' = ab_uM) := by
  refine ab_CA.of (by decide) rfl (Nat.le_of_ble_eq_true rfl) ?_
  intro p e s m args below meth c ad X hr0 hlk hin
  have hX : True := trivial
  refine ab_aload_n X 0 d_MO_init_0 rfl rfl ?_
  refine ab_objInit X oi_MO_1 d_MO_init_1 ⟨by first | exact Nat.le_of_ble_eq_true rfl | (simp only [ab_rm]; omega), by first | exact Nat.le_of_ble_eq_true rfl | (simp only [ab_rm]; omega)⟩ (Nat.le_of_ble_eq_true rfl) ?_
  refine ab_Nr ab_ke ?_
  refine ab_u (u' := ab_m0) rfl ?_
  refine ab_aload_n X 0 d_MO_init_4 rfl rfl ?_
  refine ab_iconst (v := 0) X d_MO_init_5 (by decide) ?_
  refine ab_putI X fp_MO_7 d_MO_init_6 (by decide) rfl rfl ?_
  refine ab_u (ab_ui_same (show (ab_m0).1 17 0 0 = 0 from (ab_gC.1 17 0 0 (by decide)).1)) ?_
  refine ab_aload_n X 0 d_MO_init_9 rfl rfl ?_
  refine ab_bipush (v := 100) X d_MO_init_10 (by decide) ?_
  refine ab_newa (c' := 18) X rfl (ab_in 171 (by decide +kernel) (by decide +kernel)) (Or.inl ⟨rfl, Or.inl rfl⟩) (fun _ => rfl) d_MO_init_12 (by decide) (ab_ln_le _ _) (by decide) (ab_h0) (by (repeat' (first | (intro q hq; exact absurd hq (List.not_mem_nil)) | refine List.forall_mem_cons.mpr ⟨?_, ?_⟩)) <;> (first | trivial | (refine Or.inl ?_; first | assumption | exact Nat.le_of_ble_eq_true rfl | exact Nat.lt_succ_self _ | (simp [ab_nx]; done) | (simp [ab_nx]; omega)))) (by (repeat' (first | (intro q hq; exact absurd hq (List.not_mem_nil)) | refine List.forall_mem_cons.mpr ⟨?_, ?_⟩)) <;> (first | trivial | (refine Or.inl ?_; first | assumption | exact Nat.le_of_ble_eq_true rfl | exact Nat.lt_succ_self _ | (simp [ab_nx]; done) | (simp [ab_nx]; omega)))) ⟨by first | exact Nat.le_of_ble_eq_true rfl | (simp only [ab_rm]; omega), by first | exact Nat.le_of_ble_eq_true rfl | (simp only [ab_rm]; omega)⟩ (fun ad12 x12 => ?_)
  refine ab_widen (k := 1) (n := 100) (Nat.le_of_ble_eq_true rfl) (Nat.le_of_ble_eq_true rfl) ?_
  refine ab_Nr ab_ke1 ?_
  refine ab_putFR X fF_MO_13 (by first | exact Or.inl ⟨_, rfl⟩ | exact Or.inr ⟨_, rfl⟩) hin d_MO_init_14 (by decide) ?_
  refine ab_u (u' := ab_m1) rfl ?_
  have y1 : ab_ex (ab_nx ab_n7 17) ad ad12 := by rw [ab_ke]; exact x12
  refine ab_aload_n X 0 d_MO_init_17 rfl rfl ?_
  refine ab_iconst (v := 0) X d_MO_init_18 (by decide) ?_
  refine ab_putI X fp_MO_17 d_MO_init_19 (by decide) rfl rfl ?_
  refine ab_u (ab_ui_same (show (ab_m1).1 17 0 2 = 0 from (ab_gC.1 17 0 2 (by decide)).1)) ?_
  refine ab_aload_n X 0 d_MO_init_22 rfl rfl ?_
  refine ab_iconst (v := (-1)) X d_MO_init_23 (by decide) ?_
  refine ab_putI X fp_MO_20 d_MO_init_24 (by decide) rfl rfl ?_
  refine ab_u (u' := ab_m2) rfl ?_
  refine ab_aload_n X 0 d_MO_init_27 rfl rfl ?_
  refine ab_iconst (v := 0) X d_MO_init_28 (by decide) ?_
  refine ab_putI X fp_MO_23 d_MO_init_29 (by decide) (by decide +kernel) (by decide +kernel) ?_
  refine ab_u (ab_ui_same (show (ab_m2).1 17 0 4 = 0 from (ab_gC.1 17 0 4 (by decide)).1)) ?_
  refine ab_aload_n X 0 d_MO_init_32 rfl rfl ?_
  refine ab_iconst (v := 0) X d_MO_init_33 (by decide) ?_
  refine ab_putI X fp_MO_27 d_MO_init_34 (by decide) rfl rfl ?_
  refine ab_u (ab_ui_same (show (ab_m2).1 17 0 5 = 0 from (ab_gC.1 17 0 5 (by decide)).1)) ?_
  refine ab_aload_n X 0 d_MO_init_37 rfl rfl ?_
  refine ab_iconst (v := 0) X d_MO_init_38 (by decide) ?_
  refine ab_putI X fp_MO_30 d_MO_init_39 (by decide) rfl rfl ?_
  refine ab_u (ab_ui_same (show (ab_m2).1 17 0 6 = 0 from (ab_gC.1 17 0 6 (by decide)).1)) ?_
  refine ab_aload_n X 0 d_MO_init_42 rfl rfl ?_
  refine ab_bipush (v := 40) X d_MO_init_43 (by decide) ?_
  refine ab_newa (c' := 18) X rfl (ab_in 171 (by decide +kernel) (by decide +kernel)) (Or.inl ⟨rfl, Or.inl rfl⟩) (fun _ => rfl) d_MO_init_45 (by decide) (ab_ln_le _ _) (by decide) (ab_h2) (by (repeat' (first | (intro q hq; exact absurd hq (List.not_mem_nil)) | refine List.forall_mem_cons.mpr ⟨?_, ?_⟩)) <;> (first | trivial | (refine Or.inl ?_; first | assumption | exact Nat.le_of_ble_eq_true rfl | exact Nat.lt_succ_self _ | (simp [ab_nx]; done) | (simp [ab_nx]; omega)))) (by (repeat' (first | (intro q hq; exact absurd hq (List.not_mem_nil)) | refine List.forall_mem_cons.mpr ⟨?_, ?_⟩)) <;> (first | trivial | (refine Or.inl ?_; first | assumption | exact Nat.le_of_ble_eq_true rfl | exact Nat.lt_succ_self _ | (simp [ab_nx]; done) | (simp [ab_nx]; omega)))) ⟨by first | exact Nat.le_of_ble_eq_true rfl | (simp only [ab_rm]; omega), by first | exact Nat.le_of_ble_eq_true rfl | (simp only [ab_rm]; omega)⟩ (fun ad45 x45 => ?_)
  refine ab_widen (k := 2) (n := 140) (Nat.le_of_ble_eq_true rfl) (Nat.le_of_ble_eq_true rfl) ?_
  refine ab_Nr ab_ke2 ?_
  refine ab_putFR X fF_MO_33 (by first | exact Or.inl ⟨_, rfl⟩ | exact Or.inr ⟨_, rfl⟩) hin d_MO_init_47 (by decide) ?_
  refine ab_u (u' := ab_m3) rfl ?_
  have y2 := ab_ex.trans y1 (ab_kle (by decide +kernel)) x45
  refine ab_aload_n X 0 d_MO_init_50 rfl rfl ?_
  refine ab_bipush (v := 40) X d_MO_init_51 (by decide) ?_
  refine ab_newa (c' := 18) X rfl (ab_in 171 (by decide +kernel) (by decide +kernel)) (Or.inl ⟨rfl, Or.inl rfl⟩) (fun _ => rfl) d_MO_init_53 (by decide) (ab_ln_le _ _) (by decide) (ab_h3) (by (repeat' (first | (intro q hq; exact absurd hq (List.not_mem_nil)) | refine List.forall_mem_cons.mpr ⟨?_, ?_⟩)) <;> (first | trivial | (refine Or.inl ?_; first | assumption | exact Nat.le_of_ble_eq_true rfl | exact Nat.lt_succ_self _ | (simp [ab_nx]; done) | (simp [ab_nx]; omega)))) (by (repeat' (first | (intro q hq; exact absurd hq (List.not_mem_nil)) | refine List.forall_mem_cons.mpr ⟨?_, ?_⟩)) <;> (first | trivial | (refine Or.inl ?_; first | assumption | exact Nat.le_of_ble_eq_true rfl | exact Nat.lt_succ_self _ | (simp [ab_nx]; done) | (simp [ab_nx]; omega)))) ⟨by first | exact Nat.le_of_ble_eq_true rfl | (simp only [ab_rm]; omega), by first | exact Nat.le_of_ble_eq_true rfl | (simp only [ab_rm]; omega)⟩ (fun ad53 x53 => ?_)
  refine ab_widen (k := 3) (n := 180) (Nat.le_of_ble_eq_true rfl) (Nat.le_of_ble_eq_true rfl) ?_
  refine ab_Nr ab_ke3 ?_
  refine ab_putFR X fF_MO_36 (by first | exact Or.inl ⟨_, rfl⟩ | exact Or.inr ⟨_, rfl⟩) hin d_MO_init_55 (by decide) ?_
  refine ab_u (u' := ab_m4) rfl ?_
  have y3 := ab_ex.trans y2 (ab_kle (by decide +kernel)) x53
  refine ab_aload_n X 0 d_MO_init_58 rfl rfl ?_
  refine ab_bipush (v := 40) X d_MO_init_59 (by decide) ?_
  refine ab_newa (c' := 18) X rfl (ab_in 171 (by decide +kernel) (by decide +kernel)) (Or.inl ⟨rfl, Or.inl rfl⟩) (fun _ => rfl) d_MO_init_61 (by decide) (ab_ln_le _ _) (by decide) (ab_h4) (by (repeat' (first | (intro q hq; exact absurd hq (List.not_mem_nil)) | refine List.forall_mem_cons.mpr ⟨?_, ?_⟩)) <;> (first | trivial | (refine Or.inl ?_; first | assumption | exact Nat.le_of_ble_eq_true rfl | exact Nat.lt_succ_self _ | (simp [ab_nx]; done) | (simp [ab_nx]; omega)))) (by (repeat' (first | (intro q hq; exact absurd hq (List.not_mem_nil)) | refine List.forall_mem_cons.mpr ⟨?_, ?_⟩)) <;> (first | trivial | (refine Or.inl ?_; first | assumption | exact Nat.le_of_ble_eq_true rfl | exact Nat.lt_succ_self _ | (simp [ab_nx]; done) | (simp [ab_nx]; omega)))) ⟨by first | exact Nat.le_of_ble_eq_true rfl | (simp only [ab_rm]; omega), by first | exact Nat.le_of_ble_eq_true rfl | (simp only [ab_rm]; omega)⟩ (fun ad61 x61 => ?_)
  refine ab_widen (k := 4) (n := 220) (Nat.le_of_ble_eq_true rfl) (Nat.le_of_ble_eq_true rfl) ?_
  refine ab_Nr ab_ke4 ?_
  refine ab_putFR X fF_MO_39 (by first | exact Or.inl ⟨_, rfl⟩ | exact Or.inr ⟨_, rfl⟩) hin d_MO_init_63 (by decide) ?_
  refine ab_u (u' := ab_m5) rfl ?_
  have y4 := ab_ex.trans y3 (ab_kle (by decide +kernel)) x61
  refine ab_aload_n X 0 d_MO_init_66 rfl rfl ?_
  refine ab_sipush (v := 160) X d_MO_init_67 (by decide) ?_
  refine ab_newa (c' := 18) X rfl (ab_in 171 (by decide +kernel) (by decide +kernel)) (Or.inl ⟨rfl, Or.inl rfl⟩) (fun _ => rfl) d_MO_init_70 (by decide) (ab_ln_le _ _) (by decide) (ab_h5) (by (repeat' (first | (intro q hq; exact absurd hq (List.not_mem_nil)) | refine List.forall_mem_cons.mpr ⟨?_, ?_⟩)) <;> (first | trivial | (refine Or.inl ?_; first | assumption | exact Nat.le_of_ble_eq_true rfl | exact Nat.lt_succ_self _ | (simp [ab_nx]; done) | (simp [ab_nx]; omega)))) (by (repeat' (first | (intro q hq; exact absurd hq (List.not_mem_nil)) | refine List.forall_mem_cons.mpr ⟨?_, ?_⟩)) <;> (first | trivial | (refine Or.inl ?_; first | assumption | exact Nat.le_of_ble_eq_true rfl | exact Nat.lt_succ_self _ | (simp [ab_nx]; done) | (simp [ab_nx]; omega)))) ⟨by first | exact Nat.le_of_ble_eq_true rfl | (simp only [ab_rm]; omega), by first | exact Nat.le_of_ble_eq_true rfl | (simp only [ab_rm]; omega)⟩ (fun ad70 x70 => ?_)
  refine ab_widen (k := 5) (n := 380) (Nat.le_of_ble_eq_true rfl) (Nat.le_of_ble_eq_true rfl) ?_
  refine ab_Nr ab_ke5 ?_
  refine ab_putFR X fF_MO_42 (by first | exact Or.inl ⟨_, rfl⟩ | exact Or.inr ⟨_, rfl⟩) hin d_MO_init_72 (by decide) ?_
  refine ab_u (u' := ab_m6) rfl ?_
  have y5 := ab_ex.trans y4 (ab_kle (by decide +kernel)) x70
  refine ab_aload_n X 0 d_MO_init_75 rfl rfl ?_
  refine ab_bipush (v := 72) X d_MO_init_76 (by decide) ?_
  refine ab_newa (c' := 18) X rfl (ab_in 171 (by decide +kernel) (by decide +kernel)) (Or.inl ⟨rfl, Or.inl rfl⟩) (fun _ => rfl) d_MO_init_78 (by decide) (ab_ln_le _ _) (by decide) (ab_h6) (by (repeat' (first | (intro q hq; exact absurd hq (List.not_mem_nil)) | refine List.forall_mem_cons.mpr ⟨?_, ?_⟩)) <;> (first | trivial | (refine Or.inl ?_; first | assumption | exact Nat.le_of_ble_eq_true rfl | exact Nat.lt_succ_self _ | (simp [ab_nx]; done) | (simp [ab_nx]; omega)))) (by (repeat' (first | (intro q hq; exact absurd hq (List.not_mem_nil)) | refine List.forall_mem_cons.mpr ⟨?_, ?_⟩)) <;> (first | trivial | (refine Or.inl ?_; first | assumption | exact Nat.le_of_ble_eq_true rfl | exact Nat.lt_succ_self _ | (simp [ab_nx]; done) | (simp [ab_nx]; omega)))) ⟨by first | exact Nat.le_of_ble_eq_true rfl | (simp only [ab_rm]; omega), by first | exact Nat.le_of_ble_eq_true rfl | (simp only [ab_rm]; omega)⟩ (fun ad78 x78 => ?_)
  refine ab_widen (k := 6) (n := 452) (Nat.le_of_ble_eq_true rfl) (Nat.le_of_ble_eq_true rfl) ?_
  refine ab_Nr ab_ke6 ?_
  refine ab_putFR X fF_MO_45 (by first | exact Or.inl ⟨_, rfl⟩ | exact Or.inr ⟨_, rfl⟩) hin d_MO_init_80 (by decide) ?_
  refine ab_u (u' := ab_m7) rfl ?_
  have y6 := ab_ex.trans y5 (ab_kle (by decide +kernel)) x78
  refine ab_aload_n X 0 d_MO_init_83 rfl rfl ?_
  refine ab_bipush (v := 72) X d_MO_init_84 (by decide) ?_
  refine ab_newa (c' := 18) X rfl (ab_in 171 (by decide +kernel) (by decide +kernel)) (Or.inl ⟨rfl, Or.inl rfl⟩) (fun _ => rfl) d_MO_init_86 (by decide) (ab_ln_le _ _) (by decide) (ab_h7) (by (repeat' (first | (intro q hq; exact absurd hq (List.not_mem_nil)) | refine List.forall_mem_cons.mpr ⟨?_, ?_⟩)) <;> (first | trivial | (refine Or.inl ?_; first | assumption | exact Nat.le_of_ble_eq_true rfl | exact Nat.lt_succ_self _ | (simp [ab_nx]; done) | (simp [ab_nx]; omega)))) (by (repeat' (first | (intro q hq; exact absurd hq (List.not_mem_nil)) | refine List.forall_mem_cons.mpr ⟨?_, ?_⟩)) <;> (first | trivial | (refine Or.inl ?_; first | assumption | exact Nat.le_of_ble_eq_true rfl | exact Nat.lt_succ_self _ | (simp [ab_nx]; done) | (simp [ab_nx]; omega)))) ⟨by first | exact Nat.le_of_ble_eq_true rfl | (simp only [ab_rm]; omega), by first | exact Nat.le_of_ble_eq_true rfl | (simp only [ab_rm]; omega)⟩ (fun ad86 x86 => ?_)
  refine ab_widen (k := 7) (n := 524) (Nat.le_of_ble_eq_true rfl) (Nat.le_of_ble_eq_true rfl) ?_
  refine ab_Nr ab_ke7 ?_
  refine ab_putFR X fF_MO_48 (by first | exact Or.inl ⟨_, rfl⟩ | exact Or.inr ⟨_, rfl⟩) hin d_MO_init_88 (by decide) ?_
  refine ab_u (u' := ab_m8) rfl ?_
  have y7 := ab_ex.trans y6 (ab_kle (by decide +kernel)) x86
  refine ab_aload_n X 0 d_MO_init_91 rfl rfl ?_
  refine ab_bipush (v := 72) X d_MO_init_92 (by decide) ?_
  refine ab_newa (c' := 18) X rfl (ab_in 171 (by decide +kernel) (by decide +kernel)) (Or.inl ⟨rfl, Or.inl rfl⟩) (fun _ => rfl) d_MO_init_94 (by decide) (ab_ln_le _ _) (by decide) (ab_h8) (by (repeat' (first | (intro q hq; exact absurd hq (List.not_mem_nil)) | refine List.forall_mem_cons.mpr ⟨?_, ?_⟩)) <;> (first | trivial | (refine Or.inl ?_; first | assumption | exact Nat.le_of_ble_eq_true rfl | exact Nat.lt_succ_self _ | (simp [ab_nx]; done) | (simp [ab_nx]; omega)))) (by (repeat' (first | (intro q hq; exact absurd hq (List.not_mem_nil)) | refine List.forall_mem_cons.mpr ⟨?_, ?_⟩)) <;> (first | trivial | (refine Or.inl ?_; first | assumption | exact Nat.le_of_ble_eq_true rfl | exact Nat.lt_succ_self _ | (simp [ab_nx]; done) | (simp [ab_nx]; omega)))) ⟨by first | exact Nat.le_of_ble_eq_true rfl | (simp only [ab_rm]; omega), by first | exact Nat.le_of_ble_eq_true rfl | (simp only [ab_rm]; omega)⟩ (fun ad94 x94 => ?_)
  refine ab_widen (k := 8) (n := 596) (Nat.le_of_ble_eq_true rfl) (Nat.le_of_ble_eq_true rfl) ?_
  refine ab_Nr ab_ke8 ?_
  refine ab_putFR X fF_MO_51 (by first | exact Or.inl ⟨_, rfl⟩ | exact Or.inr ⟨_, rfl⟩) hin d_MO_init_96 (by decide) ?_
  refine ab_u (u' := ab_m9) rfl ?_
  have y8 := ab_ex.trans y7 (ab_kle (by decide +kernel)) x94
  refine ab_aload_n X 0 d_MO_init_99 rfl rfl ?_
  refine ab_bipush (v := 24) X d_MO_init_100 (by decide) ?_
  refine ab_newa (c' := 18) X rfl (ab_in 171 (by decide +kernel) (by decide +kernel)) (Or.inl ⟨rfl, Or.inl rfl⟩) (fun _ => rfl) d_MO_init_102 (by decide) (ab_ln_le _ _) (by decide) (ab_h9) (by (repeat' (first | (intro q hq; exact absurd hq (List.not_mem_nil)) | refine List.forall_mem_cons.mpr ⟨?_, ?_⟩)) <;> (first | trivial | (refine Or.inl ?_; first | assumption | exact Nat.le_of_ble_eq_true rfl | exact Nat.lt_succ_self _ | (simp [ab_nx]; done) | (simp [ab_nx]; omega)))) (by (repeat' (first | (intro q hq; exact absurd hq (List.not_mem_nil)) | refine List.forall_mem_cons.mpr ⟨?_, ?_⟩)) <;> (first | trivial | (refine Or.inl ?_; first | assumption | exact Nat.le_of_ble_eq_true rfl | exact Nat.lt_succ_self _ | (simp [ab_nx]; done) | (simp [ab_nx]; omega)))) ⟨by first | exact Nat.le_of_ble_eq_true rfl | (simp only [ab_rm]; omega), by first | exact Nat.le_of_ble_eq_true rfl | (simp only [ab_rm]; omega)⟩ (fun ad102 x102 => ?_)
  refine ab_widen (k := 9) (n := 620) (Nat.le_of_ble_eq_true rfl) (Nat.le_of_ble_eq_true rfl) ?_
  refine ab_Nr ab_ke9 ?_
  refine ab_putFR X fF_MO_54 (by first | exact Or.inl ⟨_, rfl⟩ | exact Or.inr ⟨_, rfl⟩) hin d_MO_init_104 (by decide) ?_
  refine ab_u (u' := ab_m10) rfl ?_
  have y9 := ab_ex.trans y8 (ab_kle (by decide +kernel)) x102
  refine ab_aload_n X 0 d_MO_init_107 rfl rfl ?_
  refine ab_sipush (v := 7200) X d_MO_init_108 (by decide) ?_
  refine ab_newa (c' := 18) X rfl (ab_in 171 (by decide +kernel) (by decide +kernel)) (Or.inl ⟨rfl, Or.inl rfl⟩) (fun _ => rfl) d_MO_init_111 (by decide) (ab_ln_le _ _) (by decide) (ab_h10) (by (repeat' (first | (intro q hq; exact absurd hq (List.not_mem_nil)) | refine List.forall_mem_cons.mpr ⟨?_, ?_⟩)) <;> (first | trivial | (refine Or.inl ?_; first | assumption | exact Nat.le_of_ble_eq_true rfl | exact Nat.lt_succ_self _ | (simp [ab_nx]; done) | (simp [ab_nx]; omega)))) (by (repeat' (first | (intro q hq; exact absurd hq (List.not_mem_nil)) | refine List.forall_mem_cons.mpr ⟨?_, ?_⟩)) <;> (first | trivial | (refine Or.inl ?_; first | assumption | exact Nat.le_of_ble_eq_true rfl | exact Nat.lt_succ_self _ | (simp [ab_nx]; done) | (simp [ab_nx]; omega)))) ⟨by first | exact Nat.le_of_ble_eq_true rfl | (simp only [ab_rm]; omega), by first | exact Nat.le_of_ble_eq_true rfl | (simp only [ab_rm]; omega)⟩ (fun ad111 x111 => ?_)
  refine ab_widen (k := 10) (n := 7820) (Nat.le_of_ble_eq_true rfl) (Nat.le_of_ble_eq_true rfl) ?_
  refine ab_Nr ab_ke10 ?_
  refine ab_putFR X fF_MO_57 (by first | exact Or.inl ⟨_, rfl⟩ | exact Or.inr ⟨_, rfl⟩) hin d_MO_init_113 (by decide) ?_
  refine ab_u (u' := ab_m11) rfl ?_
  have y10 := ab_ex.trans y9 (ab_kle (by decide +kernel)) x111
  refine ab_aload_n X 0 d_MO_init_116 rfl rfl ?_
  refine ab_iconst (v := 0) X d_MO_init_117 (by decide) ?_
  refine ab_putI X fp_MO_60 d_MO_init_118 (by decide) rfl rfl ?_
  refine ab_u (ab_ui_same (show (ab_m11).1 17 0 16 = 0 from (ab_gC.1 17 0 16 (by decide)).1)) ?_
  refine ab_aload_n X 0 d_MO_init_121 rfl rfl ?_
  refine ab_iconst (v := 0) X d_MO_init_122 (by decide) ?_
  refine ab_putI X fp_MO_63 d_MO_init_123 (by decide) rfl rfl ?_
  refine ab_u (ab_ui_same (show (ab_m11).1 17 0 17 = 0 from (ab_gC.1 17 0 17 (by decide)).1)) ?_
  refine ab_aload_n X 0 d_MO_init_126 rfl rfl ?_
  refine ab_iconst (v := 0) X d_MO_init_127 (by decide) ?_
  refine ab_putI X fp_MO_66 d_MO_init_128 (by decide) rfl rfl ?_
  refine ab_u (ab_ui_same (show (ab_m11).1 17 0 18 = 0 from (ab_gC.1 17 0 18 (by decide)).1)) ?_
  refine ab_aload_n X 0 d_MO_init_131 rfl rfl ?_
  refine ab_iconst (v := 0) X d_MO_init_132 (by decide) ?_
  refine ab_putI X fp_MO_69 d_MO_init_133 (by decide) rfl rfl ?_
  refine ab_u (ab_ui_same (show (ab_m11).1 17 0 19 = 0 from (ab_gC.1 17 0 19 (by decide)).1)) ?_
  refine ab_aload_n X 0 d_MO_init_136 rfl rfl ?_
  refine ab_sipush (v := 3600) X d_MO_init_137 (by decide) ?_
  refine ab_newa (c' := 18) X rfl (ab_in 171 (by decide +kernel) (by decide +kernel)) (Or.inl ⟨rfl, Or.inl rfl⟩) (fun _ => rfl) d_MO_init_140 (by decide) (ab_ln_le _ _) (by decide) (ab_h11) (by (repeat' (first | (intro q hq; exact absurd hq (List.not_mem_nil)) | refine List.forall_mem_cons.mpr ⟨?_, ?_⟩)) <;> (first | trivial | (refine Or.inl ?_; first | assumption | exact Nat.le_of_ble_eq_true rfl | exact Nat.lt_succ_self _ | (simp [ab_nx]; done) | (simp [ab_nx]; omega)))) (by (repeat' (first | (intro q hq; exact absurd hq (List.not_mem_nil)) | refine List.forall_mem_cons.mpr ⟨?_, ?_⟩)) <;> (first | trivial | (refine Or.inl ?_; first | assumption | exact Nat.le_of_ble_eq_true rfl | exact Nat.lt_succ_self _ | (simp [ab_nx]; done) | (simp [ab_nx]; omega)))) ⟨by first | exact Nat.le_of_ble_eq_true rfl | (simp only [ab_rm]; omega), by first | exact Nat.le_of_ble_eq_true rfl | (simp only [ab_rm]; omega)⟩ (fun ad140 x140 => ?_)
  refine ab_widen (k := 11) (n := 11420) (Nat.le_of_ble_eq_true rfl) (Nat.le_of_ble_eq_true rfl) ?_
  refine ab_Nr ab_ke11 ?_
  refine ab_putFR X fF_MO_72 (by first | exact Or.inl ⟨_, rfl⟩ | exact Or.inr ⟨_, rfl⟩) hin d_MO_init_142 (by decide) ?_
  refine ab_u (u' := ab_m12) rfl ?_
  have y11 := ab_ex.trans y10 (ab_kle (by decide +kernel)) x140
  refine ab_aload_n X 0 d_MO_init_145 rfl rfl ?_
  refine ab_bipush (v := 72) X d_MO_init_146 (by decide) ?_
  refine ab_newa (c' := 18) X rfl (ab_in 171 (by decide +kernel) (by decide +kernel)) (Or.inl ⟨rfl, Or.inl rfl⟩) (fun _ => rfl) d_MO_init_148 (by decide) (ab_ln_le _ _) (by decide) (ab_h12) (by (repeat' (first | (intro q hq; exact absurd hq (List.not_mem_nil)) | refine List.forall_mem_cons.mpr ⟨?_, ?_⟩)) <;> (first | trivial | (refine Or.inl ?_; first | assumption | exact Nat.le_of_ble_eq_true rfl | exact Nat.lt_succ_self _ | (simp [ab_nx]; done) | (simp [ab_nx]; omega)))) (by (repeat' (first | (intro q hq; exact absurd hq (List.not_mem_nil)) | refine List.forall_mem_cons.mpr ⟨?_, ?_⟩)) <;> (first | trivial | (refine Or.inl ?_; first | assumption | exact Nat.le_of_ble_eq_true rfl | exact Nat.lt_succ_self _ | (simp [ab_nx]; done) | (simp [ab_nx]; omega)))) ⟨by first | exact Nat.le_of_ble_eq_true rfl | (simp only [ab_rm]; omega), by first | exact Nat.le_of_ble_eq_true rfl | (simp only [ab_rm]; omega)⟩ (fun ad148 x148 => ?_)
  refine ab_widen (k := 12) (n := 11492) (Nat.le_of_ble_eq_true rfl) (Nat.le_of_ble_eq_true rfl) ?_
  refine ab_Nr ab_ke12 ?_
  refine ab_putFR X fF_MO_75 (by first | exact Or.inl ⟨_, rfl⟩ | exact Or.inr ⟨_, rfl⟩) hin d_MO_init_150 (by decide) ?_
  refine ab_u (u' := ab_m13) rfl ?_
  have y12 := ab_ex.trans y11 (ab_kle (by decide +kernel)) x148
  refine ab_aload_n X 0 d_MO_init_153 rfl rfl ?_
  refine ab_bipush (v := 72) X d_MO_init_154 (by decide) ?_
  refine ab_newa (c' := 18) X rfl (ab_in 171 (by decide +kernel) (by decide +kernel)) (Or.inl ⟨rfl, Or.inl rfl⟩) (fun _ => rfl) d_MO_init_156 (by decide) (ab_ln_le _ _) (by decide) (ab_h13) (by (repeat' (first | (intro q hq; exact absurd hq (List.not_mem_nil)) | refine List.forall_mem_cons.mpr ⟨?_, ?_⟩)) <;> (first | trivial | (refine Or.inl ?_; first | assumption | exact Nat.le_of_ble_eq_true rfl | exact Nat.lt_succ_self _ | (simp [ab_nx]; done) | (simp [ab_nx]; omega)))) (by (repeat' (first | (intro q hq; exact absurd hq (List.not_mem_nil)) | refine List.forall_mem_cons.mpr ⟨?_, ?_⟩)) <;> (first | trivial | (refine Or.inl ?_; first | assumption | exact Nat.le_of_ble_eq_true rfl | exact Nat.lt_succ_self _ | (simp [ab_nx]; done) | (simp [ab_nx]; omega)))) ⟨by first | exact Nat.le_of_ble_eq_true rfl | (simp only [ab_rm]; omega), by first | exact Nat.le_of_ble_eq_true rfl | (simp only [ab_rm]; omega)⟩ (fun ad156 x156 => ?_)
  refine ab_widen (k := 13) (n := 11564) (Nat.le_of_ble_eq_true rfl) (Nat.le_of_ble_eq_true rfl) ?_
  refine ab_Nr ab_ke13 ?_
  refine ab_putFR X fF_MO_78 (by first | exact Or.inl ⟨_, rfl⟩ | exact Or.inr ⟨_, rfl⟩) hin d_MO_init_158 (by decide) ?_
  refine ab_u (u' := ab_m14) rfl ?_
  have y13 := ab_ex.trans y12 (ab_kle (by decide +kernel)) x156
  refine ab_aload_n X 0 d_MO_init_161 rfl rfl ?_
  refine ab_sipush (v := 1200) X d_MO_init_162 (by decide) ?_
  refine ab_newa (c' := 18) X rfl (ab_in 171 (by decide +kernel) (by decide +kernel)) (Or.inl ⟨rfl, Or.inl rfl⟩) (fun _ => rfl) d_MO_init_165 (by decide) (ab_ln_le _ _) (by decide) (ab_h14) (by (repeat' (first | (intro q hq; exact absurd hq (List.not_mem_nil)) | refine List.forall_mem_cons.mpr ⟨?_, ?_⟩)) <;> (first | trivial | (refine Or.inl ?_; first | assumption | exact Nat.le_of_ble_eq_true rfl | exact Nat.lt_succ_self _ | (simp [ab_nx]; done) | (simp [ab_nx]; omega)))) (by (repeat' (first | (intro q hq; exact absurd hq (List.not_mem_nil)) | refine List.forall_mem_cons.mpr ⟨?_, ?_⟩)) <;> (first | trivial | (refine Or.inl ?_; first | assumption | exact Nat.le_of_ble_eq_true rfl | exact Nat.lt_succ_self _ | (simp [ab_nx]; done) | (simp [ab_nx]; omega)))) ⟨by first | exact Nat.le_of_ble_eq_true rfl | (simp only [ab_rm]; omega), by first | exact Nat.le_of_ble_eq_true rfl | (simp only [ab_rm]; omega)⟩ (fun ad165 x165 => ?_)
  refine ab_widen (k := 14) (n := 12764) (Nat.le_of_ble_eq_true rfl) (Nat.le_of_ble_eq_true rfl) ?_
  refine ab_Nr ab_ke14 ?_
  refine ab_putFR X fF_MO_81 (by first | exact Or.inl ⟨_, rfl⟩ | exact Or.inr ⟨_, rfl⟩) hin d_MO_init_167 (by decide) ?_
  refine ab_u (u' := ab_m15) rfl ?_
  have y14 := ab_ex.trans y13 (ab_kle (by decide +kernel)) x165
  refine ab_aload_n X 0 d_MO_init_170 rfl rfl ?_
  refine ab_bipush (v := 24) X d_MO_init_171 (by decide) ?_
  refine ab_newa (c' := 18) X rfl (ab_in 171 (by decide +kernel) (by decide +kernel)) (Or.inl ⟨rfl, Or.inl rfl⟩) (fun _ => rfl) d_MO_init_173 (by decide) (ab_ln_le _ _) (by decide) (ab_h15) (by (repeat' (first | (intro q hq; exact absurd hq (List.not_mem_nil)) | refine List.forall_mem_cons.mpr ⟨?_, ?_⟩)) <;> (first | trivial | (refine Or.inl ?_; first | assumption | exact Nat.le_of_ble_eq_true rfl | exact Nat.lt_succ_self _ | (simp [ab_nx]; done) | (simp [ab_nx]; omega)))) (by (repeat' (first | (intro q hq; exact absurd hq (List.not_mem_nil)) | refine List.forall_mem_cons.mpr ⟨?_, ?_⟩)) <;> (first | trivial | (refine Or.inl ?_; first | assumption | exact Nat.le_of_ble_eq_true rfl | exact Nat.lt_succ_self _ | (simp [ab_nx]; done) | (simp [ab_nx]; omega)))) ⟨by first | exact Nat.le_of_ble_eq_true rfl | (simp only [ab_rm]; omega), by first | exact Nat.le_of_ble_eq_true rfl | (simp only [ab_rm]; omega)⟩ (fun ad173 x173 => ?_)
  refine ab_widen (k := 15) (n := 12788) (Nat.le_of_ble_eq_true rfl) (Nat.le_of_ble_eq_true rfl) ?_
  refine ab_Nr ab_ke15 ?_
  refine ab_putFR X fF_MO_84 (by first | exact Or.inl ⟨_, rfl⟩ | exact Or.inr ⟨_, rfl⟩) hin d_MO_init_175 (by decide) ?_
  refine ab_u (u' := ab_m16) rfl ?_
  have y15 := ab_ex.trans y14 (ab_kle (by decide +kernel)) x173
  refine ab_aload_n X 0 d_MO_init_178 rfl rfl ?_
  refine ab_bipush (v := 64) X d_MO_init_179 (by decide) ?_
  refine ab_newa (c' := 18) X rfl (ab_in 171 (by decide +kernel) (by decide +kernel)) (Or.inl ⟨rfl, Or.inl rfl⟩) (fun _ => rfl) d_MO_init_181 (by decide) (ab_ln_le _ _) (by decide) (ab_h16) (by (repeat' (first | (intro q hq; exact absurd hq (List.not_mem_nil)) | refine List.forall_mem_cons.mpr ⟨?_, ?_⟩)) <;> (first | trivial | (refine Or.inl ?_; first | assumption | exact Nat.le_of_ble_eq_true rfl | exact Nat.lt_succ_self _ | (simp [ab_nx]; done) | (simp [ab_nx]; omega)))) (by (repeat' (first | (intro q hq; exact absurd hq (List.not_mem_nil)) | refine List.forall_mem_cons.mpr ⟨?_, ?_⟩)) <;> (first | trivial | (refine Or.inl ?_; first | assumption | exact Nat.le_of_ble_eq_true rfl | exact Nat.lt_succ_self _ | (simp [ab_nx]; done) | (simp [ab_nx]; omega)))) ⟨by first | exact Nat.le_of_ble_eq_true rfl | (simp only [ab_rm]; omega), by first | exact Nat.le_of_ble_eq_true rfl | (simp only [ab_rm]; omega)⟩ (fun ad181 x181 => ?_)
  refine ab_widen (k := 16) (n := 12852) (Nat.le_of_ble_eq_true rfl) (Nat.le_of_ble_eq_true rfl) ?_
  refine ab_Nr ab_ke16 ?_
  refine ab_putFR X fF_MO_87 (by first | exact Or.inl ⟨_, rfl⟩ | exact Or.inr ⟨_, rfl⟩) hin d_MO_init_183 (by decide) ?_
  refine ab_u (u' := ab_m17) rfl ?_
  have y16 := ab_ex.trans y15 (ab_kle (by decide +kernel)) x181
  refine ab_aload_n X 0 d_MO_init_186 rfl rfl ?_
  refine ab_iconst (v := 0) X d_MO_init_187 (by decide) ?_
  refine ab_putI X fp_MO_90 d_MO_init_188 (by decide) rfl rfl ?_
  refine ab_u (ab_ui_same (show (ab_m17).1 17 0 26 = 0 from (ab_gC.1 17 0 26 (by decide)).1)) ?_
  refine ab_aload_n X 0 d_MO_init_191 rfl rfl ?_
  refine ab_iconst (v := 0) X d_MO_init_192 (by decide) ?_
  refine ab_putI X fp_MO_93 d_MO_init_193 (by decide) rfl rfl ?_
  refine ab_u (ab_ui_same (show (ab_m17).1 17 0 27 = 0 from (ab_gC.1 17 0 27 (by decide)).1)) ?_
  refine ab_aload_n X 0 d_MO_init_196 rfl rfl ?_
  refine ab_bipush (v := 64) X d_MO_init_197 (by decide) ?_
  refine ab_newa (c' := 18) X rfl (ab_in 171 (by decide +kernel) (by decide +kernel)) (Or.inl ⟨rfl, Or.inl rfl⟩) (fun _ => rfl) d_MO_init_199 (by decide) (ab_ln_le _ _) (by decide) (ab_h17) (by (repeat' (first | (intro q hq; exact absurd hq (List.not_mem_nil)) | refine List.forall_mem_cons.mpr ⟨?_, ?_⟩)) <;> (first | trivial | (refine Or.inl ?_; first | assumption | exact Nat.le_of_ble_eq_true rfl | exact Nat.lt_succ_self _ | (simp [ab_nx]; done) | (simp [ab_nx]; omega)))) (by (repeat' (first | (intro q hq; exact absurd hq (List.not_mem_nil)) | refine List.forall_mem_cons.mpr ⟨?_, ?_⟩)) <;> (first | trivial | (refine Or.inl ?_; first | assumption | exact Nat.le_of_ble_eq_true rfl | exact Nat.lt_succ_self _ | (simp [ab_nx]; done) | (simp [ab_nx]; omega)))) ⟨by first | exact Nat.le_of_ble_eq_true rfl | (simp only [ab_rm]; omega), by first | exact Nat.le_of_ble_eq_true rfl | (simp only [ab_rm]; omega)⟩ (fun ad199 x199 => ?_)
  refine ab_widen (k := 17) (n := 12916) (Nat.le_of_ble_eq_true rfl) (Nat.le_of_ble_eq_true rfl) ?_
  refine ab_Nr ab_ke17 ?_
  refine ab_putFR X fF_MO_96 (by first | exact Or.inl ⟨_, rfl⟩ | exact Or.inr ⟨_, rfl⟩) hin d_MO_init_201 (by decide) ?_
  refine ab_u (u' := ab_m18) rfl ?_
  have y17 := ab_ex.trans y16 (ab_kle (by decide +kernel)) x199
  refine ab_aload_n X 0 d_MO_init_204 rfl rfl ?_
  refine ab_iconst (v := 0) X d_MO_init_205 (by decide) ?_
  refine ab_putI X fp_MO_99 d_MO_init_206 (by decide) rfl rfl ?_
  refine ab_u (ab_ui_same (show (ab_m18).1 17 0 29 = 0 from (ab_gC.1 17 0 29 (by decide)).1)) ?_
  refine ab_aload_n X 0 d_MO_init_209 rfl rfl ?_
  refine ab_iconst (v := 0) X d_MO_init_210 (by decide) ?_
  refine ab_putI X fp_MO_102 d_MO_init_211 (by decide) rfl rfl ?_
  refine ab_u (ab_ui_same (show (ab_m18).1 17 0 30 = 0 from (ab_gC.1 17 0 30 (by decide)).1)) ?_
  refine ab_aload_n X 0 d_MO_init_214 rfl rfl ?_
  refine ab_bipush (v := 64) X d_MO_init_215 (by decide) ?_
  refine ab_newa (c' := 18) X rfl (ab_in 171 (by decide +kernel) (by decide +kernel)) (Or.inl ⟨rfl, Or.inl rfl⟩) (fun _ => rfl) d_MO_init_217 (by decide) (ab_ln_le _ _) (by decide) (ab_h18) (by (repeat' (first | (intro q hq; exact absurd hq (List.not_mem_nil)) | refine List.forall_mem_cons.mpr ⟨?_, ?_⟩)) <;> (first | trivial | (refine Or.inl ?_; first | assumption | exact Nat.le_of_ble_eq_true rfl | exact Nat.lt_succ_self _ | (simp [ab_nx]; done) | (simp [ab_nx]; omega)))) (by (repeat' (first | (intro q hq; exact absurd hq (List.not_mem_nil)) | refine List.forall_mem_cons.mpr ⟨?_, ?_⟩)) <;> (first | trivial | (refine Or.inl ?_; first | assumption | exact Nat.le_of_ble_eq_true rfl | exact Nat.lt_succ_self _ | (simp [ab_nx]; done) | (simp [ab_nx]; omega)))) ⟨by first | exact Nat.le_of_ble_eq_true rfl | (simp only [ab_rm]; omega), by first | exact Nat.le_of_ble_eq_true rfl | (simp only [ab_rm]; omega)⟩ (fun ad217 x217 => ?_)
  refine ab_widen (k := 18) (n := 12980) (Nat.le_of_ble_eq_true rfl) (Nat.le_of_ble_eq_true rfl) ?_
  refine ab_Nr ab_ke18 ?_
  refine ab_putFR X fF_MO_105 (by first | exact Or.inl ⟨_, rfl⟩ | exact Or.inr ⟨_, rfl⟩) hin d_MO_init_219 (by decide) ?_
  refine ab_u (u' := ab_m19) rfl ?_
  have y18 := ab_ex.trans y17 (ab_kle (by decide +kernel)) x217
  refine ab_aload_n X 0 d_MO_init_222 rfl rfl ?_
  refine ab_iconst (v := 0) X d_MO_init_223 (by decide) ?_
  refine ab_putI X fp_MO_108 d_MO_init_224 (by decide) rfl rfl ?_
  refine ab_u (ab_ui_same (show (ab_m19).1 17 0 32 = 0 from (ab_gC.1 17 0 32 (by decide)).1)) ?_
  refine ab_aload_n X 0 d_MO_init_227 rfl rfl ?_
  refine ab_iconst (v := 0) X d_MO_init_228 (by decide) ?_
  refine ab_putI X fp_MO_111 d_MO_init_229 (by decide) rfl rfl ?_
  refine ab_u (ab_ui_same (show (ab_m19).1 17 0 33 = 0 from (ab_gC.1 17 0 33 (by decide)).1)) ?_
  refine ab_aload_n X 0 d_MO_init_232 rfl rfl ?_
  refine ab_sipush (v := 128) X d_MO_init_233 (by decide) ?_
  refine ab_newa (c' := 18) X rfl (ab_in 171 (by decide +kernel) (by decide +kernel)) (Or.inl ⟨rfl, Or.inl rfl⟩) (fun _ => rfl) d_MO_init_236 (by decide) (ab_ln_le _ _) (by decide) (ab_h19) (by (repeat' (first | (intro q hq; exact absurd hq (List.not_mem_nil)) | refine List.forall_mem_cons.mpr ⟨?_, ?_⟩)) <;> (first | trivial | (refine Or.inl ?_; first | assumption | exact Nat.le_of_ble_eq_true rfl | exact Nat.lt_succ_self _ | (simp [ab_nx]; done) | (simp [ab_nx]; omega)))) (by (repeat' (first | (intro q hq; exact absurd hq (List.not_mem_nil)) | refine List.forall_mem_cons.mpr ⟨?_, ?_⟩)) <;> (first | trivial | (refine Or.inl ?_; first | assumption | exact Nat.le_of_ble_eq_true rfl | exact Nat.lt_succ_self _ | (simp [ab_nx]; done) | (simp [ab_nx]; omega)))) ⟨by first | exact Nat.le_of_ble_eq_true rfl | (simp only [ab_rm]; omega), by first | exact Nat.le_of_ble_eq_true rfl | (simp only [ab_rm]; omega)⟩ (fun ad236 x236 => ?_)
  refine ab_widen (k := 19) (n := 13108) (Nat.le_of_ble_eq_true rfl) (Nat.le_of_ble_eq_true rfl) ?_
  refine ab_Nr ab_ke19 ?_
  refine ab_putFR X fF_MO_114 (by first | exact Or.inl ⟨_, rfl⟩ | exact Or.inr ⟨_, rfl⟩) hin d_MO_init_238 (by decide) ?_
  refine ab_u (u' := ab_m20) rfl ?_
  have y19 := ab_ex.trans y18 (ab_kle (by decide +kernel)) x236
  refine ab_aload_n X 0 d_MO_init_241 rfl rfl ?_
  refine ab_iconst (v := 0) X d_MO_init_242 (by decide) ?_
  refine ab_putI X fp_MO_117 d_MO_init_243 (by decide) rfl rfl ?_
  refine ab_u (ab_ui_same (show (ab_m20).1 17 0 35 = 0 from (ab_gC.1 17 0 35 (by decide)).1)) ?_
  refine ab_aload_n X 0 d_MO_init_246 rfl rfl ?_
  refine ab_bipush (v := 64) X d_MO_init_247 (by decide) ?_
  refine ab_newa (c' := 18) X rfl (ab_in 171 (by decide +kernel) (by decide +kernel)) (Or.inl ⟨rfl, Or.inl rfl⟩) (fun _ => rfl) d_MO_init_249 (by decide) (ab_ln_le _ _) (by decide) (ab_h20) (by (repeat' (first | (intro q hq; exact absurd hq (List.not_mem_nil)) | refine List.forall_mem_cons.mpr ⟨?_, ?_⟩)) <;> (first | trivial | (refine Or.inl ?_; first | assumption | exact Nat.le_of_ble_eq_true rfl | exact Nat.lt_succ_self _ | (simp [ab_nx]; done) | (simp [ab_nx]; omega)))) (by (repeat' (first | (intro q hq; exact absurd hq (List.not_mem_nil)) | refine List.forall_mem_cons.mpr ⟨?_, ?_⟩)) <;> (first | trivial | (refine Or.inl ?_; first | assumption | exact Nat.le_of_ble_eq_true rfl | exact Nat.lt_succ_self _ | (simp [ab_nx]; done) | (simp [ab_nx]; omega)))) ⟨by first | exact Nat.le_of_ble_eq_true rfl | (simp only [ab_rm]; omega), by first | exact Nat.le_of_ble_eq_true rfl | (simp only [ab_rm]; omega)⟩ (fun ad249 x249 => ?_)
  refine ab_widen (k := 20) (n := 13172) (Nat.le_of_ble_eq_true rfl) (Nat.le_of_ble_eq_true rfl) ?_
  refine ab_Nr ab_ke20 ?_
  refine ab_putFR X fF_MO_120 (by first | exact Or.inl ⟨_, rfl⟩ | exact Or.inr ⟨_, rfl⟩) hin d_MO_init_251 (by decide) ?_
  refine ab_u (u' := ab_m21) rfl ?_
  have y20 := ab_ex.trans y19 (ab_kle (by decide +kernel)) x249
  refine ab_aload_n X 0 d_MO_init_254 rfl rfl ?_
  refine ab_iconst (v := 0) X d_MO_init_255 (by decide) ?_
  refine ab_putI X fp_MO_123 d_MO_init_256 (by decide) rfl rfl ?_
  refine ab_u (ab_ui_same (show (ab_m21).1 17 0 37 = 0 from (ab_gC.1 17 0 37 (by decide)).1)) ?_
  refine ab_aload_n X 0 d_MO_init_259 rfl rfl ?_
  refine ab_bipush (v := 40) X d_MO_init_260 (by decide) ?_
  refine ab_newa (c' := 18) X rfl (ab_in 171 (by decide +kernel) (by decide +kernel)) (Or.inl ⟨rfl, Or.inl rfl⟩) (fun _ => rfl) d_MO_init_262 (by decide) (ab_ln_le _ _) (by decide) (ab_h21) (by (repeat' (first | (intro q hq; exact absurd hq (List.not_mem_nil)) | refine List.forall_mem_cons.mpr ⟨?_, ?_⟩)) <;> (first | trivial | (refine Or.inl ?_; first | assumption | exact Nat.le_of_ble_eq_true rfl | exact Nat.lt_succ_self _ | (simp [ab_nx]; done) | (simp [ab_nx]; omega)))) (by (repeat' (first | (intro q hq; exact absurd hq (List.not_mem_nil)) | refine List.forall_mem_cons.mpr ⟨?_, ?_⟩)) <;> (first | trivial | (refine Or.inl ?_; first | assumption | exact Nat.le_of_ble_eq_true rfl | exact Nat.lt_succ_self _ | (simp [ab_nx]; done) | (simp [ab_nx]; omega)))) ⟨by first | exact Nat.le_of_ble_eq_true rfl | (simp only [ab_rm]; omega), by first | exact Nat.le_of_ble_eq_true rfl | (simp only [ab_rm]; omega)⟩ (fun ad262 x262 => ?_)
  refine ab_widen (k := 21) (n := 13212) (Nat.le_of_ble_eq_true rfl) (Nat.le_of_ble_eq_true rfl) ?_
  refine ab_Nr ab_ke21 ?_
  refine ab_putFR X fF_MO_126 (by first | exact Or.inl ⟨_, rfl⟩ | exact Or.inr ⟨_, rfl⟩) hin d_MO_init_264 (by decide) ?_
  refine ab_u (u' := ab_m22) rfl ?_
  have y21 := ab_ex.trans y20 (ab_kle (by decide +kernel)) x262
  refine ab_aload_n X 0 d_MO_init_267 rfl rfl ?_
  refine ab_iconst (v := 0) X d_MO_init_268 (by decide) ?_
  refine ab_putI X fp_MO_129 d_MO_init_269 (by decide) rfl rfl ?_
  refine ab_u (ab_ui_same (show (ab_m22).1 17 0 39 = 0 from (ab_gC.1 17 0 39 (by decide)).1)) ?_
  refine ab_aload_n X 0 d_MO_init_272 rfl rfl ?_
  refine ab_iconst (v := 0) X d_MO_init_273 (by decide) ?_
  refine ab_putI X fp_MO_132 d_MO_init_274 (by decide) (by decide +kernel) (by decide +kernel) ?_
  refine ab_u (ab_ui_same (show (ab_m22).1 17 0 40 = 0 from (ab_gC.1 17 0 40 (by decide)).1)) ?_
  refine ab_aload_n X 0 d_MO_init_277 rfl rfl ?_
  refine ab_iconst (v := 0) X d_MO_init_278 (by decide) ?_
  refine ab_putI X fp_MO_135 d_MO_init_279 (by decide) rfl rfl ?_
  refine ab_u (ab_ui_same (show (ab_m22).1 17 0 41 = 0 from (ab_gC.1 17 0 41 (by decide)).1)) ?_
  refine ab_aload_n X 0 d_MO_init_282 rfl rfl ?_
  refine ab_iconst (v := 0) X d_MO_init_283 (by decide) ?_
  refine ab_putI X fp_MO_138 d_MO_init_284 (by decide) (by decide +kernel) (by decide +kernel) ?_
  refine ab_u (ab_ui_same (show (ab_m22).1 17 0 42 = 0 from (ab_gC.1 17 0 42 (by decide)).1)) ?_
  refine ab_aload_n X 0 d_MO_init_287 rfl rfl ?_
  refine ab_bipush (v := 24) X d_MO_init_288 (by decide) ?_
  refine ab_newa (c' := 19) X rfl (ab_in 1059 (by decide +kernel) (by decide +kernel)) (Or.inl ⟨rfl, Or.inr rfl⟩) (fun _ => rfl) d_MO_init_290 (by decide) (ab_ln_le _ _) (by decide) (ab_h22) (by (repeat' (first | (intro q hq; exact absurd hq (List.not_mem_nil)) | refine List.forall_mem_cons.mpr ⟨?_, ?_⟩)) <;> (first | trivial | (refine Or.inl ?_; first | assumption | exact Nat.le_of_ble_eq_true rfl | exact Nat.lt_succ_self _ | (simp [ab_nx]; done) | (simp [ab_nx]; omega)))) (by (repeat' (first | (intro q hq; exact absurd hq (List.not_mem_nil)) | refine List.forall_mem_cons.mpr ⟨?_, ?_⟩)) <;> (first | trivial | (refine Or.inl ?_; first | assumption | exact Nat.le_of_ble_eq_true rfl | exact Nat.lt_succ_self _ | (simp [ab_nx]; done) | (simp [ab_nx]; omega)))) ⟨by first | exact Nat.le_of_ble_eq_true rfl | (simp only [ab_rm]; omega), by first | exact Nat.le_of_ble_eq_true rfl | (simp only [ab_rm]; omega)⟩ (fun ad290 x290 => ?_)
  refine ab_widen (k := 22) (n := 13236) (Nat.le_of_ble_eq_true rfl) (Nat.le_of_ble_eq_true rfl) ?_
  refine ab_Nr ab_ke22 ?_
  refine ab_putFR X fF_MO_141 (by first | exact Or.inl ⟨_, rfl⟩ | exact Or.inr ⟨_, rfl⟩) hin d_MO_init_292 (by decide) ?_
  refine ab_u (u' := ab_m23) rfl ?_
  have y22 := ab_ex.trans y21 (ab_kle (by decide +kernel)) x290
  exact ab_retA X hr0 hlk y22 d_MO_init_295 rfl

