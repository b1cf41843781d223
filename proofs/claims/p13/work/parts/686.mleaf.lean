/-! The reference's reader: what it reads. -/
def shk (k : Nat) : Int32 := ([56, 48, 40, 32, 24, 16, 8, 0, -8] : List Int32).getD k 0
def mb (j k : Nat) : Int32 := if k + ab_sl.getD j 0 < 8 then 0 else ab_chr j (k + ab_sl.getD j 0 - 8)
theorem mb_eq : ∀ j, j < 7 → ∀ k, k < 8 → (mr_w j >>> ((shk k).toInt64 &&& 63)).toInt32 &&& 255 = mb j k := by decide +kernel
theorem shk_s : ∀ k, k < 8 → shk k + Int32.ofInt (-8) = shk (k + 1) ∧ ¬ shk k < 0 := by decide +kernel
theorem chr_n0 : ∀ g, g < 7 → ∀ j, j < ab_sl.getD g 0 → ab_chr g j ≠ 0 := by decide +kernel
theorem gl_z {T : Nat → Int32} {t q n r : Nat} (h : ¬ (ta T t q < 48 ∨ 57 < ta T t q)) (z : 10 * n + dgv 48 (ta T t q) = 0 ∧ r = 0) : glA T t (r + 1) n q = none := by
  unfold glA tmA; rw [if_neg h, if_pos z]
theorem lf_1 (T : Nat → Int32) (t q : Nat) : lfA T t 1 q = if ta T t q < 65 ∨ 72 < ta T t q ∨ ta T t (q + 1) ≠ 41 then none else some (dgv 65 (ta T t q), q + 2) := rfl
theorem lf_2 (T : Nat → Int32) (t q : Nat) : lfA T t 2 q = if ta T t q < 48 ∨ 57 < ta T t q ∨ ta T t (q + 1) ≠ 41 then none else some (dgv 48 (ta T t q), q + 2) := rfl
theorem lf_3 {k : Nat} (T : Nat → Int32) (t q : Nat) (h : 3 ≤ k) : lfA T t k q = glA T t 3 0 q := by unfold lfA; rw [if_neg (by omega), if_neg (by omega)]
section SaMLeafF
variable {l : Launch} {D : va_G} {ca : Nat → ClassId}
theorem t_MO_ta (u : ab_S) (q : Nat) (T : Nat → Int32) (t : Nat) (ht : t ≤ 100) (et : u.1 17 0 2 = nI t) (hT : ∀ k, k < t → u.1 18 0 k = T k) (h : mR u.2.1) (hq : q ≤ 1000) : ab_C false l D ca y_MO_at b_MO_at 2 (some .int) 0 ab_nQ u [ab_O 17 0, ab_I (nI q)] (fun u' v => u' = u ∧ v = some (ab_I (ta T t q))) := by
  refine ab_C_mono (t_MO_at u q t ht et h hq) ?_
  rintro u' v ⟨rfl, rfl⟩
  refine ⟨rfl, ?_⟩
  unfold atv ta
  by_cases z : q < t
  · rw [if_pos z, if_pos z, hT q z]
  · rw [if_neg z, if_neg z]
set_option maxRecDepth 100000 in
set_option maxHeartbeats 1000000 in
theorem t_MO_fitsj (u : ab_S) (q j : Nat) (T : Nat → Int32) (t : Nat) (ht : t ≤ 100) (et : u.1 17 0 2 = nI t) (hT : ∀ k, k < t → u.1 18 0 k = T k) (h : mR u.2.1) (hq : q ≤ 900) (hj : j < 7) : ab_C false l D ca y_MO_fits b_MO_fits 7 (some FieldType.int) 1 ab_nQ u [ab_O 17 0, ab_I (nI q), ab_L (mr_w j)] (fun u' v => u' = u ∧ ∃ n, n ≤ 8 ∧ ((n = ab_sl.getD j 0 ∧ mtb T t q j = true ∧ q + n ≤ t) ∨ (n < ab_sl.getD j 0 ∧ ¬ mtb T t q j = true)) ∧ v = some (ab_I (nI n))) := by
  refine ab_C.of (by decide) (Nat.le_of_ble_eq_true rfl) ?_
  intro p e s m args below meth c ad X hZ hr0 hlk
  have P0 : gP [] u u := gP.rf h
  have l6 := ab_sl6 hj
  have l3 := ab_sl3 hj
  have loop : ∀ (r k n : Nat), r + k = 8 → n = k + ab_sl.getD j 0 - 8 → (∀ i, i < n → ta T t (q + i) = ab_chr j i) → (n = 0 ∨ q + n ≤ t) → ab_J p l e (ab_rm 1 0 0) s m args below meth c (MQ below (ab_Q D ca ad ab_nQ s.heap.size (fun u' v => u' = u ∧ ∃ n, n ≤ 8 ∧ ((n = ab_sl.getD j 0 ∧ mtb T t q j = true ∧ q + n ≤ t) ∨ (n < ab_sl.getD j 0 ∧ ¬ mtb T t q j = true)) ∧ v = some (ab_I (nI n)))) args s 0 0 (ab_A ad ab_nQ s.heap.size)) D ca (ab_A ad ab_nQ s.heap.size) s.heap 7 0 0 ad ab_nQ u 7 [(5, ab_I (shk k)), (4, ab_I (nI n)), (0, ab_O 17 0), (1, ab_I (nI q)), (2, ab_L (mr_w j))] [] := by
    intro r
    induction r with
    | zero =>
      intro k n hk hn hm ht2
      obtain rfl : k = 8 := by omega
      refine ab_iload X 0 d_MO_fits_7 rfl ?_
      refine ab_if_lt X 53 d_MO_fits_9 rfl (fun _ => ?_) (fun hb => absurd ((by decide)) hb)
      refine ab_iload X 1 d_MO_fits_53 rfl ?_
      exact ab_reti X hr0 hlk d_MO_fits_55 ⟨rfl, n, by omega, Or.inl ⟨by omega, mtb_iff.mpr (fun i hi => hm i (by omega)), by omega⟩, rfl⟩
    | succ r ih =>
      intro k n hk hn hm ht2
      have s8 := shk_s k (by omega)
      refine ab_iload X 0 d_MO_fits_7 rfl ?_
      refine ab_if_lt X 53 d_MO_fits_9 rfl (fun hb => absurd hb (s8.2)) (fun _ => ?_)
      refine ab_lload_n X 4 d_MO_fits_12 rfl rfl ?_
      refine ab_iload X 0 d_MO_fits_13 rfl ?_
      refine ab_lshr X d_MO_fits_15 ?_
      refine ab_l2i X d_MO_fits_16 ?_
      refine ab_sipush (v := 255) X d_MO_fits_17 (by decide) ?_
      refine ab_iand X d_MO_fits_20 ?_
      refine ab_top (mb_eq j hj k (by omega)) ?_
      refine ab_istore5 X 0 1 2 3 4 d_MO_fits_21 (by decide) rfl rfl rfl rfl rfl rfl rfl rfl rfl rfl ?_
      refine ab_iload X 0 d_MO_fits_23 rfl ?_
      refine ab_if_eq X 47 d_MO_fits_25 rfl (fun h25 => ?_) (fun h25 => ?_)
      ·
        have k8 : k + ab_sl.getD j 0 < 8 := Classical.byContradiction (fun z => by unfold mb at h25; rw [if_neg z] at h25; exact chr_n0 j hj _ (by omega) h25)
        refine ab_iinc5 X 1 0 2 3 4 5 d_MO_fits_47 rfl (by decide) rfl rfl rfl rfl rfl rfl rfl rfl rfl rfl ?_
        refine ab_goto X 7 d_MO_fits_50 rfl ?_
        refine ab_lv (List.forall_mem_cons.mpr ⟨List.mem_of_getElem? (i := 0) rfl, List.forall_mem_cons.mpr ⟨List.mem_of_getElem? (i := 2) rfl, List.forall_mem_cons.mpr ⟨List.mem_of_getElem? (i := 3) rfl, List.forall_mem_cons.mpr ⟨List.mem_of_getElem? (i := 4) rfl, List.forall_mem_cons.mpr ⟨List.mem_of_getElem? (i := 5) rfl, fun _ h => absurd h List.not_mem_nil⟩⟩⟩⟩⟩) ?_
        rw [s8.1]
        first | exact ih (k + 1) n (by omega) (by omega) hm ht2 | (rw [show nI n + Int32.ofInt 1 = nI (n + 1) from nI_1 n]; exact ih (k + 1) (n + 1) (by omega) (by omega) (fun i hi => by by_cases z : i = n; (· rw [z]; exact heq); exact hm i (by omega)) (Or.inr (by omega)))
      ·
        have k8 : ¬ k + ab_sl.getD j 0 < 8 := fun z => h25 (if_pos z)
        have em : mb j k = ab_chr j n := by unfold mb; rw [if_neg k8, hn]
        refine ab_aload_n X 3 d_MO_fits_28 rfl rfl ?_
        refine ab_iload_n X 4 d_MO_fits_29 rfl rfl ?_
        refine ab_iload X 2 d_MO_fits_30 rfl ?_
        refine ab_iadd X d_MO_fits_32 ?_
        refine ab_top (nI_add q n) ?_
        refine ab_callV (as := [ab_I (nI (q + n))]) X (fun h => by cases h) (t_MO_ta u (q + n) T t ht et hT h (by omega)) lk_MO_145 d_MO_fits_33 rfl rfl (by first | assumption | decide | (show _ < 124; omega) | (show _ < 61; omega) | (show _ < 20; omega)) ⟨by first | exact Nat.le_of_ble_eq_true rfl | (simp only [ab_rm]; omega), by first | exact Nat.le_of_ble_eq_true rfl | (simp only [ab_rm]; omega)⟩ ⟨by first | exact Nat.le_of_ble_eq_true rfl | (simp only [ab_rm]; omega), by first | exact Nat.le_of_ble_eq_true rfl | (simp only [ab_rm]; omega)⟩ (Nat.le_of_ble_eq_true rfl) (fun u33 r33 h33 => ?_)
        obtain ⟨e33, rfl⟩ := h33
        subst u33
        refine ab_iload X 0 d_MO_fits_36 rfl ?_
        refine ab_icmp_eq X 44 d_MO_fits_38 rfl (fun h38 => ?_) (fun h38 => ?_)
        ·
          have heq : ta T t (q + n) = ab_chr j n := h38.trans em
          have hlt := ta_lt heq (chr_ne j hj n (by omega))
          refine ab_iinc5 X 2 0 1 3 4 5 d_MO_fits_44 rfl (by decide) rfl rfl rfl rfl rfl rfl rfl rfl rfl rfl ?_
          refine ab_iinc5 X 2 0 1 3 4 5 d_MO_fits_47 rfl (by decide) rfl rfl rfl rfl rfl rfl rfl rfl rfl rfl ?_
          refine ab_goto X 7 d_MO_fits_50 rfl ?_
          refine ab_lv (List.forall_mem_cons.mpr ⟨List.mem_of_getElem? (i := 0) rfl, List.forall_mem_cons.mpr ⟨List.mem_of_getElem? (i := 1) rfl, List.forall_mem_cons.mpr ⟨List.mem_of_getElem? (i := 3) rfl, List.forall_mem_cons.mpr ⟨List.mem_of_getElem? (i := 4) rfl, List.forall_mem_cons.mpr ⟨List.mem_of_getElem? (i := 5) rfl, fun _ h => absurd h List.not_mem_nil⟩⟩⟩⟩⟩) ?_
          rw [s8.1]
          first | exact ih (k + 1) n (by omega) (by omega) hm ht2 | (rw [show nI n + Int32.ofInt 1 = nI (n + 1) from nI_1 n]; exact ih (k + 1) (n + 1) (by omega) (by omega) (fun i hi => by by_cases z : i = n; (· rw [z]; exact heq); exact hm i (by omega)) (Or.inr (by omega)))
        ·
          have hne : ¬ mtb T t q j = true := fun z => h38 ((mtb_iff.mp z n (by omega)).trans em.symm)
          refine ab_iload X 2 d_MO_fits_41 rfl ?_
          exact ab_reti X hr0 hlk d_MO_fits_43 ⟨rfl, n, by omega, Or.inr ⟨by omega, hne⟩, rfl⟩
  refine ab_iconst (v := 0) X d_MO_fits_0 (by decide) ?_
  refine ab_istore3 X 0 1 2 d_MO_fits_1 (by decide) rfl rfl rfl rfl rfl rfl ?_
  refine ab_bipush (v := 56) X d_MO_fits_3 (by decide) ?_
  refine ab_istore4 X 0 1 2 3 d_MO_fits_5 (by decide) rfl rfl rfl rfl rfl rfl rfl rfl ?_
  exact loop 8 0 0 rfl (by omega) (fun i hi => absurd hi (Nat.not_lt_zero i)) (Or.inl rfl)
set_option maxRecDepth 100000 in
set_option maxHeartbeats 1000000 in
theorem f_MO_leaf (u : ab_S) (p1 q k Lf : Nat) (T : Nat → Int32) (t : Nat) (ht : t ≤ 100) (et : u.1 17 0 2 = nI t) (hT : ∀ k, k < t → u.1 18 0 k = T k) (h : mR u.2.1) (hp : p1 < 40) (hq : q ≤ 900) (ek : u.1 18 1 p1 = nI k) (hk1 : 1 ≤ k) (hk : k ≤ 4) (eL : u.1 17 0 6 = nI Lf) (hL : Lf < 100) : ab_C false l D ca y_MO_leaf b_MO_leaf 6 (some FieldType.int) 1 ab_nQ u [ab_O 17 0, ab_I (nI p1), ab_I (nI q)] (fun u' v => (gP [6, 102] u u' ∧ u'.1 17 0 6 = nI (Lf + 1) ∧ ∀ x, x ≠ p1 → u'.1 18 2 x = u.1 18 2 x) ∧ ∃ x : Int32, ((x < 0 ∧ lfA T t k q = none) ∨ ∃ a q', x = nI q' ∧ lfA T t k q = some (a, q') ∧ q < q' ∧ q' ≤ t ∧ a ≤ 999 ∧ u'.1 18 2 p1 = nI a) ∧ v = some (ab_I x)) := by
  refine ab_C.of (by decide) (Nat.le_of_ble_eq_true rfl) ?_
  intro p e s m args below meth c ad X hZ hr0 hlk
  have P0 : gP [6, 102] u u := gP.rf h
  have fl : ∀ (u1 : ab_S) (y : Nat), gP [6, 102] u u1 → u1.1 17 0 6 = nI (Lf + 1) → (∀ x, x ≠ p1 → u1.1 18 2 x = u.1 18 2 x) → y ≤ 1000 → lfA T t k q = none → ((fun u' v => (gP [6, 102] u u' ∧ u'.1 17 0 6 = nI (Lf + 1) ∧ ∀ x, x ≠ p1 → u'.1 18 2 x = u.1 18 2 x) ∧ ∃ x : Int32, ((x < 0 ∧ lfA T t k q = none) ∨ ∃ a q', x = nI q' ∧ lfA T t k q = some (a, q') ∧ q < q' ∧ q' ≤ t ∧ a ≤ 999 ∧ u'.1 18 2 p1 = nI a) ∧ v = some (ab_I x)) : ab_S → Option ab_V → Prop) u1 (some (ab_I (-1 - nI y))) := fun u1 y a1 a2 a3 hy hn => ⟨⟨a1, a2, a3⟩, _, Or.inl ⟨neg_sub y (by omega), hn⟩, rfl⟩
  have K186 : ∀ (u1 : ab_S) (r a : Nat), gP [6, 102] u u1 → u1.1 17 0 6 = nI (Lf + 1) → (∀ x, x ≠ p1 → u1.1 18 2 x = u.1 18 2 x) → q ≤ r → r ≤ q + 3 → a ≤ 999 → u1.1 18 2 p1 = nI a → (ta T t r = 41 → lfA T t k q = some (a, r + 1)) → (ta T t r ≠ 41 → lfA T t k q = none) → ab_J p l e (ab_rm 1 0 0) s m args below meth c (MQ below (ab_Q D ca ad ab_nQ s.heap.size (fun u' v => (gP [6, 102] u u' ∧ u'.1 17 0 6 = nI (Lf + 1) ∧ ∀ x, x ≠ p1 → u'.1 18 2 x = u.1 18 2 x) ∧ ∃ x : Int32, ((x < 0 ∧ lfA T t k q = none) ∨ ∃ a q', x = nI q' ∧ lfA T t k q = some (a, q') ∧ q < q' ∧ q' ≤ t ∧ a ≤ 999 ∧ u'.1 18 2 p1 = nI a) ∧ v = some (ab_I x))) args s 0 0 (ab_A ad ab_nQ s.heap.size)) D ca (ab_A ad ab_nQ s.heap.size) s.heap 6 0 0 ad ab_nQ u1 186 [(3, ab_I (nI r)), (0, ab_O 17 0), (1, ab_I (nI p1)), (2, ab_I (nI q))] [] := by
    intro u1 r a P1 b1 b2 hr1 hr2 ha ea f1 f2
    refine ab_aload_n X 1 d_MO_leaf_186 rfl rfl ?_
    refine ab_iload_n X 0 d_MO_leaf_187 rfl rfl ?_
    refine ab_callV (as := [ab_I (nI r)]) X (fun h => by cases h) (t_MO_ta u1 r T t ht (P1.fi (by decide) et) (fun k hk => P1.ai (by decide) (hT k hk)) P1.1 (by omega)) lk_MO_145 d_MO_leaf_188 rfl rfl (by first | assumption | decide | (show _ < 124; omega) | (show _ < 61; omega) | (show _ < 20; omega)) ⟨by first | exact Nat.le_of_ble_eq_true rfl | (simp only [ab_rm]; omega), by first | exact Nat.le_of_ble_eq_true rfl | (simp only [ab_rm]; omega)⟩ ⟨by first | exact Nat.le_of_ble_eq_true rfl | (simp only [ab_rm]; omega), by first | exact Nat.le_of_ble_eq_true rfl | (simp only [ab_rm]; omega)⟩ (Nat.le_of_ble_eq_true rfl) (fun u188 r188 h188 => ?_)
    obtain ⟨e188, rfl⟩ := h188
    subst u188
    refine ab_bipush (v := 41) X d_MO_leaf_191 (by decide) ?_
    refine ab_icmp_ne X 202 d_MO_leaf_193 rfl (fun h193 => ?_) (fun h193 => ?_)
    ·
      refine ab_iconst (v := (-1)) X d_MO_leaf_202 (by decide) ?_
      refine ab_iload_n X 0 d_MO_leaf_203 rfl rfl ?_
      refine ab_isub X d_MO_leaf_204 ?_
      exact ab_reti X hr0 hlk d_MO_leaf_205 (fl _ r P1 b1 b2 (by omega) (f2 h193))
    ·
      have hlt : r < t := ta_lt h193 (by decide)
      refine ab_iload_n X 0 d_MO_leaf_196 rfl rfl ?_
      refine ab_iconst (v := 1) X d_MO_leaf_197 (by decide) ?_
      refine ab_iadd X d_MO_leaf_198 ?_
      refine ab_top (nI_1 _) ?_
      refine ab_goto X 205 d_MO_leaf_199 rfl ?_
      exact ab_reti X hr0 hlk d_MO_leaf_205 ⟨⟨P1, b1, b2⟩, _, Or.inr ⟨a, r + 1, rfl, f1 h193, by omega, by omega, ha, ea⟩, rfl⟩
  have b7 : ∀ {u7 : ab_S}, u7 = ab_ui u 17 0 6 (nI (Lf + 1)) → u7.1 17 0 6 = nI (Lf + 1) ∧ (∀ x, u7.1 18 2 x = u.1 18 2 x) ∧ u7.1 18 1 p1 = nI k := fun z => by rw [z]; exact ⟨by simp [ab_up], fun x => by simp [ab_up], by simpa [ab_up] using ek⟩
  have k3 : k = 1 ∨ k = 2 ∨ 3 ≤ k := by omega
  rcases k3 with rfl | rfl | k3
  · have e1 := lf_1 T t q
    refine ab_aload_n X 0 d_MO_leaf_0 rfl rfl ?_
    refine ab_dup X d_MO_leaf_1 rfl ?_
    refine ab_gI X fl_MO_30 d_MO_leaf_2 (by first | assumption | decide | (show _ < 124; omega) | (show _ < 61; omega) | (show _ < 20; omega)) (eL) ?_
    refine ab_iconst (v := 1) X d_MO_leaf_5 (by decide) ?_
    refine ab_iadd X d_MO_leaf_6 ?_
    refine ab_top (nI_1 _) ?_
    refine ab_putI X fp_MO_30 d_MO_leaf_7 (by first | assumption | decide | (show _ < 124; omega) | (show _ < 61; omega) | (show _ < 20; omega)) rfl rfl ?_
    refine ab_gen (fun u7 e7 => ?_)
    have P7 : gP [6, 102] u u7 := by rw [e7]; exact P0.ui rfl (by decide)
    obtain ⟨b1, b2, b3⟩ := b7 e7
    refine ab_iload_n X 2 d_MO_leaf_10 rfl rfl ?_
    refine ab_istore_n3 X 0 1 2 d_MO_leaf_11 rfl (by decide) rfl rfl rfl rfl rfl rfl ?_
    refine ab_aload_n X 1 d_MO_leaf_12 rfl rfl ?_
    refine ab_gR X fl_MO_33 d_MO_leaf_13 (by first | assumption | decide | (show _ < 124; omega) | (show _ < 61; omega) | (show _ < 20; omega)) (P7.1.mo7) ?_
    refine ab_iload_n X 2 d_MO_leaf_16 rfl rfl ?_
    refine ab_iald X (p1) ⟨rfl, rfl⟩ d_MO_leaf_17 (by first | assumption | decide | (show _ < 124; omega) | (show _ < 61; omega) | (show _ < 20; omega)) (rfl) (hp) (ab_ln_lt _ _) ?_
    refine ab_top b3 ?_
    refine ab_iconst (v := 3) X d_MO_leaf_18 (by decide) ?_
    refine ab_icmp_ge X 101 d_MO_leaf_19 rfl (fun hb => absurd hb ((by decide))) (fun _ => ?_)
    refine ab_aload_n X 1 d_MO_leaf_22 rfl rfl ?_
    refine ab_gR X fl_MO_33 d_MO_leaf_23 (by first | assumption | decide | (show _ < 124; omega) | (show _ < 61; omega) | (show _ < 20; omega)) (P7.1.mo7) ?_
    refine ab_iload_n X 2 d_MO_leaf_26 rfl rfl ?_
    refine ab_iald X (p1) ⟨rfl, rfl⟩ d_MO_leaf_27 (by first | assumption | decide | (show _ < 124; omega) | (show _ < 61; omega) | (show _ < 20; omega)) (rfl) (hp) (ab_ln_lt _ _) ?_
    refine ab_top b3 ?_
    refine ab_iconst (v := 1) X d_MO_leaf_28 (by decide) ?_
    refine ab_icmp_ne X 37 d_MO_leaf_29 rfl (fun hb => absurd (rfl) hb) (fun _ => ?_)
    refine ab_bipush (v := 65) X d_MO_leaf_32 (by decide) ?_
    refine ab_goto X 39 d_MO_leaf_34 rfl ?_
    refine ab_istore4 X 0 1 2 3 d_MO_leaf_39 (by decide) rfl rfl rfl rfl rfl rfl rfl rfl ?_
    refine ab_aload_n X 2 d_MO_leaf_41 rfl rfl ?_
    refine ab_iload_n X 4 d_MO_leaf_42 rfl rfl ?_
    refine ab_callV (as := [ab_I (nI q)]) X (fun h => by cases h) (t_MO_ta u7 q T t ht (P7.fi (by decide) et) (fun k hk => P7.ai (by decide) (hT k hk)) P7.1 (by omega)) lk_MO_145 d_MO_leaf_43 rfl rfl (by first | assumption | decide | (show _ < 124; omega) | (show _ < 61; omega) | (show _ < 20; omega)) ⟨by first | exact Nat.le_of_ble_eq_true rfl | (simp only [ab_rm]; omega), by first | exact Nat.le_of_ble_eq_true rfl | (simp only [ab_rm]; omega)⟩ ⟨by first | exact Nat.le_of_ble_eq_true rfl | (simp only [ab_rm]; omega), by first | exact Nat.le_of_ble_eq_true rfl | (simp only [ab_rm]; omega)⟩ (Nat.le_of_ble_eq_true rfl) (fun u43 r43 h43 => ?_)
    obtain ⟨e43, rfl⟩ := h43
    subst u43
    refine ab_istore5 X 0 1 2 3 4 d_MO_leaf_46 (by decide) rfl rfl rfl rfl rfl rfl rfl rfl rfl rfl ?_
    refine ab_iload X 0 d_MO_leaf_48 rfl ?_
    refine ab_iload X 1 d_MO_leaf_50 rfl ?_
    refine ab_icmp_lt X 80 d_MO_leaf_52 rfl (fun h52 => ?_) (fun h52 => ?_)
    ·
      have hN : lfA T t 1 q = none := e1.trans (if_pos (Or.inl h52))
      refine ab_iconst (v := (-1)) X d_MO_leaf_80 (by decide) ?_
      refine ab_iload_n X 5 d_MO_leaf_81 rfl rfl ?_
      refine ab_isub X d_MO_leaf_82 ?_
      exact ab_reti X hr0 hlk d_MO_leaf_83 (fl _ q P7 b1 (fun x _ => b2 x) (by omega) hN)
    ·
      refine ab_iload X 0 d_MO_leaf_55 rfl ?_
      refine ab_iload X 1 d_MO_leaf_57 rfl ?_
      refine ab_aload_n X 3 d_MO_leaf_59 rfl rfl ?_
      refine ab_gR X fl_MO_33 d_MO_leaf_60 (by first | assumption | decide | (show _ < 124; omega) | (show _ < 61; omega) | (show _ < 20; omega)) (P7.1.mo7) ?_
      refine ab_iload_n X 4 d_MO_leaf_63 rfl rfl ?_
      refine ab_iald X (p1) ⟨rfl, rfl⟩ d_MO_leaf_64 (by first | assumption | decide | (show _ < 124; omega) | (show _ < 61; omega) | (show _ < 20; omega)) (rfl) (hp) (ab_ln_lt _ _) ?_
      refine ab_top b3 ?_
      refine ab_iconst (v := 1) X d_MO_leaf_65 (by decide) ?_
      refine ab_icmp_ne X 74 d_MO_leaf_66 rfl (fun hb => absurd (rfl) hb) (fun _ => ?_)
      refine ab_bipush (v := 7) X d_MO_leaf_69 (by decide) ?_
      refine ab_goto X 76 d_MO_leaf_71 rfl ?_
      refine ab_iadd X d_MO_leaf_76 ?_
      refine ab_icmp_le X 84 d_MO_leaf_77 rfl (fun h77 => ?_) (fun h77 => ?_)
      ·
        have hd := dgv_of (lo := 65) (hi := 72) (by decide) (by decide) h52 h77
        refine ab_aload_n X 3 d_MO_leaf_84 rfl rfl ?_
        refine ab_gR X fl_MO_36 d_MO_leaf_85 (by first | assumption | decide | (show _ < 124; omega) | (show _ < 61; omega) | (show _ < 20; omega)) (P7.1.mo8) ?_
        refine ab_iload_n X 4 d_MO_leaf_88 rfl rfl ?_
        refine ab_iload X 0 d_MO_leaf_89 rfl ?_
        refine ab_iload X 1 d_MO_leaf_91 rfl ?_
        refine ab_isub X d_MO_leaf_93 ?_
        refine ab_top hd.2 ?_
        refine ab_iast X (p1) ⟨rfl, rfl⟩ d_MO_leaf_94 (by first | assumption | decide | (show _ < 124; omega) | (show _ < 61; omega) | (show _ < 20; omega)) (rfl) (hp) (ab_ln_lt _ _) ?_
        refine ab_gen (fun u94 e94 => ?_)
        have P94 : gP [6, 102] u u94 := by rw [e94]; exact P7.ui rfl (by decide)
        refine ab_iinc5 X 2 0 1 3 4 5 d_MO_leaf_95 rfl (by decide) rfl rfl rfl rfl rfl rfl rfl rfl rfl rfl ?_
        refine ab_goto X 186 d_MO_leaf_98 rfl ?_
        refine ab_lv (List.forall_mem_cons.mpr ⟨List.mem_of_getElem? (i := 0) rfl, List.forall_mem_cons.mpr ⟨List.mem_of_getElem? (i := 3) rfl, List.forall_mem_cons.mpr ⟨List.mem_of_getElem? (i := 4) rfl, List.forall_mem_cons.mpr ⟨List.mem_of_getElem? (i := 5) rfl, fun _ h => absurd h List.not_mem_nil⟩⟩⟩⟩) ?_
        rw [show nI q + Int32.ofInt 1 = nI (q + 1) from nI_1 q]
        exact K186 _ (q + 1) (dgv 65 (ta T t q)) P94 (by rw [e94]; simpa [ab_up] using b1) (fun x hx => by rw [e94]; simpa [ab_up, hx] using b2 x) (by omega) (by omega) (by omega) (by rw [e94]; simp [ab_up]) (fun z => e1.trans (if_neg (fun y => y.elim h52 (fun x => x.elim (fun w => Int32.not_lt.mpr h77 w) (fun w => w z))))) (fun z => e1.trans (if_pos (Or.inr (Or.inr z))))
      ·
        have hN : lfA T t 1 q = none := e1.trans (if_pos (Or.inr (Or.inl (Int32.not_le.mp h77))))
        refine ab_iconst (v := (-1)) X d_MO_leaf_80 (by decide) ?_
        refine ab_iload_n X 5 d_MO_leaf_81 rfl rfl ?_
        refine ab_isub X d_MO_leaf_82 ?_
        exact ab_reti X hr0 hlk d_MO_leaf_83 (fl _ q P7 b1 (fun x _ => b2 x) (by omega) hN)
  · have e1 := lf_2 T t q
    refine ab_aload_n X 0 d_MO_leaf_0 rfl rfl ?_
    refine ab_dup X d_MO_leaf_1 rfl ?_
    refine ab_gI X fl_MO_30 d_MO_leaf_2 (by first | assumption | decide | (show _ < 124; omega) | (show _ < 61; omega) | (show _ < 20; omega)) (eL) ?_
    refine ab_iconst (v := 1) X d_MO_leaf_5 (by decide) ?_
    refine ab_iadd X d_MO_leaf_6 ?_
    refine ab_top (nI_1 _) ?_
    refine ab_putI X fp_MO_30 d_MO_leaf_7 (by first | assumption | decide | (show _ < 124; omega) | (show _ < 61; omega) | (show _ < 20; omega)) rfl rfl ?_
    refine ab_gen (fun u7 e7 => ?_)
    have P7 : gP [6, 102] u u7 := by rw [e7]; exact P0.ui rfl (by decide)
    obtain ⟨b1, b2, b3⟩ := b7 e7
    refine ab_iload_n X 2 d_MO_leaf_10 rfl rfl ?_
    refine ab_istore_n3 X 0 1 2 d_MO_leaf_11 rfl (by decide) rfl rfl rfl rfl rfl rfl ?_
    refine ab_aload_n X 1 d_MO_leaf_12 rfl rfl ?_
    refine ab_gR X fl_MO_33 d_MO_leaf_13 (by first | assumption | decide | (show _ < 124; omega) | (show _ < 61; omega) | (show _ < 20; omega)) (P7.1.mo7) ?_
    refine ab_iload_n X 2 d_MO_leaf_16 rfl rfl ?_
    refine ab_iald X (p1) ⟨rfl, rfl⟩ d_MO_leaf_17 (by first | assumption | decide | (show _ < 124; omega) | (show _ < 61; omega) | (show _ < 20; omega)) (rfl) (hp) (ab_ln_lt _ _) ?_
    refine ab_top b3 ?_
    refine ab_iconst (v := 3) X d_MO_leaf_18 (by decide) ?_
    refine ab_icmp_ge X 101 d_MO_leaf_19 rfl (fun hb => absurd hb ((by decide))) (fun _ => ?_)
    refine ab_aload_n X 1 d_MO_leaf_22 rfl rfl ?_
    refine ab_gR X fl_MO_33 d_MO_leaf_23 (by first | assumption | decide | (show _ < 124; omega) | (show _ < 61; omega) | (show _ < 20; omega)) (P7.1.mo7) ?_
    refine ab_iload_n X 2 d_MO_leaf_26 rfl rfl ?_
    refine ab_iald X (p1) ⟨rfl, rfl⟩ d_MO_leaf_27 (by first | assumption | decide | (show _ < 124; omega) | (show _ < 61; omega) | (show _ < 20; omega)) (rfl) (hp) (ab_ln_lt _ _) ?_
    refine ab_top b3 ?_
    refine ab_iconst (v := 1) X d_MO_leaf_28 (by decide) ?_
    refine ab_icmp_ne X 37 d_MO_leaf_29 rfl (fun _ => ?_) (fun hb => absurd hb ((by decide)))
    refine ab_bipush (v := 48) X d_MO_leaf_37 (by decide) ?_
    refine ab_istore4 X 0 1 2 3 d_MO_leaf_39 (by decide) rfl rfl rfl rfl rfl rfl rfl rfl ?_
    refine ab_aload_n X 2 d_MO_leaf_41 rfl rfl ?_
    refine ab_iload_n X 4 d_MO_leaf_42 rfl rfl ?_
    refine ab_callV (as := [ab_I (nI q)]) X (fun h => by cases h) (t_MO_ta u7 q T t ht (P7.fi (by decide) et) (fun k hk => P7.ai (by decide) (hT k hk)) P7.1 (by omega)) lk_MO_145 d_MO_leaf_43 rfl rfl (by first | assumption | decide | (show _ < 124; omega) | (show _ < 61; omega) | (show _ < 20; omega)) ⟨by first | exact Nat.le_of_ble_eq_true rfl | (simp only [ab_rm]; omega), by first | exact Nat.le_of_ble_eq_true rfl | (simp only [ab_rm]; omega)⟩ ⟨by first | exact Nat.le_of_ble_eq_true rfl | (simp only [ab_rm]; omega), by first | exact Nat.le_of_ble_eq_true rfl | (simp only [ab_rm]; omega)⟩ (Nat.le_of_ble_eq_true rfl) (fun u43 r43 h43 => ?_)
    obtain ⟨e43, rfl⟩ := h43
    subst u43
    refine ab_istore5 X 0 1 2 3 4 d_MO_leaf_46 (by decide) rfl rfl rfl rfl rfl rfl rfl rfl rfl rfl ?_
    refine ab_iload X 0 d_MO_leaf_48 rfl ?_
    refine ab_iload X 1 d_MO_leaf_50 rfl ?_
    refine ab_icmp_lt X 80 d_MO_leaf_52 rfl (fun h52 => ?_) (fun h52 => ?_)
    ·
      have hN : lfA T t 2 q = none := e1.trans (if_pos (Or.inl h52))
      refine ab_iconst (v := (-1)) X d_MO_leaf_80 (by decide) ?_
      refine ab_iload_n X 5 d_MO_leaf_81 rfl rfl ?_
      refine ab_isub X d_MO_leaf_82 ?_
      exact ab_reti X hr0 hlk d_MO_leaf_83 (fl _ q P7 b1 (fun x _ => b2 x) (by omega) hN)
    ·
      refine ab_iload X 0 d_MO_leaf_55 rfl ?_
      refine ab_iload X 1 d_MO_leaf_57 rfl ?_
      refine ab_aload_n X 3 d_MO_leaf_59 rfl rfl ?_
      refine ab_gR X fl_MO_33 d_MO_leaf_60 (by first | assumption | decide | (show _ < 124; omega) | (show _ < 61; omega) | (show _ < 20; omega)) (P7.1.mo7) ?_
      refine ab_iload_n X 4 d_MO_leaf_63 rfl rfl ?_
      refine ab_iald X (p1) ⟨rfl, rfl⟩ d_MO_leaf_64 (by first | assumption | decide | (show _ < 124; omega) | (show _ < 61; omega) | (show _ < 20; omega)) (rfl) (hp) (ab_ln_lt _ _) ?_
      refine ab_top b3 ?_
      refine ab_iconst (v := 1) X d_MO_leaf_65 (by decide) ?_
      refine ab_icmp_ne X 74 d_MO_leaf_66 rfl (fun _ => ?_) (fun hb => absurd hb ((by decide)))
      refine ab_bipush (v := 9) X d_MO_leaf_74 (by decide) ?_
      refine ab_iadd X d_MO_leaf_76 ?_
      refine ab_icmp_le X 84 d_MO_leaf_77 rfl (fun h77 => ?_) (fun h77 => ?_)
      ·
        have hd := dgv_of (lo := 48) (hi := 57) (by decide) (by decide) h52 h77
        refine ab_aload_n X 3 d_MO_leaf_84 rfl rfl ?_
        refine ab_gR X fl_MO_36 d_MO_leaf_85 (by first | assumption | decide | (show _ < 124; omega) | (show _ < 61; omega) | (show _ < 20; omega)) (P7.1.mo8) ?_
        refine ab_iload_n X 4 d_MO_leaf_88 rfl rfl ?_
        refine ab_iload X 0 d_MO_leaf_89 rfl ?_
        refine ab_iload X 1 d_MO_leaf_91 rfl ?_
        refine ab_isub X d_MO_leaf_93 ?_
        refine ab_top hd.2 ?_
        refine ab_iast X (p1) ⟨rfl, rfl⟩ d_MO_leaf_94 (by first | assumption | decide | (show _ < 124; omega) | (show _ < 61; omega) | (show _ < 20; omega)) (rfl) (hp) (ab_ln_lt _ _) ?_
        refine ab_gen (fun u94 e94 => ?_)
        have P94 : gP [6, 102] u u94 := by rw [e94]; exact P7.ui rfl (by decide)
        refine ab_iinc5 X 2 0 1 3 4 5 d_MO_leaf_95 rfl (by decide) rfl rfl rfl rfl rfl rfl rfl rfl rfl rfl ?_
        refine ab_goto X 186 d_MO_leaf_98 rfl ?_
        refine ab_lv (List.forall_mem_cons.mpr ⟨List.mem_of_getElem? (i := 0) rfl, List.forall_mem_cons.mpr ⟨List.mem_of_getElem? (i := 3) rfl, List.forall_mem_cons.mpr ⟨List.mem_of_getElem? (i := 4) rfl, List.forall_mem_cons.mpr ⟨List.mem_of_getElem? (i := 5) rfl, fun _ h => absurd h List.not_mem_nil⟩⟩⟩⟩) ?_
        rw [show nI q + Int32.ofInt 1 = nI (q + 1) from nI_1 q]
        exact K186 _ (q + 1) (dgv 48 (ta T t q)) P94 (by rw [e94]; simpa [ab_up] using b1) (fun x hx => by rw [e94]; simpa [ab_up, hx] using b2 x) (by omega) (by omega) (by omega) (by rw [e94]; simp [ab_up]) (fun z => e1.trans (if_neg (fun y => y.elim h52 (fun x => x.elim (fun w => Int32.not_lt.mpr h77 w) (fun w => w z))))) (fun z => e1.trans (if_pos (Or.inr (Or.inr z))))
      ·
        have hN : lfA T t 2 q = none := e1.trans (if_pos (Or.inr (Or.inl (Int32.not_le.mp h77))))
        refine ab_iconst (v := (-1)) X d_MO_leaf_80 (by decide) ?_
        refine ab_iload_n X 5 d_MO_leaf_81 rfl rfl ?_
        refine ab_isub X d_MO_leaf_82 ?_
        exact ab_reti X hr0 hlk d_MO_leaf_83 (fl _ q P7 b1 (fun x _ => b2 x) (by omega) hN)
  · have e1 := lf_3 (k := k) T t q k3
    have K169 : ∀ (i nn : Nat) (u1 : ab_S), i ≤ 3 → nn ≤ 999 → gP [6, 102] u u1 → u1.1 17 0 6 = nI (Lf + 1) → (∀ x, u1.1 18 2 x = u.1 18 2 x) → (if nn = 0 ∨ ta T t (q + i) ≠ 41 then none else some (nn, q + i + 1)) = lfA T t k q → ab_J p l e (ab_rm 1 0 0) s m args below meth c (MQ below (ab_Q D ca ad ab_nQ s.heap.size (fun u' v => (gP [6, 102] u u' ∧ u'.1 17 0 6 = nI (Lf + 1) ∧ ∀ x, x ≠ p1 → u'.1 18 2 x = u.1 18 2 x) ∧ ∃ x : Int32, ((x < 0 ∧ lfA T t k q = none) ∨ ∃ a q', x = nI q' ∧ lfA T t k q = some (a, q') ∧ q < q' ∧ q' ≤ t ∧ a ≤ 999 ∧ u'.1 18 2 p1 = nI a) ∧ v = some (ab_I x))) args s 0 0 (ab_A ad ab_nQ s.heap.size)) D ca (ab_A ad ab_nQ s.heap.size) s.heap 6 0 0 ad ab_nQ u1 169 [(4, ab_I (nI nn)), (3, ab_I (nI (q + i))), (0, ab_O 17 0), (1, ab_I (nI p1)), (2, ab_I (nI q))] [] := by
      intro i nn u1 hi hn P1 b1 b2 hE
      refine ab_iload X 0 d_MO_leaf_169 rfl ?_
      refine ab_if_ne X 178 d_MO_leaf_171 rfl (fun h171 => ?_) (fun h171 => ?_)
      ·
        have n0 : nn ≠ 0 := fun z => h171 (by rw [z]; rfl)
        refine ab_aload_n X 2 d_MO_leaf_178 rfl rfl ?_
        refine ab_gR X fl_MO_36 d_MO_leaf_179 (by first | assumption | decide | (show _ < 124; omega) | (show _ < 61; omega) | (show _ < 20; omega)) (P1.1.mo8) ?_
        refine ab_iload_n X 3 d_MO_leaf_182 rfl rfl ?_
        refine ab_iload X 0 d_MO_leaf_183 rfl ?_
        refine ab_iast X (p1) ⟨rfl, rfl⟩ d_MO_leaf_185 (by first | assumption | decide | (show _ < 124; omega) | (show _ < 61; omega) | (show _ < 20; omega)) (rfl) (show p1 < 40 by omega) (ab_ln_lt _ _) ?_
        refine ab_gen (fun u185 e185 => ?_)
        have P185 : gP [6, 102] u u185 := by rw [e185]; exact P1.ui rfl (by decide)
        refine ab_lv (List.forall_mem_cons.mpr ⟨List.mem_of_getElem? (i := 1) rfl, List.forall_mem_cons.mpr ⟨List.mem_of_getElem? (i := 2) rfl, List.forall_mem_cons.mpr ⟨List.mem_of_getElem? (i := 3) rfl, List.forall_mem_cons.mpr ⟨List.mem_of_getElem? (i := 4) rfl, fun _ h => absurd h List.not_mem_nil⟩⟩⟩⟩) ?_
        exact K186 _ (q + i) nn P185 (by rw [e185]; simpa [ab_up] using b1) (fun x hx => by rw [e185]; simpa [ab_up, hx] using b2 x) (by omega) (by omega) hn (by rw [e185]; simp [ab_up]) (fun z => by rw [← hE, if_neg (fun y => y.elim n0 (fun w => w z))]) (fun z => by rw [← hE, if_pos (Or.inr z)])
      ·
        have n0 : nn = 0 := (nI_eq (b := 0) (by omega) (by omega)).mp h171
        refine ab_iconst (v := (-1)) X d_MO_leaf_174 (by decide) ?_
        refine ab_iload_n X 1 d_MO_leaf_175 rfl rfl ?_
        refine ab_isub X d_MO_leaf_176 ?_
        exact ab_reti X hr0 hlk d_MO_leaf_177 (fl _ (q + i) P1 b1 (fun x _ => b2 x) (by omega) (by rw [← hE, if_pos (Or.inl n0)]))
    have tm : ∀ (k2 i nn : Nat) (u1 : ab_S), k2 + i = 3 → nn + 1 ≤ 10 ^ i → gP [6, 102] u u1 → u1.1 17 0 6 = nI (Lf + 1) → (∀ x, u1.1 18 2 x = u.1 18 2 x) → glA T t k2 nn (q + i) = lfA T t k q → ab_J p l e (ab_rm 1 0 0) s m args below meth c (MQ below (ab_Q D ca ad ab_nQ s.heap.size (fun u' v => (gP [6, 102] u u' ∧ u'.1 17 0 6 = nI (Lf + 1) ∧ ∀ x, x ≠ p1 → u'.1 18 2 x = u.1 18 2 x) ∧ ∃ x : Int32, ((x < 0 ∧ lfA T t k q = none) ∨ ∃ a q', x = nI q' ∧ lfA T t k q = some (a, q') ∧ q < q' ∧ q' ≤ t ∧ a ≤ 999 ∧ u'.1 18 2 p1 = nI a) ∧ v = some (ab_I x))) args s 0 0 (ab_A ad ab_nQ s.heap.size)) D ca (ab_A ad ab_nQ s.heap.size) s.heap 6 0 0 ad ab_nQ u1 104 [(4, ab_I (nI nn)), (3, ab_I (nI (q + i))), (0, ab_O 17 0), (1, ab_I (nI p1)), (2, ab_I (nI q))] [] := by
      intro k2
      induction k2 with
      | zero =>
        intro i nn u1 hi hn P1 b1 b2 hE
        have h3 : i = 3 := by omega
        subst h3
        refine ab_iload_n X 1 d_MO_leaf_104 rfl rfl ?_
        refine ab_iload_n X 4 d_MO_leaf_105 rfl rfl ?_
        refine ab_iconst (v := 3) X d_MO_leaf_106 (by decide) ?_
        refine ab_iadd X d_MO_leaf_107 ?_
        refine ab_top (nI_add q 3) ?_
        refine ab_icmp_ge X 169 d_MO_leaf_108 rfl (fun _ => ?_) (fun hb => absurd ((nI_le (by omega) (by omega))) hb)
        exact K169 3 nn _ (by decide) (by omega) P1 b1 b2 hE
      | succ k2 ih =>
        intro i nn u1 hi hn P1 b1 b2 hE
        have i2 : i = 0 ∨ i = 1 ∨ i = 2 := by omega
        have hnn : nn ≤ 99 := by rcases i2 with rfl | rfl | rfl <;> omega
        have hpw : 10 ^ (i + 1) = 10 * 10 ^ i := Nat.pow_succ'
        have et1 := P1.fi (s := 2) (by decide) et
        have hT1 : ∀ k, k < t → u1.1 18 0 k = T k := fun k hk => P1.ai (by decide) (hT k hk)
        refine ab_iload_n X 1 d_MO_leaf_104 rfl rfl ?_
        refine ab_iload_n X 4 d_MO_leaf_105 rfl rfl ?_
        refine ab_iconst (v := 3) X d_MO_leaf_106 (by decide) ?_
        refine ab_iadd X d_MO_leaf_107 ?_
        refine ab_top (nI_add q 3) ?_
        refine ab_icmp_ge X 169 d_MO_leaf_108 rfl (fun hb => absurd hb ((nI_ge (by omega) (by omega)))) (fun _ => ?_)
        refine ab_aload_n X 2 d_MO_leaf_111 rfl rfl ?_
        refine ab_iload_n X 1 d_MO_leaf_112 rfl rfl ?_
        refine ab_callV (as := [ab_I (nI (q + i))]) X (fun h => by cases h) (t_MO_ta u1 (q + i) T t ht et1 hT1 P1.1 (by omega)) lk_MO_145 d_MO_leaf_113 rfl rfl (by first | assumption | decide | (show _ < 124; omega) | (show _ < 61; omega) | (show _ < 20; omega)) ⟨by first | exact Nat.le_of_ble_eq_true rfl | (simp only [ab_rm]; omega), by first | exact Nat.le_of_ble_eq_true rfl | (simp only [ab_rm]; omega)⟩ ⟨by first | exact Nat.le_of_ble_eq_true rfl | (simp only [ab_rm]; omega), by first | exact Nat.le_of_ble_eq_true rfl | (simp only [ab_rm]; omega)⟩ (Nat.le_of_ble_eq_true rfl) (fun u113 r113 h113 => ?_)
        obtain ⟨e113, rfl⟩ := h113
        subst u113
        refine ab_bipush (v := 48) X d_MO_leaf_116 (by decide) ?_
        refine ab_icmp_lt X 169 d_MO_leaf_118 rfl (fun h118 => ?_) (fun h118 => ?_)
        ·
          have nd : ta T t (q + i) < 48 ∨ 57 < ta T t (q + i) := Or.inl h118
          exact K169 i nn _ (by omega) (by omega) P1 b1 b2 (by rw [← hE]; exact (gl_s nd).symm)
        ·
          refine ab_aload_n X 2 d_MO_leaf_121 rfl rfl ?_
          refine ab_iload_n X 1 d_MO_leaf_122 rfl rfl ?_
          refine ab_callV (as := [ab_I (nI (q + i))]) X (fun h => by cases h) (t_MO_ta u1 (q + i) T t ht et1 hT1 P1.1 (by omega)) lk_MO_145 d_MO_leaf_123 rfl rfl (by first | assumption | decide | (show _ < 124; omega) | (show _ < 61; omega) | (show _ < 20; omega)) ⟨by first | exact Nat.le_of_ble_eq_true rfl | (simp only [ab_rm]; omega), by first | exact Nat.le_of_ble_eq_true rfl | (simp only [ab_rm]; omega)⟩ ⟨by first | exact Nat.le_of_ble_eq_true rfl | (simp only [ab_rm]; omega), by first | exact Nat.le_of_ble_eq_true rfl | (simp only [ab_rm]; omega)⟩ (Nat.le_of_ble_eq_true rfl) (fun u123 r123 h123 => ?_)
          obtain ⟨e123, rfl⟩ := h123
          subst u123
          refine ab_bipush (v := 57) X d_MO_leaf_126 (by decide) ?_
          refine ab_icmp_gt X 169 d_MO_leaf_128 rfl (fun h128 => ?_) (fun h128 => ?_)
          ·
            have nd : ta T t (q + i) < 48 ∨ 57 < ta T t (q + i) := Or.inr h128
            exact K169 i nn _ (by omega) (by omega) P1 b1 b2 (by rw [← hE]; exact (gl_s nd).symm)
          ·
            obtain ⟨hd, ed⟩ := dgv_of (lo := 48) (hi := 57) (by decide) (by decide) h118 (Int32.not_lt.mp h128)
            have nd : ¬ (ta T t (q + i) < 48 ∨ 57 < ta T t (q + i)) := fun z => z.elim h118 h128
            refine ab_bipush (v := 10) X d_MO_leaf_131 (by decide) ?_
            refine ab_iload X 0 d_MO_leaf_133 rfl ?_
            refine ab_imul X d_MO_leaf_135 ?_
            refine ab_top (show _ = nI (10 * nn) from pk_mul 10 nn) ?_
            refine ab_aload_n X 2 d_MO_leaf_136 rfl rfl ?_
            refine ab_iload_n X 1 d_MO_leaf_137 rfl rfl ?_
            refine ab_callV (as := [ab_I (nI (q + i))]) X (fun h => by cases h) (t_MO_ta u1 (q + i) T t ht et1 hT1 P1.1 (by omega)) lk_MO_145 d_MO_leaf_138 rfl rfl (by first | assumption | decide | (show _ < 124; omega) | (show _ < 61; omega) | (show _ < 20; omega)) ⟨by first | exact Nat.le_of_ble_eq_true rfl | (simp only [ab_rm]; omega), by first | exact Nat.le_of_ble_eq_true rfl | (simp only [ab_rm]; omega)⟩ ⟨by first | exact Nat.le_of_ble_eq_true rfl | (simp only [ab_rm]; omega), by first | exact Nat.le_of_ble_eq_true rfl | (simp only [ab_rm]; omega)⟩ (Nat.le_of_ble_eq_true rfl) (fun u138 r138 h138 => ?_)
            obtain ⟨e138, rfl⟩ := h138
            subst u138
            refine ab_iadd X d_MO_leaf_141 ?_
            refine ab_bipush (v := 48) X d_MO_leaf_142 (by decide) ?_
            refine ab_isub X d_MO_leaf_144 ?_
            refine ab_top (show _ = nI (10 * nn + dgv 48 (ta T t (q + i))) from by rw [← nI_add, ← ed, Int32.sub_eq_add_neg, Int32.sub_eq_add_neg, Int32.add_assoc]; rfl) ?_
            refine ab_istore4 X 1 2 3 4 d_MO_leaf_145 (by decide) rfl rfl rfl rfl rfl rfl rfl rfl ?_
            refine ab_iload X 0 d_MO_leaf_147 rfl ?_
            refine ab_if_ne X 163 d_MO_leaf_149 rfl (fun h149 => ?_) (fun h149 => ?_)
            ·
              have nz : ¬ (10 * nn + dgv 48 (ta T t (q + i)) = 0 ∧ k2 = 0) := fun z => h149 (by rw [z.1]; rfl)
              refine ab_iinc4 X 1 0 2 3 4 d_MO_leaf_163 rfl (by decide) rfl rfl rfl rfl rfl rfl rfl rfl ?_
              refine ab_goto X 104 d_MO_leaf_166 rfl ?_
              refine ab_lv (List.forall_mem_cons.mpr ⟨List.mem_of_getElem? (i := 1) rfl, List.forall_mem_cons.mpr ⟨List.mem_of_getElem? (i := 0) rfl, List.forall_mem_cons.mpr ⟨List.mem_of_getElem? (i := 2) rfl, List.forall_mem_cons.mpr ⟨List.mem_of_getElem? (i := 3) rfl, List.forall_mem_cons.mpr ⟨List.mem_of_getElem? (i := 4) rfl, fun _ h => absurd h List.not_mem_nil⟩⟩⟩⟩⟩) ?_
              rw [show nI (q + i) + Int32.ofInt 1 = nI (q + (i + 1)) from nI_1 (q + i)]
              exact ih (i + 1) (10 * nn + dgv 48 (ta T t (q + i))) _ (by omega) (by rw [hpw]; omega) P1 b1 b2 (by rw [← hE]; exact (gl_d nd nz).symm)
            ·
              have n0 : 10 * nn + dgv 48 (ta T t (q + i)) = 0 := (nI_eq (b := 0) (by omega) (by omega)).mp h149
              refine ab_iload_n X 1 d_MO_leaf_152 rfl rfl ?_
              refine ab_iload_n X 4 d_MO_leaf_153 rfl rfl ?_
              refine ab_iconst (v := 2) X d_MO_leaf_154 (by decide) ?_
              refine ab_iadd X d_MO_leaf_155 ?_
              refine ab_top (nI_add q 2) ?_
              refine ab_icmp_ne X 163 d_MO_leaf_156 rfl (fun h156 => ?_) (fun h156 => ?_)
              ·
                have nz : ¬ (10 * nn + dgv 48 (ta T t (q + i)) = 0 ∧ k2 = 0) := fun z => h156 (by rw [show i = 2 by omega])
                refine ab_iinc4 X 1 0 2 3 4 d_MO_leaf_163 rfl (by decide) rfl rfl rfl rfl rfl rfl rfl rfl ?_
                refine ab_goto X 104 d_MO_leaf_166 rfl ?_
                refine ab_lv (List.forall_mem_cons.mpr ⟨List.mem_of_getElem? (i := 1) rfl, List.forall_mem_cons.mpr ⟨List.mem_of_getElem? (i := 0) rfl, List.forall_mem_cons.mpr ⟨List.mem_of_getElem? (i := 2) rfl, List.forall_mem_cons.mpr ⟨List.mem_of_getElem? (i := 3) rfl, List.forall_mem_cons.mpr ⟨List.mem_of_getElem? (i := 4) rfl, fun _ h => absurd h List.not_mem_nil⟩⟩⟩⟩⟩) ?_
                rw [show nI (q + i) + Int32.ofInt 1 = nI (q + (i + 1)) from nI_1 (q + i)]
                exact ih (i + 1) (10 * nn + dgv 48 (ta T t (q + i))) _ (by omega) (by rw [hpw]; omega) P1 b1 b2 (by rw [← hE]; exact (gl_d nd nz).symm)
              ·
                have i3 : q + i = q + 2 := (nI_eq (by omega) (by omega)).mp h156
                refine ab_iconst (v := (-1)) X d_MO_leaf_159 (by decide) ?_
                refine ab_iload_n X 1 d_MO_leaf_160 rfl rfl ?_
                refine ab_isub X d_MO_leaf_161 ?_
                exact ab_reti X hr0 hlk d_MO_leaf_162 (fl _ (q + i) P1 b1 (fun x _ => b2 x) (by omega) (by rw [← hE]; exact gl_z nd ⟨n0, by omega⟩))
    refine ab_aload_n X 0 d_MO_leaf_0 rfl rfl ?_
    refine ab_dup X d_MO_leaf_1 rfl ?_
    refine ab_gI X fl_MO_30 d_MO_leaf_2 (by first | assumption | decide | (show _ < 124; omega) | (show _ < 61; omega) | (show _ < 20; omega)) (eL) ?_
    refine ab_iconst (v := 1) X d_MO_leaf_5 (by decide) ?_
    refine ab_iadd X d_MO_leaf_6 ?_
    refine ab_top (nI_1 _) ?_
    refine ab_putI X fp_MO_30 d_MO_leaf_7 (by first | assumption | decide | (show _ < 124; omega) | (show _ < 61; omega) | (show _ < 20; omega)) rfl rfl ?_
    refine ab_gen (fun u7 e7 => ?_)
    have P7 : gP [6, 102] u u7 := by rw [e7]; exact P0.ui rfl (by decide)
    obtain ⟨b1, b2, b3⟩ := b7 e7
    refine ab_iload_n X 2 d_MO_leaf_10 rfl rfl ?_
    refine ab_istore_n3 X 0 1 2 d_MO_leaf_11 rfl (by decide) rfl rfl rfl rfl rfl rfl ?_
    refine ab_aload_n X 1 d_MO_leaf_12 rfl rfl ?_
    refine ab_gR X fl_MO_33 d_MO_leaf_13 (by first | assumption | decide | (show _ < 124; omega) | (show _ < 61; omega) | (show _ < 20; omega)) (P7.1.mo7) ?_
    refine ab_iload_n X 2 d_MO_leaf_16 rfl rfl ?_
    refine ab_iald X (p1) ⟨rfl, rfl⟩ d_MO_leaf_17 (by first | assumption | decide | (show _ < 124; omega) | (show _ < 61; omega) | (show _ < 20; omega)) (rfl) (hp) (ab_ln_lt _ _) ?_
    refine ab_top b3 ?_
    refine ab_iconst (v := 3) X d_MO_leaf_18 (by decide) ?_
    refine ab_icmp_ge X 101 d_MO_leaf_19 rfl (fun _ => ?_) (fun hb => absurd ((nI_le (a := 3) (by omega) (by omega))) hb)
    refine ab_iconst (v := 0) X d_MO_leaf_101 (by decide) ?_
    refine ab_istore4 X 0 1 2 3 d_MO_leaf_102 (by decide) rfl rfl rfl rfl rfl rfl rfl rfl ?_
    exact tm 3 0 0 _ rfl (by decide) P7 b1 b2 e1.symm
end SaMLeafF

