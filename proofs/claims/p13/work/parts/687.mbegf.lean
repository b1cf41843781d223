/-! The reference's reader: a part begins; what it reads. -/
section SaMBeginF
variable {l : Launch} {D : va_G} {ca : Nat → ClassId}
set_option maxRecDepth 100000 in
set_option maxHeartbeats 4000000 in
theorem f_MO_begin (u : ab_S) (q : Nat) (T : Nat → Int32) (t : Nat) (ht : t ≤ 100) (et : u.1 17 0 2 = nI t) (hT : ∀ k, k < t → u.1 18 0 k = T k) (M O : Nat) (kd ar cn en cl op : Nat → Nat) (ch : Nat → Nat → Nat) (h : mR u.2.1) (I : rI t q M O kd ar cn en cl op ch u) (hO : (O = 0 ∧ M = 0) ∨ rR O kd cn op) : ab_C false l D ca y_MO_begin b_MO_begin 6 (some FieldType.int) 2 ab_nQ u [ab_O 17 0, ab_I (nI q)] (fun u' v => gP [5, 6, 39, 101, 102, 103, 104, 120] u u' ∧ ∃ x : Int32, ((x < 0 ∧ bg T t q M O kd ar cn op ch = none) ∨ ∃ (q' O' : Nat) (kd' ar' cn' en' cl' op' : Nat → Nat) (ch' : Nat → Nat → Nat), x = nI q' ∧ bg T t q M O kd ar cn op ch = some (q', M + 1, O', kd', ar', cn', op', ch') ∧ q + 3 ≤ q' ∧ rI t q' (M + 1) O' kd' ar' cn' en' cl' op' ch' u' ∧ (O' = O ∨ (O' = O + 1 ∧ rR O' kd' cn' op'))) ∧ v = some (ab_I x)) := by
  refine ab_C.of (by decide) (Nat.le_of_ble_eq_true rfl) ?_
  intro p e s m args below meth c ad X hZ hr0 hlk
  have P0 : gP [5, 6, 39, 101, 102, 103, 104, 120] u u := gP.rf h
  obtain ⟨S, R, hL, hM, hqt, h0, hA⟩ := I
  obtain ⟨eM, eL, eO, eS, eop⟩ := S
  have bad : ∀ (u1 : ab_S) (y : Nat), gP [5, 6, 39, 101, 102, 103, 104, 120] u u1 → y ≤ 1000 → bg T t q M O kd ar cn op ch = none → ((fun u' v => gP [5, 6, 39, 101, 102, 103, 104, 120] u u' ∧ ∃ x : Int32, ((x < 0 ∧ bg T t q M O kd ar cn op ch = none) ∨ ∃ (q' O' : Nat) (kd' ar' cn' en' cl' op' : Nat → Nat) (ch' : Nat → Nat → Nat), x = nI q' ∧ bg T t q M O kd ar cn op ch = some (q', M + 1, O', kd', ar', cn', op', ch') ∧ q + 3 ≤ q' ∧ rI t q' (M + 1) O' kd' ar' cn' en' cl' op' ch' u' ∧ (O' = O ∨ (O' = O + 1 ∧ rR O' kd' cn' op'))) ∧ v = some (ab_I x)) : ab_S → Option ab_V → Prop) u1 (some (ab_I (-1 - nI y))) := fun u1 y a1 hy hn => ⟨a1, _, Or.inl ⟨neg_sub y (by omega), hn⟩, rfl⟩
  have OM : O ≤ M := by
    by_cases z : O = 0
    · omega
    · have mono := rt.mono (h := R.2)
      have : ∀ j, j < O → j ≤ op j := by
        intro j
        induction j with
        | zero => intro _; exact Nat.zero_le _
        | succ j ih => intro hj; have := ih (by omega); have := mono (j + 1) j (by omega) hj; omega
      have z1 := this (O - 1) (by omega)
      have z2 := (R.2.2.1 (O - 1) (by omega)).1
      omega
  have K139 : ∀ (kk : Nat) (u1 : ab_S), kk < 7 → kA T t q = kk + 1 → q + ab_sl.getD kk 0 ≤ t → (kk + 1 < 5 → lcn kd M < 10) → gP [5, 6, 39, 101, 102, 103, 104, 120] u u1 → u1.1 17 0 5 = nI M → u1.1 17 0 6 = nI (lcn kd M) → u1.1 17 0 39 = nI O → (∀ p, p < M → u1.1 18 1 p = nI (kd p) ∧ u1.1 18 2 p = nI (ar p) ∧ u1.1 18 3 p = nI ((if 0 < O then up1 cn (op (O - 1)) (cn (op (O - 1)) + 1) else cn) p) ∧ ∀ i, i < (if 0 < O then up1 cn (op (O - 1)) (cn (op (O - 1)) + 1) else cn) p → u1.1 18 4 (4 * p + i) = nI ((if 0 < O then up2 ch (op (O - 1)) (cn (op (O - 1))) M else ch) p i)) → (∀ j, j < O → u1.1 18 20 j = nI (op j)) → ab_J p l e (ab_rm 2 0 0) s m args below meth c (MQ below (ab_Q D ca ad ab_nQ s.heap.size (fun u' v => gP [5, 6, 39, 101, 102, 103, 104, 120] u u' ∧ ∃ x : Int32, ((x < 0 ∧ bg T t q M O kd ar cn op ch = none) ∨ ∃ (q' O' : Nat) (kd' ar' cn' en' cl' op' : Nat → Nat) (ch' : Nat → Nat → Nat), x = nI q' ∧ bg T t q M O kd ar cn op ch = some (q', M + 1, O', kd', ar', cn', op', ch') ∧ q + 3 ≤ q' ∧ rI t q' (M + 1) O' kd' ar' cn' en' cl' op' ch' u' ∧ (O' = O ∨ (O' = O + 1 ∧ rR O' kd' cn' op'))) ∧ v = some (ab_I x))) args s 0 0 (ab_A ad ab_nQ s.heap.size)) D ca (ab_A ad ab_nQ s.heap.size) s.heap 6 0 0 ad ab_nQ u1 139 [(3, ab_I (nI (kk + 1))), (0, ab_O 17 0), (1, ab_I (nI q))] [] := by
    intro kk u1 hkk hkA hqk hL9 P1 b1 b2 b3 b4 b5
    have hbn : 4 ≤ kk → ¬ kk + 1 < 7 → (ta T t (q + ab_sl.getD kk 0) < 49 ∨ 52 < ta T t (q + ab_sl.getD kk 0) ∨ ta T t (q + ab_sl.getD kk 0 + 1) ≠ 44) → bg T t q M O kd ar cn op ch = none := fun h4 h7 z => by rw [bg_b hkA (by omega) hkk]; unfold bB; rw [if_neg h7, if_pos z]
    have hbs : kk + 1 = 7 → ¬ (ta T t (q + ab_sl.getD kk 0) < 49 ∨ 52 < ta T t (q + ab_sl.getD kk 0) ∨ ta T t (q + ab_sl.getD kk 0 + 1) ≠ 44) → bg T t q M O kd ar cn op ch = some (q + ab_sl.getD kk 0 + 2, M + 1, O + 1, up1 kd M (kk + 1), up1 ar M (dgv 48 (ta T t (q + ab_sl.getD kk 0))), up1 (c1f O cn op) M 0, up1 op O M, h1f O M cn op ch) := fun h7 z => by rw [bg_b hkA (by omega) hkk]; unfold bB; rw [if_neg (by omega), if_neg z, h7]
    have l3 := ab_sl3 hkk
    have l6 := ab_sl6 hkk
    have add := fun a ha => rt.add R (kk + 1) a (by omega) (by omega) ha (fun z => by rcases hO with z1 | z1; exact z1.2; exact absurd z1.1 (by omega)) (fun z => by rcases hO with z1 | z1; (exact absurd z1.1 (by omega)); exact z1.2) (up1 (if 0 < O then up1 cn (op (O - 1)) (cn (op (O - 1)) + 1) else cn) M 0) (if 0 < O then up2 ch (op (O - 1)) (cn (op (O - 1))) M else ch) rfl rfl
    have lc1 : lcn (up1 kd M (kk + 1)) (M + 1) = lcn kd M + (if kk + 1 < 5 then 1 else 0) := by
      show lcn (up1 kd M (kk + 1)) M + (if up1 kd M (kk + 1) M < 5 then 1 else 0) = _
      rw [up1_s, lcn_congr M (fun i hi => up1_n _ (by omega))]
    have hA2 : ∀ a, (kk + 1 = 7 → 1 ≤ a ∧ a ≤ 4) → ∀ p, p < M + 1 → up1 kd M (kk + 1) p = 7 → 1 ≤ up1 ar M a p ∧ up1 ar M a p ≤ 4 := fun a ha p hp hk => by
      by_cases z : p = M
      · rw [z, up1_s] at hk ⊢; exact ha hk
      · rw [up1_n _ z] at hk ⊢; exact hA p (by omega) hk
    -- the cells of the parts, once kind, count and argument of the new one are there
    have cells : ∀ (u2 : ab_S) (a : Nat), (∀ p, p < M → u2.1 18 1 p = u1.1 18 1 p ∧ u2.1 18 2 p = u1.1 18 2 p ∧ u2.1 18 3 p = u1.1 18 3 p) → (∀ x, u2.1 18 4 x = u1.1 18 4 x) → u2.1 18 1 M = nI (kk + 1) → u2.1 18 2 M = nI a → u2.1 18 3 M = nI 0 → ∀ p, p < M + 1 → u2.1 18 1 p = nI (up1 kd M (kk + 1) p) ∧ u2.1 18 2 p = nI (up1 ar M a p) ∧ u2.1 18 3 p = nI (up1 (if 0 < O then up1 cn (op (O - 1)) (cn (op (O - 1)) + 1) else cn) M 0 p) ∧ ∀ i, i < up1 (if 0 < O then up1 cn (op (O - 1)) (cn (op (O - 1)) + 1) else cn) M 0 p → u2.1 18 4 (4 * p + i) = nI ((if 0 < O then up2 ch (op (O - 1)) (cn (op (O - 1))) M else ch) p i) := by
      intro u2 a x1 x2 x3 x4 x5 p hp
      by_cases z : p = M
      · rw [z, up1_s, up1_s, up1_s]
        exact ⟨x3, x4, x5, fun i hi => absurd hi (by omega)⟩
      · obtain ⟨y1, y2, y3, y4⟩ := b4 p (by omega)
        obtain ⟨w1, w2, w3⟩ := x1 p (by omega)
        rw [up1_n _ z, up1_n _ z, up1_n _ z]
        exact ⟨w1.trans y1, w2.trans y2, w3.trans y3, fun i hi => (x2 _).trans (y4 i hi)⟩
    refine ab_aload_n X 1 d_MO_begin_139 rfl rfl ?_
    refine ab_gR X fl_MO_33 d_MO_begin_140 (by first | assumption | decide | (show _ < 124; omega) | (show _ < 61; omega) | (show _ < 20; omega)) (P1.1.mo7) ?_
    refine ab_aload_n X 1 d_MO_begin_143 rfl rfl ?_
    refine ab_gI X fl_MO_27 d_MO_begin_144 (by first | assumption | decide | (show _ < 124; omega) | (show _ < 61; omega) | (show _ < 20; omega)) (b1) ?_
    refine ab_iload_n X 0 d_MO_begin_147 rfl rfl ?_
    refine ab_iast X (M) ⟨rfl, rfl⟩ d_MO_begin_148 (by first | assumption | decide | (show _ < 124; omega) | (show _ < 61; omega) | (show _ < 20; omega)) (rfl) (show M < 40 by omega) (ab_ln_lt _ _) ?_
    refine ab_gen (fun u148 e148 => ?_)
    have P148 : gP [5, 6, 39, 101, 102, 103, 104, 120] u u148 := by rw [e148]; exact P1.ui rfl (by decide)
    refine ab_aload_n X 1 d_MO_begin_149 rfl rfl ?_
    refine ab_gR X fl_MO_39 d_MO_begin_150 (by first | assumption | decide | (show _ < 124; omega) | (show _ < 61; omega) | (show _ < 20; omega)) (P148.1.mo9) ?_
    refine ab_aload_n X 1 d_MO_begin_153 rfl rfl ?_
    refine ab_gI X fl_MO_27 d_MO_begin_154 (by first | assumption | decide | (show _ < 124; omega) | (show _ < 61; omega) | (show _ < 20; omega)) ((show _ = nI M by rw [e148]; simpa [ab_up] using b1)) ?_
    refine ab_iconst (v := 0) X d_MO_begin_157 (by decide) ?_
    refine ab_iast X (M) ⟨rfl, rfl⟩ d_MO_begin_158 (by first | assumption | decide | (show _ < 124; omega) | (show _ < 61; omega) | (show _ < 20; omega)) (rfl) (show M < 40 by omega) (ab_ln_lt _ _) ?_
    refine ab_gen (fun u158 e158 => ?_)
    have P158 : gP [5, 6, 39, 101, 102, 103, 104, 120] u u158 := by rw [e158]; exact P148.ui rfl (by decide)
    refine ab_aload_n X 1 d_MO_begin_159 rfl rfl ?_
    refine ab_gR X fl_MO_36 d_MO_begin_160 (by first | assumption | decide | (show _ < 124; omega) | (show _ < 61; omega) | (show _ < 20; omega)) (P158.1.mo8) ?_
    refine ab_aload_n X 1 d_MO_begin_163 rfl rfl ?_
    refine ab_gI X fl_MO_27 d_MO_begin_164 (by first | assumption | decide | (show _ < 124; omega) | (show _ < 61; omega) | (show _ < 20; omega)) ((show _ = nI M by rw [e158, e148]; simpa [ab_up] using b1)) ?_
    refine ab_iconst (v := 0) X d_MO_begin_167 (by decide) ?_
    refine ab_iast X (M) ⟨rfl, rfl⟩ d_MO_begin_168 (by first | assumption | decide | (show _ < 124; omega) | (show _ < 61; omega) | (show _ < 20; omega)) (rfl) (show M < 40 by omega) (ab_ln_lt _ _) ?_
    refine ab_gen (fun u168 e168 => ?_)
    have P168 : gP [5, 6, 39, 101, 102, 103, 104, 120] u u168 := by rw [e168]; exact P158.ui rfl (by decide)
    refine ab_iload_n X 2 d_MO_begin_169 rfl rfl ?_
    refine ab_iload_n X 0 d_MO_begin_170 rfl rfl ?_
    refine ab_callS (as := [ab_I (nI (kk + 1))]) X (fun h => by cases h) (c_MO_lettersOf (N := ab_nQ) u168 kk hkk) ls_MO_171 d_MO_begin_171 rfl rfl ⟨by first | exact Nat.le_of_ble_eq_true rfl | (simp only [ab_rm]; omega), by first | exact Nat.le_of_ble_eq_true rfl | (simp only [ab_rm]; omega)⟩ ⟨by first | exact Nat.le_of_ble_eq_true rfl | (simp only [ab_rm]; omega), by first | exact Nat.le_of_ble_eq_true rfl | (simp only [ab_rm]; omega)⟩ (Nat.le_of_ble_eq_true rfl) (fun u171 r171 h171 => ?_)
    obtain ⟨e171, rfl⟩ := h171
    subst u171
    rw [mr_nn hkk]
    refine ab_iadd X d_MO_begin_174 ?_
    refine ab_top (nI_add q _) ?_
    refine ab_istore3 X 0 1 2 d_MO_begin_175 (by decide) rfl rfl rfl rfl rfl rfl ?_
    refine ab_aload_n X 2 d_MO_begin_177 rfl rfl ?_
    refine ab_dup X d_MO_begin_178 rfl ?_
    refine ab_gI X fl_MO_27 d_MO_begin_179 (by first | assumption | decide | (show _ < 124; omega) | (show _ < 61; omega) | (show _ < 20; omega)) ((show _ = nI M by rw [e168, e158, e148]; simpa [ab_up] using b1)) ?_
    refine ab_iconst (v := 1) X d_MO_begin_182 (by decide) ?_
    refine ab_iadd X d_MO_begin_183 ?_
    refine ab_top (nI_1 _) ?_
    refine ab_putI X fp_MO_27 d_MO_begin_184 (by first | assumption | decide | (show _ < 124; omega) | (show _ < 61; omega) | (show _ < 20; omega)) rfl rfl ?_
    refine ab_gen (fun u184 e184 => ?_)
    have P184 : gP [5, 6, 39, 101, 102, 103, 104, 120] u u184 := by rw [e184]; exact P168.ui rfl (by decide)
    have g1 : ∀ p, p < M → u184.1 18 1 p = u1.1 18 1 p ∧ u184.1 18 2 p = u1.1 18 2 p ∧ u184.1 18 3 p = u1.1 18 3 p := fun p hp => by rw [e184, e168, e158, e148]; simp [ab_up, show p ≠ M by omega]
    have g2 : ∀ x, u184.1 18 4 x = u1.1 18 4 x := fun x => by rw [e184, e168, e158, e148]; simp [ab_up]
    have g3 : u184.1 18 1 M = nI (kk + 1) := by rw [e184, e168, e158, e148]; simp [ab_up]
    have g4 : u184.1 18 2 M = nI 0 := by rw [e184, e168]; simp [ab_up]; rfl
    have g5 : u184.1 18 3 M = nI 0 := by rw [e184, e168, e158]; simp [ab_up]; rfl
    have g6 : u184.1 17 0 5 = nI (M + 1) := by rw [e184]; simp [ab_up]
    have g7 : u184.1 17 0 6 = nI (lcn kd M) := by rw [e184, e168, e158, e148]; simpa [ab_up] using b2
    have g8 : u184.1 17 0 39 = nI O := by rw [e184, e168, e158, e148]; simpa [ab_up] using b3
    have g9 : ∀ j, u184.1 18 20 j = u1.1 18 20 j := fun j => by rw [e184, e168, e158, e148]; simp [ab_up]
    refine ab_iload_n X 1 d_MO_begin_187 rfl rfl ?_
    refine ab_iconst (v := 5) X d_MO_begin_188 (by decide) ?_
    refine ab_icmp_ge X 205 d_MO_begin_189 rfl (fun h189 => ?_) (fun h189 => ?_)
    ·
      have k5 : 5 ≤ kk + 1 := nI_le_of (b := 5) h189 (by omega)
      refine ab_aload_n X 2 d_MO_begin_205 rfl rfl ?_
      refine ab_gR X fl_MO_126 d_MO_begin_206 (by first | assumption | decide | (show _ < 124; omega) | (show _ < 61; omega) | (show _ < 20; omega)) (P184.1.mo38) ?_
      refine ab_aload_n X 2 d_MO_begin_209 rfl rfl ?_
      refine ab_gI X fl_MO_129 d_MO_begin_210 (by first | assumption | decide | (show _ < 124; omega) | (show _ < 61; omega) | (show _ < 20; omega)) (g8) ?_
      refine ab_aload_n X 2 d_MO_begin_213 rfl rfl ?_
      refine ab_gI X fl_MO_27 d_MO_begin_214 (by first | assumption | decide | (show _ < 124; omega) | (show _ < 61; omega) | (show _ < 20; omega)) (g6) ?_
      refine ab_iconst (v := 1) X d_MO_begin_217 (by decide) ?_
      refine ab_isub X d_MO_begin_218 ?_
      refine ab_top (nI_p1 M) ?_
      refine ab_iast X (O) ⟨rfl, rfl⟩ d_MO_begin_219 (by first | assumption | decide | (show _ < 124; omega) | (show _ < 61; omega) | (show _ < 20; omega)) (rfl) (show O < 40 by omega) (ab_ln_lt _ _) ?_
      refine ab_gen (fun u219 e219 => ?_)
      have P219 : gP [5, 6, 39, 101, 102, 103, 104, 120] u u219 := by rw [e219]; exact P184.ui rfl (by decide)
      refine ab_aload_n X 2 d_MO_begin_220 rfl rfl ?_
      refine ab_dup X d_MO_begin_221 rfl ?_
      refine ab_gI X fl_MO_129 d_MO_begin_222 (by first | assumption | decide | (show _ < 124; omega) | (show _ < 61; omega) | (show _ < 20; omega)) ((show _ = nI O by rw [e219]; simpa [ab_up] using g8)) ?_
      refine ab_iconst (v := 1) X d_MO_begin_225 (by decide) ?_
      refine ab_iadd X d_MO_begin_226 ?_
      refine ab_top (nI_1 _) ?_
      refine ab_putI X fp_MO_129 d_MO_begin_227 (by first | assumption | decide | (show _ < 124; omega) | (show _ < 61; omega) | (show _ < 20; omega)) rfl rfl ?_
      refine ab_gen (fun u227 e227 => ?_)
      have P227 : gP [5, 6, 39, 101, 102, 103, 104, 120] u u227 := by rw [e227]; exact P219.ui rfl (by decide)
      have r6 : u227.1 17 0 5 = nI (M + 1) := by rw [e227, e219]; simpa [ab_up] using g6
      have r7 : u227.1 17 0 6 = nI (lcn kd M) := by rw [e227, e219]; simpa [ab_up] using g7
      have r8 : u227.1 17 0 39 = nI (O + 1) := by rw [e227]; simp [ab_up]
      have r9 : ∀ j, j < O + 1 → u227.1 18 20 j = nI (up1 op O M j) := fun j hj => by
        by_cases z : j = O
        · rw [z, up1_s, e227, e219]; simp [ab_up]
        · rw [up1_n _ z, e227, e219]; simpa [ab_up, z] using (g9 j).trans (b5 j (by omega))
      have rc : ∀ (u2 : ab_S) (a : Nat), (∀ x, x ≠ M → u2.1 18 2 x = u227.1 18 2 x) → u2.1 18 2 M = nI a → gP [102] u227 u2 → ∀ p, p < M + 1 → u2.1 18 1 p = nI (up1 kd M (kk + 1) p) ∧ u2.1 18 2 p = nI (up1 ar M a p) ∧ u2.1 18 3 p = nI (up1 (if 0 < O then up1 cn (op (O - 1)) (cn (op (O - 1)) + 1) else cn) M 0 p) ∧ ∀ i, i < up1 (if 0 < O then up1 cn (op (O - 1)) (cn (op (O - 1)) + 1) else cn) M 0 p → u2.1 18 4 (4 * p + i) = nI ((if 0 < O then up2 ch (op (O - 1)) (cn (op (O - 1))) M else ch) p i) := fun u2 a y1 y2 y3 => cells u2 a (fun p hp => ⟨(y3.ai (by decide) rfl).trans ((show u227.1 18 1 p = u184.1 18 1 p by rw [e227, e219]; simp [ab_up]).trans (g1 p hp).1), (y1 p (by omega)).trans ((show u227.1 18 2 p = u184.1 18 2 p by rw [e227, e219]; simp [ab_up]).trans (g1 p hp).2.1), (y3.ai (by decide) rfl).trans ((show u227.1 18 3 p = u184.1 18 3 p by rw [e227, e219]; simp [ab_up]).trans (g1 p hp).2.2)⟩) (fun x => (y3.ai (by decide) rfl).trans ((show u227.1 18 4 x = u184.1 18 4 x by rw [e227, e219]; simp [ab_up]).trans (g2 x))) (y3.ai (by decide) ((show u227.1 18 1 M = u184.1 18 1 M by rw [e227, e219]; simp [ab_up]).trans g3)) y2 (y3.ai (by decide) ((show u227.1 18 3 M = u184.1 18 3 M by rw [e227, e219]; simp [ab_up]).trans g5))
      have rr : rR (O + 1) (up1 kd M (kk + 1)) (up1 (if 0 < O then up1 cn (op (O - 1)) (cn (op (O - 1)) + 1) else cn) M 0) (up1 op O M) := ⟨by omega, by rw [show O + 1 - 1 = O by omega, up1_s, up1_s]; decide, fun _ => by rw [show O + 1 - 1 = O by omega, up1_s, up1_s]; decide⟩
      have ro : 0 < O + 1 → up1 op O M 0 = 0 := fun _ => by
        by_cases z : O = 0
        · subst z; rw [up1_s]; rcases hO with z1 | z1; exact z1.2; exact absurd z1.1 (by omega)
        · rw [up1_n _ (by omega)]; exact h0 (by omega)
      have a0 : u227.1 18 2 M = nI 0 := (show u227.1 18 2 M = u184.1 18 2 M by rw [e227, e219]; simp [ab_up]).trans g4
      refine ab_iload_n X 1 d_MO_begin_230 rfl rfl ?_
      refine ab_bipush (v := 7) X d_MO_begin_231 (by decide) ?_
      refine ab_icmp_ge X 239 d_MO_begin_233 rfl (fun h233 => ?_) (fun h233 => ?_)
      ·
        have k7 : kk + 1 = 7 := by have := nI_le_of (b := 7) h233 (by omega); omega
        refine ab_aload_n X 2 d_MO_begin_239 rfl rfl ?_
        refine ab_iload X 0 d_MO_begin_240 rfl ?_
        refine ab_callV (as := [ab_I (nI (q + ab_sl.getD kk 0))]) X (fun h => by cases h) (t_MO_ta u227 (q + ab_sl.getD kk 0) T t ht (P227.fi (by decide) et) (fun k hk => P227.ai (by decide) (hT k hk)) P227.1 (by omega)) lk_MO_145 d_MO_begin_242 rfl rfl (by first | assumption | decide | (show _ < 124; omega) | (show _ < 61; omega) | (show _ < 20; omega)) ⟨by first | exact Nat.le_of_ble_eq_true rfl | (simp only [ab_rm]; omega), by first | exact Nat.le_of_ble_eq_true rfl | (simp only [ab_rm]; omega)⟩ ⟨by first | exact Nat.le_of_ble_eq_true rfl | (simp only [ab_rm]; omega), by first | exact Nat.le_of_ble_eq_true rfl | (simp only [ab_rm]; omega)⟩ (Nat.le_of_ble_eq_true rfl) (fun u242 r242 h242 => ?_)
        obtain ⟨e242, rfl⟩ := h242
        subst u242
        refine ab_istore4 X 0 1 2 3 d_MO_begin_245 (by decide) rfl rfl rfl rfl rfl rfl rfl rfl ?_
        refine ab_iload X 0 d_MO_begin_247 rfl ?_
        refine ab_bipush (v := 49) X d_MO_begin_249 (by decide) ?_
        refine ab_icmp_lt X 261 d_MO_begin_251 rfl (fun h251 => ?_) (fun h251 => ?_)
        ·
          have hb := hbn (by omega) (by omega) (Or.inl h251)
          refine ab_iconst (v := (-1)) X d_MO_begin_261 (by decide) ?_
          refine ab_iload X 1 d_MO_begin_262 rfl ?_
          refine ab_isub X d_MO_begin_264 ?_
          exact ab_reti X hr0 hlk d_MO_begin_265 (bad _ _ P227 (by omega) hb)
        ·
          refine ab_iload X 0 d_MO_begin_254 rfl ?_
          refine ab_bipush (v := 52) X d_MO_begin_256 (by decide) ?_
          refine ab_icmp_le X 266 d_MO_begin_258 rfl (fun h258 => ?_) (fun h258 => ?_)
          ·
            obtain ⟨z1, z2⟩ := dgv_of (lo := 48) (hi := 52) (by decide) (by decide) (fun y => h251 (Int32.lt_of_lt_of_le y (by decide))) h258
            have a1 : 1 ≤ dgv 48 (ta T t (q + ab_sl.getD kk 0)) := Nat.pos_of_ne_zero (fun y => h251 (by rw [y] at z2; rw [show ta T t (q + ab_sl.getD kk 0) = nI 0 + nI 48 from by rw [← z2]; exact (Int32.sub_add_cancel _ _).symm]; decide))
            refine ab_aload_n X 3 d_MO_begin_266 rfl rfl ?_
            refine ab_gR X fl_MO_36 d_MO_begin_267 (by first | assumption | decide | (show _ < 124; omega) | (show _ < 61; omega) | (show _ < 20; omega)) (P227.1.mo8) ?_
            refine ab_aload_n X 3 d_MO_begin_270 rfl rfl ?_
            refine ab_gI X fl_MO_27 d_MO_begin_271 (by first | assumption | decide | (show _ < 124; omega) | (show _ < 61; omega) | (show _ < 20; omega)) (r6) ?_
            refine ab_iconst (v := 1) X d_MO_begin_274 (by decide) ?_
            refine ab_isub X d_MO_begin_275 ?_
            refine ab_top (nI_p1 M) ?_
            refine ab_iload X 0 d_MO_begin_276 rfl ?_
            refine ab_bipush (v := 48) X d_MO_begin_278 (by decide) ?_
            refine ab_isub X d_MO_begin_280 ?_
            refine ab_top z2 ?_
            refine ab_iast X (M) ⟨rfl, rfl⟩ d_MO_begin_281 (by first | assumption | decide | (show _ < 124; omega) | (show _ < 61; omega) | (show _ < 20; omega)) (rfl) (show M < 40 by omega) (ab_ln_lt _ _) ?_
            refine ab_gen (fun u281 e281 => ?_)
            have P281 : gP [5, 6, 39, 101, 102, 103, 104, 120] u u281 := by rw [e281]; exact P227.ui rfl (by decide)
            refine ab_aload_n X 3 d_MO_begin_282 rfl rfl ?_
            refine ab_iload X 1 d_MO_begin_283 rfl ?_
            refine ab_iconst (v := 1) X d_MO_begin_285 (by decide) ?_
            refine ab_iadd X d_MO_begin_286 ?_
            refine ab_top (nI_1 _) ?_
            refine ab_callV (as := [ab_I (nI (q + ab_sl.getD kk 0 + 1))]) X (fun h => by cases h) (t_MO_ta u281 (q + ab_sl.getD kk 0 + 1) T t ht (P281.fi (by decide) et) (fun k hk => P281.ai (by decide) (hT k hk)) P281.1 (by omega)) lk_MO_145 d_MO_begin_287 rfl rfl (by first | assumption | decide | (show _ < 124; omega) | (show _ < 61; omega) | (show _ < 20; omega)) ⟨by first | exact Nat.le_of_ble_eq_true rfl | (simp only [ab_rm]; omega), by first | exact Nat.le_of_ble_eq_true rfl | (simp only [ab_rm]; omega)⟩ ⟨by first | exact Nat.le_of_ble_eq_true rfl | (simp only [ab_rm]; omega), by first | exact Nat.le_of_ble_eq_true rfl | (simp only [ab_rm]; omega)⟩ (Nat.le_of_ble_eq_true rfl) (fun u287 r287 h287 => ?_)
            obtain ⟨e287, rfl⟩ := h287
            subst u287
            refine ab_bipush (v := 44) X d_MO_begin_290 (by decide) ?_
            refine ab_icmp_ne X 302 d_MO_begin_292 rfl (fun h292 => ?_) (fun h292 => ?_)
            ·
              refine ab_iconst (v := (-1)) X d_MO_begin_302 (by decide) ?_
              refine ab_iload X 1 d_MO_begin_303 rfl ?_
              refine ab_iconst (v := 1) X d_MO_begin_305 (by decide) ?_
              refine ab_iadd X d_MO_begin_306 ?_
              refine ab_top (nI_1 _) ?_
              refine ab_isub X d_MO_begin_307 ?_
              exact ab_reti X hr0 hlk d_MO_begin_308 (bad _ _ P281 (by omega) (hbn (by omega) (by omega) (Or.inr (Or.inr h292))))
            ·
              have hlt : q + ab_sl.getD kk 0 + 1 < t := ta_lt h292 (by decide)
              refine ab_iload X 1 d_MO_begin_295 rfl ?_
              refine ab_iconst (v := 2) X d_MO_begin_297 (by decide) ?_
              refine ab_iadd X d_MO_begin_298 ?_
              refine ab_top (nI_add _ 2) ?_
              refine ab_goto X 308 d_MO_begin_299 rfl ?_
              have w281 : gP [102] u227 u281 := by rw [e281]; exact (gP.rf P227.1 : gP [102] u227 u227).ui rfl trivial
              exact ab_reti X hr0 hlk d_MO_begin_308 ⟨P281, _, Or.inr ⟨q + ab_sl.getD kk 0 + 2, O + 1, _, _, _, _, _, _, _, rfl, hbs k7 (fun z => z.elim h251 (fun y => y.elim (fun x => Int32.not_lt.mpr h258 x) (fun x => x h292))), by omega, ⟨⟨w281.fi (by decide) r6, by rw [lc1, if_neg (by omega)]; exact w281.fi (by decide) r7, w281.fi (by decide) r8, rc _ (dgv 48 (ta T t (q + ab_sl.getD kk 0))) (fun x hx => by rw [e281]; simp [ab_up, hx]) (by rw [e281]; simp [ab_up]) w281, fun j hj => w281.ai (by decide) (r9 j hj)⟩, (add _ (by omega)).2 k5, by rw [lc1, if_neg (by omega)]; omega, by omega, by omega, ro, hA2 _ (fun z => ⟨a1, by omega⟩)⟩, Or.inr ⟨rfl, rr⟩⟩, rfl⟩
          ·
            have hb := hbn (by omega) (by omega) (Or.inr (Or.inl (Int32.not_le.mp h258)))
            refine ab_iconst (v := (-1)) X d_MO_begin_261 (by decide) ?_
            refine ab_iload X 1 d_MO_begin_262 rfl ?_
            refine ab_isub X d_MO_begin_264 ?_
            exact ab_reti X hr0 hlk d_MO_begin_265 (bad _ _ P227 (by omega) hb)
      ·
        have k7 : kk + 1 < 7 := nI_lt_of (b := 7) h233 (by omega)
        refine ab_iload X 0 d_MO_begin_236 rfl ?_
        exact ab_reti X hr0 hlk d_MO_begin_238 ⟨P227, _, Or.inr ⟨q + ab_sl.getD kk 0, O + 1, _, _, _, _, _, _, _, rfl, (bg_b hkA (by omega) hkk).trans (if_pos k7), by omega, ⟨⟨r6, by rw [lc1, if_neg (by omega)]; exact r7, r8, rc _ 0 (fun _ _ => rfl) a0 (gP.rf P227.1), r9⟩, (add 0 (by decide)).2 k5, by rw [lc1, if_neg (by omega)]; omega, by omega, hqk, ro, hA2 0 (fun z => by omega)⟩, Or.inr ⟨rfl, rr⟩⟩, rfl⟩
    ·
      have k5 : kk + 1 < 5 := nI_lt_of (b := 5) h189 (by omega)
      refine ab_aload_n X 2 d_MO_begin_192 rfl rfl ?_
      refine ab_aload_n X 2 d_MO_begin_193 rfl rfl ?_
      refine ab_gI X fl_MO_27 d_MO_begin_194 (by first | assumption | decide | (show _ < 124; omega) | (show _ < 61; omega) | (show _ < 20; omega)) (g6) ?_
      refine ab_iconst (v := 1) X d_MO_begin_197 (by decide) ?_
      refine ab_isub X d_MO_begin_198 ?_
      refine ab_top (nI_p1 M) ?_
      refine ab_iload X 0 d_MO_begin_199 rfl ?_
      refine ab_callV (as := [ab_I (nI M), ab_I (nI (q + ab_sl.getD kk 0))]) X (fun h => by cases h) (f_MO_leaf u184 M (q + ab_sl.getD kk 0) (kk + 1) (lcn kd M) T t ht (P184.fi (by decide) et) (fun k hk => P184.ai (by decide) (hT k hk)) P184.1 (by omega) (by omega) g3 (by omega) (by omega) g7 (by omega)) lk_MO_174 d_MO_begin_201 rfl rfl (by first | assumption | decide | (show _ < 124; omega) | (show _ < 61; omega) | (show _ < 20; omega)) ⟨by first | exact Nat.le_of_ble_eq_true rfl | (simp only [ab_rm]; omega), by first | exact Nat.le_of_ble_eq_true rfl | (simp only [ab_rm]; omega)⟩ ⟨by first | exact Nat.le_of_ble_eq_true rfl | (simp only [ab_rm]; omega), by first | exact Nat.le_of_ble_eq_true rfl | (simp only [ab_rm]; omega)⟩ (Nat.le_of_ble_eq_true rfl) (fun u201 r201 h201 => ?_)
      obtain ⟨⟨q201, f1, f2⟩, x201, hx201, rfl⟩ := h201
      have P201 := P184.trans q201 (by decide)
      rcases hx201 with ⟨hx, hN⟩ | ⟨a, q', rfl, hS, z1, z2, z3, z4⟩
      · exact ab_reti X hr0 hlk d_MO_begin_204 ⟨P201, _, Or.inl ⟨hx, bg_l0 hkA (by omega) (Or.inr hN)⟩, rfl⟩
      · refine ab_reti X hr0 hlk d_MO_begin_204 ⟨P201, _, Or.inr ⟨q', O, _, _, _, _, _, op, _, rfl, bg_l1 hkA (by omega) (hL9 k5) hS, by omega, ⟨⟨(q201.fi (by decide) g6), by rw [lc1, if_pos k5]; exact f1, q201.fi (by decide) g8, cells _ a (fun p hp => ⟨(q201.ai (by decide) rfl).trans (g1 p hp).1, (f2 p (by omega)).trans (g1 p hp).2.1, (q201.ai (by decide) rfl).trans (g1 p hp).2.2⟩) (fun x => (q201.ai (by decide) rfl).trans (g2 x)) (q201.ai (by decide) g3) z4 (q201.ai (by decide) g5), fun j hj => (q201.ai (by decide) rfl).trans ((g9 j).trans (b5 j hj))⟩, (add a z3).1 k5, by rw [lc1, if_pos k5]; have := hL9 k5; omega, by omega, z2, h0, hA2 a (fun z => by omega)⟩, Or.inl rfl⟩, rfl⟩
  have K54 : ∀ (kk b : Nat), kk < 7 → kA T t q = kk + 1 → q + ab_sl.getD kk 0 ≤ t → b ≤ 8 → ab_J p l e (ab_rm 2 0 0) s m args below meth c (MQ below (ab_Q D ca ad ab_nQ s.heap.size (fun u' v => gP [5, 6, 39, 101, 102, 103, 104, 120] u u' ∧ ∃ x : Int32, ((x < 0 ∧ bg T t q M O kd ar cn op ch = none) ∨ ∃ (q' O' : Nat) (kd' ar' cn' en' cl' op' : Nat → Nat) (ch' : Nat → Nat → Nat), x = nI q' ∧ bg T t q M O kd ar cn op ch = some (q', M + 1, O', kd', ar', cn', op', ch') ∧ q + 3 ≤ q' ∧ rI t q' (M + 1) O' kd' ar' cn' en' cl' op' ch' u' ∧ (O' = O ∨ (O' = O + 1 ∧ rR O' kd' cn' op'))) ∧ v = some (ab_I x))) args s 0 0 (ab_A ad ab_nQ s.heap.size)) D ca (ab_A ad ab_nQ s.heap.size) s.heap 6 0 0 ad ab_nQ u 64 [(3, ab_I (nI (kk + 1))), (2, ab_I (nI b)), (0, ab_O 17 0), (1, ab_I (nI q))] [] := by
    intro kk b hkk hkA hqk hb
    have l3 := ab_sl3 hkk
    have K82 : (kk + 1 < 5 → lcn kd M < 10) → ab_J p l e (ab_rm 2 0 0) s m args below meth c (MQ below (ab_Q D ca ad ab_nQ s.heap.size (fun u' v => gP [5, 6, 39, 101, 102, 103, 104, 120] u u' ∧ ∃ x : Int32, ((x < 0 ∧ bg T t q M O kd ar cn op ch = none) ∨ ∃ (q' O' : Nat) (kd' ar' cn' en' cl' op' : Nat → Nat) (ch' : Nat → Nat → Nat), x = nI q' ∧ bg T t q M O kd ar cn op ch = some (q', M + 1, O', kd', ar', cn', op', ch') ∧ q + 3 ≤ q' ∧ rI t q' (M + 1) O' kd' ar' cn' en' cl' op' ch' u' ∧ (O' = O ∨ (O' = O + 1 ∧ rR O' kd' cn' op'))) ∧ v = some (ab_I x))) args s 0 0 (ab_A ad ab_nQ s.heap.size)) D ca (ab_A ad ab_nQ s.heap.size) s.heap 6 0 0 ad ab_nQ u 82 [(3, ab_I (nI (kk + 1))), (0, ab_O 17 0), (1, ab_I (nI q))] [] := by
      intro hL9
      by_cases z : 0 < O
      · obtain ⟨t1, t5, -, -⟩ := R.2.2.1 (O - 1) (by omega)
        obtain ⟨r1, r4, r2⟩ : rR O kd cn op := by rcases hO with w | w; (exact absurd w.1 (by omega)); exact w
        refine ab_aload_n X 1 d_MO_begin_82 rfl rfl ?_
        refine ab_gI X fl_MO_129 d_MO_begin_83 (by first | assumption | decide | (show _ < 124; omega) | (show _ < 61; omega) | (show _ < 20; omega)) (eO) ?_
        refine ab_if_le X 139 d_MO_begin_86 rfl (fun hb => absurd hb ((nI_nle z (by omega)))) (fun _ => ?_)
        refine ab_aload_n X 1 d_MO_begin_89 rfl rfl ?_
        refine ab_gR X fl_MO_126 d_MO_begin_90 (by first | assumption | decide | (show _ < 124; omega) | (show _ < 61; omega) | (show _ < 20; omega)) (P0.1.mo38) ?_
        refine ab_aload_n X 1 d_MO_begin_93 rfl rfl ?_
        refine ab_gI X fl_MO_129 d_MO_begin_94 (by first | assumption | decide | (show _ < 124; omega) | (show _ < 61; omega) | (show _ < 20; omega)) (eO) ?_
        refine ab_iconst (v := 1) X d_MO_begin_97 (by decide) ?_
        refine ab_isub X d_MO_begin_98 ?_
        refine ab_top (nI_m1 z) ?_
        refine ab_iald X (O - 1) ⟨rfl, rfl⟩ d_MO_begin_99 (by first | assumption | decide | (show _ < 124; omega) | (show _ < 61; omega) | (show _ < 20; omega)) (rfl) (show O - 1 < 40 by omega) (ab_ln_lt _ _) ?_
        refine ab_top (eop (O - 1) (by omega)) ?_
        refine ab_istore3 X 0 1 2 d_MO_begin_100 (by decide) rfl rfl rfl rfl rfl rfl ?_
        refine ab_aload_n X 2 d_MO_begin_102 rfl rfl ?_
        refine ab_gR X fl_MO_42 d_MO_begin_103 (by first | assumption | decide | (show _ < 124; omega) | (show _ < 61; omega) | (show _ < 20; omega)) (P0.1.mo10) ?_
        refine ab_iconst (v := 4) X d_MO_begin_106 (by decide) ?_
        refine ab_iload X 0 d_MO_begin_107 rfl ?_
        refine ab_imul X d_MO_begin_109 ?_
        refine ab_aload_n X 2 d_MO_begin_110 rfl rfl ?_
        refine ab_gR X fl_MO_39 d_MO_begin_111 (by first | assumption | decide | (show _ < 124; omega) | (show _ < 61; omega) | (show _ < 20; omega)) (P0.1.mo9) ?_
        refine ab_iload X 0 d_MO_begin_114 rfl ?_
        refine ab_iald X (op (O - 1)) ⟨rfl, rfl⟩ d_MO_begin_116 (by first | assumption | decide | (show _ < 124; omega) | (show _ < 61; omega) | (show _ < 20; omega)) (rfl) (show op (O - 1) < 40 by omega) (ab_ln_lt _ _) ?_
        refine ab_top (eS _ t1).2.2.1 ?_
        refine ab_iadd X d_MO_begin_117 ?_
        refine ab_aload_n X 2 d_MO_begin_118 rfl rfl ?_
        refine ab_gI X fl_MO_27 d_MO_begin_119 (by first | assumption | decide | (show _ < 124; omega) | (show _ < 61; omega) | (show _ < 20; omega)) (eM) ?_
        refine ab_iast X (4 * op (O - 1) + cn (op (O - 1))) ⟨rfl, rfl⟩ d_MO_begin_122 (by first | assumption | decide | (show _ < 124; omega) | (show _ < 61; omega) | (show _ < 20; omega)) (nI_4a _ _) (show 4 * op (O - 1) + cn (op (O - 1)) < 160 by omega) (ab_ln_lt _ _) ?_
        refine ab_gen (fun u122 e122 => ?_)
        have P122 : gP [5, 6, 39, 101, 102, 103, 104, 120] u u122 := by rw [e122]; exact P0.ui rfl (by decide)
        refine ab_aload_n X 2 d_MO_begin_123 rfl rfl ?_
        refine ab_gR X fl_MO_39 d_MO_begin_124 (by first | assumption | decide | (show _ < 124; omega) | (show _ < 61; omega) | (show _ < 20; omega)) (P122.1.mo9) ?_
        refine ab_iload X 0 d_MO_begin_127 rfl ?_
        refine ab_aload_n X 2 d_MO_begin_129 rfl rfl ?_
        refine ab_gR X fl_MO_39 d_MO_begin_130 (by first | assumption | decide | (show _ < 124; omega) | (show _ < 61; omega) | (show _ < 20; omega)) (P122.1.mo9) ?_
        refine ab_iload X 0 d_MO_begin_133 rfl ?_
        refine ab_iald X (op (O - 1)) ⟨rfl, rfl⟩ d_MO_begin_135 (by first | assumption | decide | (show _ < 124; omega) | (show _ < 61; omega) | (show _ < 20; omega)) (rfl) (show op (O - 1) < 40 by omega) (ab_ln_lt _ _) ?_
        refine ab_top ((show u122.1 18 3 (op (O - 1)) = u.1 18 3 (op (O - 1)) by rw [e122]; simp [ab_up]).trans (eS _ t1).2.2.1) ?_
        refine ab_iconst (v := 1) X d_MO_begin_136 (by decide) ?_
        refine ab_iadd X d_MO_begin_137 ?_
        refine ab_top (nI_1 _) ?_
        refine ab_iast X (op (O - 1)) ⟨rfl, rfl⟩ d_MO_begin_138 (by first | assumption | decide | (show _ < 124; omega) | (show _ < 61; omega) | (show _ < 20; omega)) (rfl) (show op (O - 1) < 40 by omega) (ab_ln_lt _ _) ?_
        refine ab_gen (fun u138 e138 => ?_)
        have P138 : gP [5, 6, 39, 101, 102, 103, 104, 120] u u138 := by rw [e138]; exact P122.ui rfl (by decide)
        refine ab_lv (List.forall_mem_cons.mpr ⟨List.mem_of_getElem? (i := 1) rfl, List.forall_mem_cons.mpr ⟨List.mem_of_getElem? (i := 2) rfl, List.forall_mem_cons.mpr ⟨List.mem_of_getElem? (i := 3) rfl, fun _ h => absurd h List.not_mem_nil⟩⟩⟩) ?_
        refine K139 kk _ hkk hkA hqk hL9 P138 (by rw [e138, e122]; simpa [ab_up] using eM) (by rw [e138, e122]; simpa [ab_up] using eL) (by rw [e138, e122]; simpa [ab_up] using eO) (fun p2 hp2 => ?_) (fun j hj => by rw [e138, e122]; simpa [ab_up] using eop j hj)
        obtain ⟨y1, y2, y3, y4⟩ := eS p2 hp2
        have c4 := rS.cn4 R hp2
        rw [if_pos z, if_pos z]
        refine ⟨by rw [e138, e122]; simpa [ab_up] using y1, by rw [e138, e122]; simpa [ab_up] using y2, ?_, fun i hi => ?_⟩
        · by_cases w : p2 = op (O - 1)
          · rw [w, up1_s, e138]; simp [ab_up]
          · rw [up1_n _ w, e138, e122]; simpa [ab_up, w] using y3
        · by_cases w : p2 = op (O - 1)
          · subst w
            rw [up1_s] at hi
            by_cases v : i = cn (op (O - 1))
            · rw [v, up2_s, e138, e122]; simp [ab_up]
            · rw [up2_n _ (fun x => v x.2), e138, e122]; simpa [ab_up, v] using y4 i (by omega)
          · rw [up1_n _ w] at hi
            rw [up2_n _ (fun x => w x.1), e138, e122]
            have hne : ¬ 4 * p2 + i = 4 * op (O - 1) + cn (op (O - 1)) := by omega
            simpa [ab_up, hne] using y4 i hi
      · have O0 : O = 0 := by omega
        refine ab_aload_n X 1 d_MO_begin_82 rfl rfl ?_
        refine ab_gI X fl_MO_129 d_MO_begin_83 (by first | assumption | decide | (show _ < 124; omega) | (show _ < 61; omega) | (show _ < 20; omega)) (eO) ?_
        refine ab_if_le X 139 d_MO_begin_86 rfl (fun _ => ?_) (fun hb => absurd ((by rw [O0]; decide)) hb)
        exact K139 kk _ hkk hkA hqk hL9 P0 eM eL eO (fun p2 hp2 => by rw [if_neg z, if_neg z]; exact eS p2 hp2) eop
    refine ab_iload_n X 0 d_MO_begin_64 rfl rfl ?_
    refine ab_iconst (v := 5) X d_MO_begin_65 (by decide) ?_
    refine ab_icmp_ge X 82 d_MO_begin_66 rfl (fun h66 => ?_) (fun h66 => ?_)
    ·
      have k5 : 5 ≤ kk + 1 := nI_le_of (b := 5) h66 (by omega)
      refine ab_lv (List.forall_mem_cons.mpr ⟨List.mem_of_getElem? (i := 0) rfl, List.forall_mem_cons.mpr ⟨List.mem_of_getElem? (i := 2) rfl, List.forall_mem_cons.mpr ⟨List.mem_of_getElem? (i := 3) rfl, fun _ h => absurd h List.not_mem_nil⟩⟩⟩) ?_
      first | exact K82 (fun _ => l9) | exact K82 (fun z => by omega)
    ·
      have k5 : kk + 1 < 5 := nI_lt_of (b := 5) h66 (by omega)
      refine ab_aload_n X 2 d_MO_begin_69 rfl rfl ?_
      refine ab_gI X fl_MO_30 d_MO_begin_70 (by first | assumption | decide | (show _ < 124; omega) | (show _ < 61; omega) | (show _ < 20; omega)) (eL) ?_
      refine ab_bipush (v := 10) X d_MO_begin_73 (by decide) ?_
      refine ab_icmp_ne X 82 d_MO_begin_75 rfl (fun h75 => ?_) (fun h75 => ?_)
      ·
        have l9 : lcn kd M < 10 := by have : lcn kd M ≠ 10 := fun z => h75 (by rw [z]; rfl); omega
        refine ab_lv (List.forall_mem_cons.mpr ⟨List.mem_of_getElem? (i := 0) rfl, List.forall_mem_cons.mpr ⟨List.mem_of_getElem? (i := 2) rfl, List.forall_mem_cons.mpr ⟨List.mem_of_getElem? (i := 3) rfl, fun _ h => absurd h List.not_mem_nil⟩⟩⟩) ?_
        first | exact K82 (fun _ => l9) | exact K82 (fun z => by omega)
      ·
        have l10 : lcn kd M = 10 := (nI_eq (b := 10) (by omega) (by decide)).mp h75
        refine ab_iconst (v := (-1)) X d_MO_begin_78 (by decide) ?_
        refine ab_iload_n X 3 d_MO_begin_79 rfl rfl ?_
        refine ab_isub X d_MO_begin_80 ?_
        exact ab_reti X hr0 hlk d_MO_begin_81 (bad _ q P0 (by omega) (bg_l0 hkA (by omega) (Or.inl l10)))
  have loop : ∀ (n j b : Nat) (y : Int32), j + n = 7 → ((y = 0 ∧ ∀ i, i < j → ¬ mtb T t q i = true) ∨ ∃ kk, kk < 7 ∧ y = nI (kk + 1) ∧ mtb T t q kk = true ∧ q + ab_sl.getD kk 0 ≤ t) → b ≤ 8 → ab_J p l e (ab_rm 2 0 0) s m args below meth c (MQ below (ab_Q D ca ad ab_nQ s.heap.size (fun u' v => gP [5, 6, 39, 101, 102, 103, 104, 120] u u' ∧ ∃ x : Int32, ((x < 0 ∧ bg T t q M O kd ar cn op ch = none) ∨ ∃ (q' O' : Nat) (kd' ar' cn' en' cl' op' : Nat → Nat) (ch' : Nat → Nat → Nat), x = nI q' ∧ bg T t q M O kd ar cn op ch = some (q', M + 1, O', kd', ar', cn', op', ch') ∧ q + 3 ≤ q' ∧ rI t q' (M + 1) O' kd' ar' cn' en' cl' op' ch' u' ∧ (O' = O ∨ (O' = O + 1 ∧ rR O' kd' cn' op'))) ∧ v = some (ab_I x))) args s 0 0 (ab_A ad ab_nQ s.heap.size)) D ca (ab_A ad ab_nQ s.heap.size) s.heap 6 0 0 ad ab_nQ u 7 [(4, ab_I (nI (j + 1))), (3, ab_I y), (2, ab_I (nI b)), (0, ab_O 17 0), (1, ab_I (nI q))] [] := by
    intro n
    induction n with
    | zero =>
      intro j b y hj hy hb
      obtain rfl : j = 7 := by omega
      refine ab_iload X 0 d_MO_begin_7 rfl ?_
      refine ab_bipush (v := 8) X d_MO_begin_9 (by decide) ?_
      refine ab_icmp_ge X 54 d_MO_begin_11 rfl (fun _ => ?_) (fun hb => absurd ((by decide)) hb)
      refine ab_iload_n X 1 d_MO_begin_54 rfl rfl ?_
      refine ab_if_ne X 64 d_MO_begin_55 rfl (fun h55 => ?_) (fun h55 => ?_)
      ·
        obtain ⟨kk, hkk, rfl, hm, hqk⟩ := hy.resolve_left (fun z => h55 z.1)
        refine ab_lv (List.forall_mem_cons.mpr ⟨List.mem_of_getElem? (i := 1) rfl, List.forall_mem_cons.mpr ⟨List.mem_of_getElem? (i := 2) rfl, List.forall_mem_cons.mpr ⟨List.mem_of_getElem? (i := 3) rfl, List.forall_mem_cons.mpr ⟨List.mem_of_getElem? (i := 4) rfl, fun _ h => absurd h List.not_mem_nil⟩⟩⟩⟩) ?_
        exact K54 kk b hkk (kA_of hkk hm) hqk hb
      ·
        have k0 : kA T t q = 0 := hy.elim (fun z => kA_no (fun i hi => z.2 i hi)) (fun z => by obtain ⟨kk, a, b, -⟩ := z; exact absurd ((nI_eq (a := kk + 1) (b := 0) (by omega) (by omega)).mp (b.symm.trans h55)) (by omega))
        refine ab_iconst (v := (-1)) X d_MO_begin_58 (by decide) ?_
        refine ab_iload_n X 4 d_MO_begin_59 rfl rfl ?_
        refine ab_iload_n X 2 d_MO_begin_60 rfl rfl ?_
        refine ab_iadd X d_MO_begin_61 ?_
        refine ab_top (nI_add q b) ?_
        refine ab_isub X d_MO_begin_62 ?_
        exact ab_reti X hr0 hlk d_MO_begin_63 (bad _ (q + b) P0 (by omega) (bg_0 k0))
    | succ n ih =>
      intro j b y hj hy hb
      have hj7 : j < 7 := by omega
      have l3 := ab_sl3 hj7
      have l6 := ab_sl6 hj7
      refine ab_iload X 0 d_MO_begin_7 rfl ?_
      refine ab_bipush (v := 8) X d_MO_begin_9 (by decide) ?_
      refine ab_icmp_ge X 54 d_MO_begin_11 rfl (fun hb => absurd hb ((nI_ge (b := 8) (show j + 1 < 8 by omega) (by decide)))) (fun _ => ?_)
      refine ab_aload_n X 3 d_MO_begin_14 rfl rfl ?_
      refine ab_iload_n X 4 d_MO_begin_15 rfl rfl ?_
      refine ab_iload X 0 d_MO_begin_16 rfl ?_
      refine ab_callS (as := [ab_I (nI (j + 1))]) X (fun h => by cases h) (c_MO_wordOf (N := ab_nQ) u j hj7) ls_MO_163 d_MO_begin_18 rfl rfl ⟨by first | exact Nat.le_of_ble_eq_true rfl | (simp only [ab_rm]; omega), by first | exact Nat.le_of_ble_eq_true rfl | (simp only [ab_rm]; omega)⟩ ⟨by first | exact Nat.le_of_ble_eq_true rfl | (simp only [ab_rm]; omega), by first | exact Nat.le_of_ble_eq_true rfl | (simp only [ab_rm]; omega)⟩ (Nat.le_of_ble_eq_true rfl) (fun u18 r18 h18 => ?_)
      obtain ⟨e18, rfl⟩ := h18
      subst u18
      refine ab_callV (as := [ab_I (nI q), ab_L (mr_w j)]) X (fun h => by cases h) (t_MO_fitsj u q j T t ht et hT h (by omega) hj7) lk_MO_167 d_MO_begin_21 rfl rfl (by first | assumption | decide | (show _ < 124; omega) | (show _ < 61; omega) | (show _ < 20; omega)) ⟨by first | exact Nat.le_of_ble_eq_true rfl | (simp only [ab_rm]; omega), by first | exact Nat.le_of_ble_eq_true rfl | (simp only [ab_rm]; omega)⟩ ⟨by first | exact Nat.le_of_ble_eq_true rfl | (simp only [ab_rm]; omega), by first | exact Nat.le_of_ble_eq_true rfl | (simp only [ab_rm]; omega)⟩ (Nat.le_of_ble_eq_true rfl) (fun u21 r21 h21 => ?_)
      obtain ⟨e21, n21, hn21, hc21, rfl⟩ := h21
      subst u21
      refine ab_istore5 X 0 1 2 3 4 d_MO_begin_24 (by decide) rfl rfl rfl rfl rfl rfl rfl rfl rfl rfl ?_
      refine ab_iload X 0 d_MO_begin_26 rfl ?_
      refine ab_iload_n X 3 d_MO_begin_28 rfl rfl ?_
      refine ab_icmp_le X 35 d_MO_begin_29 rfl (fun h29 => ?_) (fun h29 => ?_)
      ·
        refine ab_iload X 0 d_MO_begin_35 rfl ?_
        refine ab_iload X 1 d_MO_begin_37 rfl ?_
        refine ab_callS (as := [ab_I (nI (j + 1))]) X (fun h => by cases h) (c_MO_lettersOf (N := ab_nQ) u j hj7) ls_MO_171 d_MO_begin_39 rfl rfl ⟨by first | exact Nat.le_of_ble_eq_true rfl | (simp only [ab_rm]; omega), by first | exact Nat.le_of_ble_eq_true rfl | (simp only [ab_rm]; omega)⟩ ⟨by first | exact Nat.le_of_ble_eq_true rfl | (simp only [ab_rm]; omega), by first | exact Nat.le_of_ble_eq_true rfl | (simp only [ab_rm]; omega)⟩ (Nat.le_of_ble_eq_true rfl) (fun u39 r39 h39 => ?_)
        obtain ⟨e39, rfl⟩ := h39
        subst u39
        rw [mr_nn hj7]
        refine ab_icmp_ne X 48 d_MO_begin_42 rfl (fun h42 => ?_) (fun h42 => ?_)
        ·
          have hno : ¬ mtb T t q j = true := (hc21.resolve_left (fun z => h42 (by rw [z.1]))).2
          have hy3 : (y = 0 ∧ ∀ i, i < j + 1 → ¬ mtb T t q i = true) ∨ ∃ kk, kk < 7 ∧ y = nI (kk + 1) ∧ mtb T t q kk = true ∧ q + ab_sl.getD kk 0 ≤ t := hy.imp (fun z => ⟨z.1, fun i hi => by by_cases w : i = j; (· rw [w]; exact hno); exact z.2 i (by omega)⟩) id
          refine ab_iinc5 X 1 0 2 3 4 5 d_MO_begin_48 rfl (by decide) rfl rfl rfl rfl rfl rfl rfl rfl rfl rfl ?_
          refine ab_goto X 7 d_MO_begin_51 rfl ?_
          refine ab_lv (List.forall_mem_cons.mpr ⟨List.mem_of_getElem? (i := 0) rfl, List.forall_mem_cons.mpr ⟨List.mem_of_getElem? (i := 2) rfl, List.forall_mem_cons.mpr ⟨List.mem_of_getElem? (i := 3) rfl, List.forall_mem_cons.mpr ⟨List.mem_of_getElem? (i := 4) rfl, List.forall_mem_cons.mpr ⟨List.mem_of_getElem? (i := 5) rfl, fun _ h => absurd h List.not_mem_nil⟩⟩⟩⟩⟩) ?_
          rw [show nI (j + 1) + Int32.ofInt 1 = nI (j + 1 + 1) from nI_1 (j + 1)]
          first | exact ih (j + 1) n21 _ (by omega) hy2 hn21 | exact ih (j + 1) b _ (by omega) hy2 hb | exact ih (j + 1) n21 _ (by omega) hy3 hn21 | exact ih (j + 1) b _ (by omega) hy3 hb
        ·
          have hlt : n21 = ab_sl.getD j 0 := (nI_eq (by omega) (by omega)).mp h42
          have hmm := hc21.resolve_right (fun z => absurd z.1 (by omega))
          have hy2 : (nI (j + 1) = 0 ∧ ∀ i, i < j + 1 → ¬ mtb T t q i = true) ∨ ∃ kk, kk < 7 ∧ nI (j + 1) = nI (kk + 1) ∧ mtb T t q kk = true ∧ q + ab_sl.getD kk 0 ≤ t := Or.inr ⟨j, hj7, rfl, hmm.2.1, by omega⟩
          refine ab_iload X 1 d_MO_begin_45 rfl ?_
          refine ab_istore_n5 X 0 1 3 4 5 d_MO_begin_47 rfl (by decide) rfl rfl rfl rfl rfl rfl rfl rfl rfl rfl ?_
          refine ab_iinc5 X 2 0 1 3 4 5 d_MO_begin_48 rfl (by decide) rfl rfl rfl rfl rfl rfl rfl rfl rfl rfl ?_
          refine ab_goto X 7 d_MO_begin_51 rfl ?_
          refine ab_lv (List.forall_mem_cons.mpr ⟨List.mem_of_getElem? (i := 0) rfl, List.forall_mem_cons.mpr ⟨List.mem_of_getElem? (i := 1) rfl, List.forall_mem_cons.mpr ⟨List.mem_of_getElem? (i := 3) rfl, List.forall_mem_cons.mpr ⟨List.mem_of_getElem? (i := 4) rfl, List.forall_mem_cons.mpr ⟨List.mem_of_getElem? (i := 5) rfl, fun _ h => absurd h List.not_mem_nil⟩⟩⟩⟩⟩) ?_
          rw [show nI (j + 1) + Int32.ofInt 1 = nI (j + 1 + 1) from nI_1 (j + 1)]
          first | exact ih (j + 1) n21 _ (by omega) hy2 hn21 | exact ih (j + 1) b _ (by omega) hy2 hb | exact ih (j + 1) n21 _ (by omega) hy3 hn21 | exact ih (j + 1) b _ (by omega) hy3 hb
      ·
        refine ab_iload X 0 d_MO_begin_32 rfl ?_
        refine ab_istore_n5 X 0 1 2 4 5 d_MO_begin_34 rfl (by decide) rfl rfl rfl rfl rfl rfl rfl rfl rfl rfl ?_
        refine ab_iload X 1 d_MO_begin_35 rfl ?_
        refine ab_iload X 2 d_MO_begin_37 rfl ?_
        refine ab_callS (as := [ab_I (nI (j + 1))]) X (fun h => by cases h) (c_MO_lettersOf (N := ab_nQ) u j hj7) ls_MO_171 d_MO_begin_39 rfl rfl ⟨by first | exact Nat.le_of_ble_eq_true rfl | (simp only [ab_rm]; omega), by first | exact Nat.le_of_ble_eq_true rfl | (simp only [ab_rm]; omega)⟩ ⟨by first | exact Nat.le_of_ble_eq_true rfl | (simp only [ab_rm]; omega), by first | exact Nat.le_of_ble_eq_true rfl | (simp only [ab_rm]; omega)⟩ (Nat.le_of_ble_eq_true rfl) (fun u39 r39 h39 => ?_)
        obtain ⟨e39, rfl⟩ := h39
        subst u39
        rw [mr_nn hj7]
        refine ab_icmp_ne X 48 d_MO_begin_42 rfl (fun h42 => ?_) (fun h42 => ?_)
        ·
          have hno : ¬ mtb T t q j = true := (hc21.resolve_left (fun z => h42 (by rw [z.1]))).2
          have hy3 : (y = 0 ∧ ∀ i, i < j + 1 → ¬ mtb T t q i = true) ∨ ∃ kk, kk < 7 ∧ y = nI (kk + 1) ∧ mtb T t q kk = true ∧ q + ab_sl.getD kk 0 ≤ t := hy.imp (fun z => ⟨z.1, fun i hi => by by_cases w : i = j; (· rw [w]; exact hno); exact z.2 i (by omega)⟩) id
          refine ab_iinc5 X 2 0 1 3 4 5 d_MO_begin_48 rfl (by decide) rfl rfl rfl rfl rfl rfl rfl rfl rfl rfl ?_
          refine ab_goto X 7 d_MO_begin_51 rfl ?_
          refine ab_lv (List.forall_mem_cons.mpr ⟨List.mem_of_getElem? (i := 0) rfl, List.forall_mem_cons.mpr ⟨List.mem_of_getElem? (i := 3) rfl, List.forall_mem_cons.mpr ⟨List.mem_of_getElem? (i := 1) rfl, List.forall_mem_cons.mpr ⟨List.mem_of_getElem? (i := 4) rfl, List.forall_mem_cons.mpr ⟨List.mem_of_getElem? (i := 5) rfl, fun _ h => absurd h List.not_mem_nil⟩⟩⟩⟩⟩) ?_
          rw [show nI (j + 1) + Int32.ofInt 1 = nI (j + 1 + 1) from nI_1 (j + 1)]
          first | exact ih (j + 1) n21 _ (by omega) hy2 hn21 | exact ih (j + 1) b _ (by omega) hy2 hb | exact ih (j + 1) n21 _ (by omega) hy3 hn21 | exact ih (j + 1) b _ (by omega) hy3 hb
        ·
          have hlt : n21 = ab_sl.getD j 0 := (nI_eq (by omega) (by omega)).mp h42
          have hmm := hc21.resolve_right (fun z => absurd z.1 (by omega))
          have hy2 : (nI (j + 1) = 0 ∧ ∀ i, i < j + 1 → ¬ mtb T t q i = true) ∨ ∃ kk, kk < 7 ∧ nI (j + 1) = nI (kk + 1) ∧ mtb T t q kk = true ∧ q + ab_sl.getD kk 0 ≤ t := Or.inr ⟨j, hj7, rfl, hmm.2.1, by omega⟩
          refine ab_iload X 2 d_MO_begin_45 rfl ?_
          refine ab_istore_n5 X 0 1 2 4 5 d_MO_begin_47 rfl (by decide) rfl rfl rfl rfl rfl rfl rfl rfl rfl rfl ?_
          refine ab_iinc5 X 3 0 1 2 4 5 d_MO_begin_48 rfl (by decide) rfl rfl rfl rfl rfl rfl rfl rfl rfl rfl ?_
          refine ab_goto X 7 d_MO_begin_51 rfl ?_
          refine ab_lv (List.forall_mem_cons.mpr ⟨List.mem_of_getElem? (i := 0) rfl, List.forall_mem_cons.mpr ⟨List.mem_of_getElem? (i := 1) rfl, List.forall_mem_cons.mpr ⟨List.mem_of_getElem? (i := 2) rfl, List.forall_mem_cons.mpr ⟨List.mem_of_getElem? (i := 4) rfl, List.forall_mem_cons.mpr ⟨List.mem_of_getElem? (i := 5) rfl, fun _ h => absurd h List.not_mem_nil⟩⟩⟩⟩⟩) ?_
          rw [show nI (j + 1) + Int32.ofInt 1 = nI (j + 1 + 1) from nI_1 (j + 1)]
          first | exact ih (j + 1) n21 _ (by omega) hy2 hn21 | exact ih (j + 1) b _ (by omega) hy2 hb | exact ih (j + 1) n21 _ (by omega) hy3 hn21 | exact ih (j + 1) b _ (by omega) hy3 hb
  refine ab_iconst (v := 0) X d_MO_begin_0 (by decide) ?_
  refine ab_istore_n2 X 0 1 d_MO_begin_1 rfl (by decide) rfl rfl rfl rfl ?_
  refine ab_iconst (v := 0) X d_MO_begin_2 (by decide) ?_
  refine ab_istore_n3 X 0 1 2 d_MO_begin_3 rfl (by decide) rfl rfl rfl rfl rfl rfl ?_
  refine ab_iconst (v := 1) X d_MO_begin_4 (by decide) ?_
  refine ab_istore4 X 0 1 2 3 d_MO_begin_5 (by decide) rfl rfl rfl rfl rfl rfl rfl rfl ?_
  exact loop 7 0 0 _ rfl (Or.inl ⟨rfl, fun i hi => absurd hi (Nat.not_lt_zero i)⟩) (by decide)
end SaMBeginF

