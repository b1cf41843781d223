/-! The reference's satisfy: the lightest row of the policy's form B becomes the witness. -/
theorem ms.out {F : List Nat} {u u' : ab_S} {f g : Nat} {b : Option (List Nat)} (h : ms u g b) (k : gP F u u') (o : sOut f u u') (hg : g ≠ f) (hb : oB 50 b) : ms u' g b := by
  cases b with
  | none => exact (o.1 g hg).1.trans h
  | some xs =>
    have lx := (hb xs rfl).1
    exact ⟨(o.1 g hg).1.trans h.1, (o.1 g hg).2.trans h.2.1, fun i hi => (o.2 _ (by omega)).trans (h.2.2 i hi)⟩
theorem md.out {u u' : ab_S} {f g : Nat} {xs : List Nat} (h : md u g xs) (o : dOut f u u') (hg : g ≠ f) (hb : xs.length ≤ 50) : md u' g xs := ⟨(o.1 g hg).trans h.1, fun i hi => (o.2 _ (by omega)).trans (h.2 i hi)⟩
/-- the witness stays -/
def wSt (u u' : ab_S) : Prop := u'.1 17 0 32 = u.1 17 0 32 ∧ ∀ i, u'.1 18 17 i = u.1 18 17 i
section SaSMTop
variable {l : Launch} {D : va_G} {ca : Nat → ClassId}
set_option maxRecDepth 100000 in
set_option maxHeartbeats 8000000 in
theorem x_MO_satisfy (u : ab_S) (a1 a2 a3 a4 : Int32) (P : Nat) (kd ar cn lf : Nat → Nat) (ch : Nat → Nat → Nat) (Y : Nat → Nat → Nat × Nat × Nat) (R : Nat → List Nat) (hz : u.1 17 0 4 = 0 ∨ (u.1 17 0 4 = 1 ∧ tW P kd ar cn lf ch ∧ (∀ q, q < P → xF kd ar cn ch Y R q) ∧ tR P kd ar cn ch u ∧ mX P kd ar cn ch Y R 0 u)) (h : MI u) : ab_C false l D ca y_MO_satisfy b_MO_satisfy 8 (some FieldType.int) 6 ab_nQ u [ab_O 17 0, ab_I a1, ab_I a2, ab_I a3, ab_I a4] (fun u' v => (oP u u' ∧ u'.1 17 0 33 = u.1 17 0 33) ∧ ((u.1 17 0 4 = 0 ∧ u'.1 17 0 0 = 1 ∧ wSt u u' ∧ ∃ y : Int32, v = some (ab_I y)) ∨ (u.1 17 0 4 = 1 ∧ u'.1 17 0 0 = 0 ∧ (((SV kd ar cn ch Y R (slf kd ar a1 a2 a3 a4)) 0 0 = none ∧ wSt u u' ∧ v = some (ab_I (-1))) ∨ ∃ xs, (SV kd ar cn ch Y R (slf kd ar a1 a2 a3 a4)) 0 0 = some xs ∧ u'.1 17 0 32 = nI xs.length ∧ (∀ i, i < xs.length → u'.1 18 17 i = nI (xs.getD i 0)) ∧ v = some (ab_I (nI (wgt xs))))))) := by
  refine ab_C.of (by decide) (Nat.le_of_ble_eq_true rfl) ?_
  intro p e s m args below meth c ad X hZ hr0 hlk
  obtain ⟨hm, ⟨t, ht, et⟩, ⟨ni, hi, ei⟩, h3⟩ := id h
  have P0 : gP [0, 26, 27, 29, 30, 32, 110, 111, 112, 113, 114, 115, 116, 117] u u := gP.rf hm
  have fin : ∀ (u1 : ab_S) (b : Nat), gP [0, 26, 27, 29, 30, 32, 110, 111, 112, 113, 114, 115, 116, 117] u u1 → b ≤ 40 → u1.1 17 0 32 = nI b → oP u u1 ∧ u1.1 17 0 33 = u.1 17 0 33 := by
    intro u1 b P1 hb eb
    refine ⟨⟨⟨P1.1, ⟨t, ht, P1.fi (by decide) et⟩, ⟨b, hb, eb⟩, ?_⟩, P1.oS, P1.fi (by decide) rfl, P1.oT (by decide)⟩, P1.fi (by decide) rfl⟩
    rcases h3 with z | ⟨z, P, kd, ar, cn, lf, ch, W, T, V⟩
    · exact Or.inl (P1.fi (by decide) z)
    · exact Or.inr ⟨P1.fi (by decide) z, P, kd, ar, cn, lf, ch, W, T.fr P1 (by decide) (by decide) (by decide) (by decide) (by decide), V.fr P1 (by decide) (by decide) (by decide)⟩
  rcases hz with z | ⟨z, W, F, T, MX⟩
  ·
    refine ab_aload_n X 0 d_MO_satisfy_0 rfl rfl ?_
    refine ab_aload_n X 0 d_MO_satisfy_1 rfl rfl ?_
    refine ab_gI X fl_MO_23 d_MO_satisfy_2 (by first | assumption | decide | (show _ < 124; omega) | (show _ < 61; omega) | (show _ < 20; omega)) (z) ?_
    refine ab_if_eq X 12 d_MO_satisfy_5 rfl (fun _ => ?_) (fun hb => absurd (rfl) hb)
    refine ab_iconst (v := 1) X d_MO_satisfy_12 (by decide) ?_
    refine ab_putI X fp_MO_7 d_MO_satisfy_13 (by first | assumption | decide | (show _ < 124; omega) | (show _ < 61; omega) | (show _ < 20; omega)) rfl rfl ?_
    refine ab_gen (fun u13 e13 => ?_)
    have P13 : gP [0, 26, 27, 29, 30, 32, 110, 111, 112, 113, 114, 115, 116, 117] u u13 := by rw [e13]; exact P0.ui rfl (by decide)
    refine ab_aload_n X 0 d_MO_satisfy_16 rfl rfl ?_
    refine ab_gI X fl_MO_23 d_MO_satisfy_17 (by first | assumption | decide | (show _ < 124; omega) | (show _ < 61; omega) | (show _ < 20; omega)) ((show _ = (0 : Int32) by rw [e13]; exact (ui_n _ (by omega)).trans z)) ?_
    refine ab_if_ne X 25 d_MO_satisfy_20 rfl (fun hb => absurd (rfl) hb) (fun _ => ?_)
    refine ab_iconst (v := 0) X d_MO_satisfy_23 (by decide) ?_
    exact ab_reti X hr0 hlk d_MO_satisfy_24 ⟨fin _ ni P13 hi (by rw [e13]; exact (ui_n _ (by omega)).trans ei), Or.inl ⟨z, by rw [e13]; exact ui_s _, ⟨by rw [e13]; exact ui_n _ (by omega), fun i => by rw [e13]; exact ui_n _ (by omega)⟩, _, rfl⟩⟩
  · have hP19 := W.2.1
    have hB : ∀ q, q < P → xB lf Y R q := fun q hq => xf_b W F (P - q) q (by omega) hq
    have hH : ∀ q, q < P → oB 1 (slf kd ar a1 a2 a3 a4 q) := fun q hq => slf_B (W.2.2 q hq).1.2.2.2.2
    have l10 : ∀ q, q < P → 1 ≤ lf q ∧ lf q ≤ 10 := fun q hq => ⟨(W.2.2 q hq).1.1, (W.2.2 q hq).1.2.1⟩
    have sB := fun q (hq : q < P) j (hj : j < 3) => SV_B W F hB hH _ q j (Nat.le_refl _) hq hj
    have s2 : ∀ q, q < P → ∀ j, j < 3 → oB (4 * lf q - 2) ((SV kd ar cn ch Y R (slf kd ar a1 a2 a3 a4)) q j) := fun q hq j hj => (sB q hq j hj).wk (by have := (l10 q hq).1; have : (if j = 0 then 0 else 1) ≤ 1 := (by split <;> decide); omega)
    have s50 : ∀ q, q < P → ∀ j, j < 3 → oB 50 ((SV kd ar cn ch Y R (slf kd ar a1 a2 a3 a4)) q j) := fun q hq j hj => (s2 q hq j hj).wk (by have := (l10 q hq).2; omega)
    have bR : ∀ q, q < P → (R q).length ≤ 2 * lf q - 1 ∧ ∀ x, x ∈ R q → itm x := fun q hq => ⟨by have := (hB q hq).2.1; omega, fun x hx => Or.inl (by rcases (hB q hq).2.2.2 x hx with y | y <;> omega)⟩
    have R50 : ∀ q, q < P → (R q).length ≤ 19 := fun q hq => by have := (bR q hq).1; have := (l10 q hq).2; omega
    have copy : ∀ (xs : List Nat), (SV kd ar cn ch Y R (slf kd ar a1 a2 a3 a4)) 0 0 = some xs → xs.length ≤ 40 → ∀ (k i : Nat) (u1 : ab_S), k + i = xs.length → gP [0, 26, 27, 29, 30, 32, 110, 111, 112, 113, 114, 115, 116, 117] u u1 → u1.1 17 0 0 = 0 → u1.1 17 0 32 = nI xs.length → u1.1 18 12 0 = nI (wgt xs) → (∀ i2, i2 < xs.length → u1.1 18 10 i2 = nI (xs.getD i2 0)) → (∀ i2, i2 < i → u1.1 18 17 i2 = nI (xs.getD i2 0)) → ab_J p l e (ab_rm 6 0 0) s m args below meth c (MQ below (ab_Q D ca ad ab_nQ s.heap.size (fun u' v => (oP u u' ∧ u'.1 17 0 33 = u.1 17 0 33) ∧ ((u.1 17 0 4 = 0 ∧ u'.1 17 0 0 = 1 ∧ wSt u u' ∧ ∃ y : Int32, v = some (ab_I y)) ∨ (u.1 17 0 4 = 1 ∧ u'.1 17 0 0 = 0 ∧ (((SV kd ar cn ch Y R (slf kd ar a1 a2 a3 a4)) 0 0 = none ∧ wSt u u' ∧ v = some (ab_I (-1))) ∨ ∃ xs, (SV kd ar cn ch Y R (slf kd ar a1 a2 a3 a4)) 0 0 = some xs ∧ u'.1 17 0 32 = nI xs.length ∧ (∀ i, i < xs.length → u'.1 18 17 i = nI (xs.getD i 0)) ∧ v = some (ab_I (nI (wgt xs)))))))) args s 0 0 (ab_A ad ab_nQ s.heap.size)) D ca (ab_A ad ab_nQ s.heap.size) s.heap 8 0 0 ad ab_nQ u1 136 [(5, ab_I (nI i)), (0, ab_O 17 0)] [] := by
      intro xs hv hx k
      induction k with
      | zero =>
        intro i u1 hk P1 t0 d1 d2 d3 d4
        obtain rfl : i = xs.length := by omega
        refine ab_iload X 0 d_MO_satisfy_136 rfl ?_
        refine ab_aload_n X 1 d_MO_satisfy_138 rfl rfl ?_
        refine ab_gI X fl_MO_108 d_MO_satisfy_139 (by first | assumption | decide | (show _ < 124; omega) | (show _ < 61; omega) | (show _ < 20; omega)) (d1) ?_
        refine ab_icmp_ge X 165 d_MO_satisfy_142 rfl (fun _ => ?_) (fun hb => absurd ((nI_le (by omega) (by omega))) hb)
        refine ab_aload_n X 1 d_MO_satisfy_165 rfl rfl ?_
        refine ab_gR X fl_MO_78 d_MO_satisfy_166 (by first | assumption | decide | (show _ < 124; omega) | (show _ < 61; omega) | (show _ < 20; omega)) (P1.1.mo22) ?_
        refine ab_iconst (v := 0) X d_MO_satisfy_169 (by decide) ?_
        refine ab_iald X (0) ⟨rfl, rfl⟩ d_MO_satisfy_170 (by first | assumption | decide | (show _ < 124; omega) | (show _ < 61; omega) | (show _ < 20; omega)) (rfl) (show 0 < 72 by decide) (ab_ln_lt _ _) ?_
        refine ab_top d2 ?_
        exact ab_reti X hr0 hlk d_MO_satisfy_171 ⟨fin _ xs.length P1 hx d1, Or.inr ⟨z, t0, Or.inr ⟨xs, hv, d1, d4, rfl⟩⟩⟩
      | succ k ih =>
        intro i u1 hk P1 t0 d1 d2 d3 d4
        refine ab_iload X 0 d_MO_satisfy_136 rfl ?_
        refine ab_aload_n X 1 d_MO_satisfy_138 rfl rfl ?_
        refine ab_gI X fl_MO_108 d_MO_satisfy_139 (by first | assumption | decide | (show _ < 124; omega) | (show _ < 61; omega) | (show _ < 20; omega)) (d1) ?_
        refine ab_icmp_ge X 165 d_MO_satisfy_142 rfl (fun hb => absurd hb ((nI_ge (by omega) (by omega)))) (fun _ => ?_)
        refine ab_aload_n X 1 d_MO_satisfy_145 rfl rfl ?_
        refine ab_gR X fl_MO_105 d_MO_satisfy_146 (by first | assumption | decide | (show _ < 124; omega) | (show _ < 61; omega) | (show _ < 20; omega)) (P1.1.mo31) ?_
        refine ab_iload X 0 d_MO_satisfy_149 rfl ?_
        refine ab_aload_n X 1 d_MO_satisfy_151 rfl rfl ?_
        refine ab_gR X fl_MO_72 d_MO_satisfy_152 (by first | assumption | decide | (show _ < 124; omega) | (show _ < 61; omega) | (show _ < 20; omega)) (P1.1.mo20) ?_
        refine ab_iload X 0 d_MO_satisfy_155 rfl ?_
        refine ab_iald X (i) ⟨rfl, rfl⟩ d_MO_satisfy_157 (by first | assumption | decide | (show _ < 124; omega) | (show _ < 61; omega) | (show _ < 20; omega)) (rfl) (show i < 3600 by omega) (ab_ln_lt _ _) ?_
        refine ab_top (d3 i (by omega)) ?_
        refine ab_iast X (i) ⟨rfl, rfl⟩ d_MO_satisfy_158 (by first | assumption | decide | (show _ < 124; omega) | (show _ < 61; omega) | (show _ < 20; omega)) (rfl) (show i < 64 by omega) (ab_ln_lt _ _) ?_
        refine ab_gen (fun u158 e158 => ?_)
        have P158 : gP [0, 26, 27, 29, 30, 32, 110, 111, 112, 113, 114, 115, 116, 117] u u158 := by rw [e158]; exact P1.ui rfl (by decide)
        refine ab_iinc1 X 0 1 d_MO_satisfy_159 rfl (by decide) rfl rfl ?_
        refine ab_goto X 136 d_MO_satisfy_162 rfl ?_
        rw [show nI i + Int32.ofInt 1 = nI (i + 1) from nI_1 i]
        refine ih (i + 1) _ (by omega) P158 (by rw [e158]; exact (ui_n _ (by omega)).trans t0) (by rw [e158]; exact (ui_n _ (by omega)).trans d1) (by rw [e158]; exact (ui_n _ (by omega)).trans d2) (fun i2 hi2 => by rw [e158]; exact (ui_n _ (by omega)).trans (d3 i2 hi2)) (fun i2 hi2 => ?_)
        rw [e158]
        by_cases y : i2 = i
        · subst y; exact ui_s _
        · exact (ui_n _ (by omega)).trans (d4 i2 (by omega))
    have K112 : ∀ (u1 : ab_S), gP [0, 26, 27, 29, 30, 110, 111, 112, 113, 114, 115, 116] u u1 → u1.1 17 0 0 = 0 → mS P (SV kd ar cn ch Y R (slf kd ar a1 a2 a3 a4)) R 0 u1 → ab_J p l e (ab_rm 6 0 0) s m args below meth c (MQ below (ab_Q D ca ad ab_nQ s.heap.size (fun u' v => (oP u u' ∧ u'.1 17 0 33 = u.1 17 0 33) ∧ ((u.1 17 0 4 = 0 ∧ u'.1 17 0 0 = 1 ∧ wSt u u' ∧ ∃ y : Int32, v = some (ab_I y)) ∨ (u.1 17 0 4 = 1 ∧ u'.1 17 0 0 = 0 ∧ (((SV kd ar cn ch Y R (slf kd ar a1 a2 a3 a4)) 0 0 = none ∧ wSt u u' ∧ v = some (ab_I (-1))) ∨ ∃ xs, (SV kd ar cn ch Y R (slf kd ar a1 a2 a3 a4)) 0 0 = some xs ∧ u'.1 17 0 32 = nI xs.length ∧ (∀ i, i < xs.length → u'.1 18 17 i = nI (xs.getD i 0)) ∧ v = some (ab_I (nI (wgt xs)))))))) args s 0 0 (ab_A ad ab_nQ s.heap.size)) D ca (ab_A ad ab_nQ s.heap.size) s.heap 8 0 0 ad ab_nQ u1 112 [(0, ab_O 17 0)] [] := by
      intro u1 Q1 t0 S1
      have P1 : gP [0, 26, 27, 29, 30, 32, 110, 111, 112, 113, 114, 115, 116, 117] u u1 := Q1.wk (by decide)
      have m0 := (S1 0 (Nat.le_refl _) W.1).2 0 (by decide)
      have b0 := sB 0 W.1 0 (by decide)
      have l0 := l10 0 W.1
      obtain hv | ⟨xs, hv⟩ : (SV kd ar cn ch Y R (slf kd ar a1 a2 a3 a4)) 0 0 = none ∨ ∃ xs, (SV kd ar cn ch Y R (slf kd ar a1 a2 a3 a4)) 0 0 = some xs := by
        cases (SV kd ar cn ch Y R (slf kd ar a1 a2 a3 a4)) 0 0 with
        | none => exact Or.inl rfl
        | some xs => exact Or.inr ⟨xs, rfl⟩
      · rw [hv] at m0 b0
        have m0 : u1.1 18 11 0 = -1 := m0
        refine ab_aload_n X 0 d_MO_satisfy_112 rfl rfl ?_
        refine ab_gR X fl_MO_75 d_MO_satisfy_113 (by first | assumption | decide | (show _ < 124; omega) | (show _ < 61; omega) | (show _ < 20; omega)) (P1.1.mo21) ?_
        refine ab_iconst (v := 0) X d_MO_satisfy_116 (by decide) ?_
        refine ab_iald X (0) ⟨rfl, rfl⟩ d_MO_satisfy_117 (by first | assumption | decide | (show _ < 124; omega) | (show _ < 61; omega) | (show _ < 20; omega)) (rfl) (show 0 < 72 by decide) (ab_ln_lt _ _) ?_
        refine ab_top m0 ?_
        refine ab_if_ge X 123 d_MO_satisfy_118 rfl (fun hb => absurd hb ((by decide))) (fun _ => ?_)
        refine ab_iconst (v := (-1)) X d_MO_satisfy_121 (by decide) ?_
        exact ab_reti X hr0 hlk d_MO_satisfy_122 ⟨fin _ ni P1 hi (Q1.fi (by decide) ei), Or.inr ⟨z, t0, Or.inl ⟨hv, ⟨Q1.fi (by decide) rfl, fun i => Q1.ai (by decide) rfl⟩, rfl⟩⟩⟩
      · rw [hv] at m0 b0
        obtain ⟨d1, d2, d3⟩ : u1.1 18 11 0 = nI xs.length ∧ u1.1 18 12 0 = nI (wgt xs) ∧ ∀ i, i < xs.length → u1.1 18 10 (50 * 0 + i) = nI (xs.getD i 0) := m0
        have lx := (b0 xs rfl).1
        rw [if_pos rfl] at lx
        refine ab_aload_n X 0 d_MO_satisfy_112 rfl rfl ?_
        refine ab_gR X fl_MO_75 d_MO_satisfy_113 (by first | assumption | decide | (show _ < 124; omega) | (show _ < 61; omega) | (show _ < 20; omega)) (P1.1.mo21) ?_
        refine ab_iconst (v := 0) X d_MO_satisfy_116 (by decide) ?_
        refine ab_iald X (0) ⟨rfl, rfl⟩ d_MO_satisfy_117 (by first | assumption | decide | (show _ < 124; omega) | (show _ < 61; omega) | (show _ < 20; omega)) (rfl) (show 0 < 72 by decide) (ab_ln_lt _ _) ?_
        refine ab_top d1 ?_
        refine ab_if_ge X 123 d_MO_satisfy_118 rfl (fun _ => ?_) (fun hb => absurd ((nI_pos' (by omega))) hb)
        refine ab_aload_n X 0 d_MO_satisfy_123 rfl rfl ?_
        refine ab_aload_n X 0 d_MO_satisfy_124 rfl rfl ?_
        refine ab_gR X fl_MO_75 d_MO_satisfy_125 (by first | assumption | decide | (show _ < 124; omega) | (show _ < 61; omega) | (show _ < 20; omega)) (P1.1.mo21) ?_
        refine ab_iconst (v := 0) X d_MO_satisfy_128 (by decide) ?_
        refine ab_iald X (0) ⟨rfl, rfl⟩ d_MO_satisfy_129 (by first | assumption | decide | (show _ < 124; omega) | (show _ < 61; omega) | (show _ < 20; omega)) (rfl) (show 0 < 72 by decide) (ab_ln_lt _ _) ?_
        refine ab_top d1 ?_
        refine ab_putI X fp_MO_108 d_MO_satisfy_130 (by first | assumption | decide | (show _ < 124; omega) | (show _ < 61; omega) | (show _ < 20; omega)) rfl rfl ?_
        refine ab_gen (fun u130 e130 => ?_)
        have P130 : gP [0, 26, 27, 29, 30, 32, 110, 111, 112, 113, 114, 115, 116, 117] u u130 := by rw [e130]; exact P1.ui rfl (by decide)
        refine ab_iconst (v := 0) X d_MO_satisfy_133 (by decide) ?_
        refine ab_istore1 X 0 d_MO_satisfy_134 (by decide) rfl rfl ?_
        exact copy xs hv (by omega) xs.length 0 _ (by omega) P130 (by rw [e130]; exact (ui_n _ (by omega)).trans t0) (by rw [e130]; exact ui_s _) (by rw [e130]; exact (ui_n _ (by omega)).trans d2) (fun i2 hi2 => by rw [e130]; refine (ui_n _ (by omega)).trans ?_; have := d3 i2 hi2; rw [Nat.mul_zero, Nat.zero_add] at this; exact this) (fun i2 hi2 => absurd hi2 (Nat.not_lt_zero i2))
    have out : ∀ (j : Nat) (u1 : ab_S), j ≤ P → gP [0, 26, 27, 29, 30, 110, 111, 112, 113, 114, 115, 116] u u1 → u1.1 17 0 0 = 0 → mS P (SV kd ar cn ch Y R (slf kd ar a1 a2 a3 a4)) R j u1 → ab_J p l e (ab_rm 6 0 0) s m args below meth c (MQ below (ab_Q D ca ad ab_nQ s.heap.size (fun u' v => (oP u u' ∧ u'.1 17 0 33 = u.1 17 0 33) ∧ ((u.1 17 0 4 = 0 ∧ u'.1 17 0 0 = 1 ∧ wSt u u' ∧ ∃ y : Int32, v = some (ab_I y)) ∨ (u.1 17 0 4 = 1 ∧ u'.1 17 0 0 = 0 ∧ (((SV kd ar cn ch Y R (slf kd ar a1 a2 a3 a4)) 0 0 = none ∧ wSt u u' ∧ v = some (ab_I (-1))) ∨ ∃ xs, (SV kd ar cn ch Y R (slf kd ar a1 a2 a3 a4)) 0 0 = some xs ∧ u'.1 17 0 32 = nI xs.length ∧ (∀ i, i < xs.length → u'.1 18 17 i = nI (xs.getD i 0)) ∧ v = some (ab_I (nI (wgt xs)))))))) args s 0 0 (ab_A ad ab_nQ s.heap.size)) D ca (ab_A ad ab_nQ s.heap.size) s.heap 8 0 0 ad ab_nQ u1 33 [(5, ab_I (nI j - 1)), (0, ab_O 17 0), (1, ab_I a1), (2, ab_I a2), (3, ab_I a3), (4, ab_I a4)] [] := by
      intro j
      induction j with
      | zero =>
        intro u1 hj P1 t0 S1
        refine ab_iload X 0 d_MO_satisfy_33 rfl ?_
        refine ab_if_lt X 112 d_MO_satisfy_35 rfl (fun _ => ?_) (fun hb => absurd ((by decide)) hb)
        refine ab_lv (List.forall_mem_cons.mpr ⟨List.mem_of_getElem? (i := 1) rfl, fun _ h => absurd h List.not_mem_nil⟩) ?_
        exact K112 _ P1 t0 S1
      | succ j ih =>
        intro u1 hj P1 t0 S1
        rw [nI_m1 (by omega), show j + 1 - 1 = j by omega]
        have hjP : j < P := by omega
        have lj := l10 j hjP
        obtain ⟨ek, ea, ec, ech⟩ := T.2 j hjP
        have kk := W.k17 hjP
        have wayj := fun i (hi : i < 3) => (F j hjP).way W hjP hi
        have ewj : ∀ i, i < 3 → u.1 18 5 (3 * j + i) = nI (Y j i).1 := fun i hi => ((MX j (Nat.zero_le _) hjP).2 i hi).1
        have in3 : ∀ (k i : Nat) (u2 : ab_S) (hd : Int32), (kd j < 5 → hd = hl (nI (kd j)) (nI (ar j)) a1 a2 a3 a4) → k + i = 3 → gP [0, 26, 27, 29, 30, 110, 111, 112, 113, 114, 115, 116] u u2 → u2.1 17 0 0 = 0 → mS P (SV kd ar cn ch Y R (slf kd ar a1 a2 a3 a4)) R (j + 1) u2 → md u2 j (R j) → (∀ i2, i2 < i → ms u2 (3 * j + i2) ((SV kd ar cn ch Y R (slf kd ar a1 a2 a3 a4)) j i2)) → ab_J p l e (ab_rm 6 0 0) s m args below meth c (MQ below (ab_Q D ca ad ab_nQ s.heap.size (fun u' v => (oP u u' ∧ u'.1 17 0 33 = u.1 17 0 33) ∧ ((u.1 17 0 4 = 0 ∧ u'.1 17 0 0 = 1 ∧ wSt u u' ∧ ∃ y : Int32, v = some (ab_I y)) ∨ (u.1 17 0 4 = 1 ∧ u'.1 17 0 0 = 0 ∧ (((SV kd ar cn ch Y R (slf kd ar a1 a2 a3 a4)) 0 0 = none ∧ wSt u u' ∧ v = some (ab_I (-1))) ∨ ∃ xs, (SV kd ar cn ch Y R (slf kd ar a1 a2 a3 a4)) 0 0 = some xs ∧ u'.1 17 0 32 = nI xs.length ∧ (∀ i, i < xs.length → u'.1 18 17 i = nI (xs.getD i 0)) ∧ v = some (ab_I (nI (wgt xs)))))))) args s 0 0 (ab_A ad ab_nQ s.heap.size)) D ca (ab_A ad ab_nQ s.heap.size) s.heap 8 0 0 ad ab_nQ u2 79 [(7, ab_I (nI i)), (6, ab_I hd), (5, ab_I (nI j)), (0, ab_O 17 0), (1, ab_I a1), (2, ab_I a2), (3, ab_I a3), (4, ab_I a4)] [] := by
          intro k
          induction k with
          | zero =>
            intro i u2 hd hh hi2 P2 t2 S2 d2 m2
            obtain rfl : i = 3 := by omega
            refine ab_iload X 0 d_MO_satisfy_79 rfl ?_
            refine ab_iconst (v := 3) X d_MO_satisfy_81 (by decide) ?_
            refine ab_icmp_ge X 106 d_MO_satisfy_82 rfl (fun _ => ?_) (fun hb => absurd ((by decide)) hb)
            refine ab_iinc7 X 2 0 1 3 4 5 6 7 d_MO_satisfy_106 rfl (by decide) rfl rfl rfl rfl rfl rfl rfl rfl rfl rfl rfl rfl rfl rfl ?_
            refine ab_goto X 33 d_MO_satisfy_109 rfl ?_
            refine ab_lv (List.forall_mem_cons.mpr ⟨List.mem_of_getElem? (i := 0) rfl, List.forall_mem_cons.mpr ⟨List.mem_of_getElem? (i := 3) rfl, List.forall_mem_cons.mpr ⟨List.mem_of_getElem? (i := 4) rfl, List.forall_mem_cons.mpr ⟨List.mem_of_getElem? (i := 5) rfl, List.forall_mem_cons.mpr ⟨List.mem_of_getElem? (i := 6) rfl, List.forall_mem_cons.mpr ⟨List.mem_of_getElem? (i := 7) rfl, fun _ h => absurd h List.not_mem_nil⟩⟩⟩⟩⟩⟩) ?_
            rw [show nI j + Int32.ofInt (-1) = nI j - 1 from by rw [Int32.sub_eq_add_neg]; rfl]
            exact ih _ (by omega) P2 t2 (fun q a b => by
              by_cases y : q = j
              · subst y; exact ⟨d2, m2⟩
              · exact S2 q (by omega) b)
          | succ k ih2 =>
            intro i u2 hd hh hi2 P2 t2 S2 d2 m2
            have hi3 : i < 3 := by omega
            have fx := SV_fix (H := slf kd ar a1 a2 a3 a4) W F hjP hi3
            refine ab_iload X 0 d_MO_satisfy_79 rfl ?_
            refine ab_iconst (v := 3) X d_MO_satisfy_81 (by decide) ?_
            refine ab_icmp_ge X 106 d_MO_satisfy_82 rfl (fun hb => absurd hb ((nI_ge (b := 3) (by omega) (by omega)))) (fun _ => ?_)
            refine ab_aload_n X 3 d_MO_satisfy_85 rfl rfl ?_
            refine ab_iload X 2 d_MO_satisfy_86 rfl ?_
            refine ab_iconst (v := 3) X d_MO_satisfy_88 (by decide) ?_
            refine ab_iload X 2 d_MO_satisfy_89 rfl ?_
            refine ab_imul X d_MO_satisfy_91 ?_
            refine ab_top (nI_3m _) ?_
            refine ab_iload X 0 d_MO_satisfy_92 rfl ?_
            refine ab_iadd X d_MO_satisfy_94 ?_
            refine ab_top (nI_add (3 * j) i) ?_
            refine ab_iload X 1 d_MO_satisfy_95 rfl ?_
            refine ab_callV (as := [ab_I (nI j), ab_I (nI (3 * j + i)), ab_I hd]) X (fun h => by cases h) (x_MO_satisfied u2 P kd ar cn lf ch W (T.fr P2 (by decide) (by decide) (by decide) (by decide) (by decide)) j i (Y j i).1 hjP hi3 a1 a2 a3 a4 R (SV kd ar cn ch Y R (slf kd ar a1 a2 a3 a4)) S2 (fun q _ hq => s2 q hq) (fun q _ hq => bR q hq) (fun hi0 => ⟨m2 0 hi0, by have := sB j hjP 0 (by decide); rw [if_pos rfl] at this; exact this⟩) (wayj i hi3).2.1 (P2.ai (by decide) (ewj i hi3)) (by rw [← fx]; exact s50 j hjP i hi3) hd hh P2.1) lk_MO_326 d_MO_satisfy_97 rfl rfl (by first | assumption | decide | (show _ < 124; omega) | (show _ < 61; omega) | (show _ < 20; omega)) ⟨by first | exact Nat.le_of_ble_eq_true rfl | (simp only [ab_rm]; omega), by first | exact Nat.le_of_ble_eq_true rfl | (simp only [ab_rm]; omega)⟩ ⟨by first | exact Nat.le_of_ble_eq_true rfl | (simp only [ab_rm]; omega), by first | exact Nat.le_of_ble_eq_true rfl | (simp only [ab_rm]; omega)⟩ (Nat.le_of_ble_eq_true rfl) (fun u97 r97 h97 => ?_)
            obtain ⟨⟨q97, o97, m97⟩, rfl⟩ := h97
            have P97 := P2.trans q97 (by decide)
            refine ab_iinc7 X 0 1 2 3 4 5 6 7 d_MO_satisfy_100 rfl (by decide) rfl rfl rfl rfl rfl rfl rfl rfl rfl rfl rfl rfl rfl rfl ?_
            refine ab_goto X 79 d_MO_satisfy_103 rfl ?_
            rw [show nI i + Int32.ofInt 1 = nI (i + 1) from nI_1 i]
            rw [← fx] at m97
            refine ih2 (i + 1) _ _ hh (by omega) P97 (q97.fi (by decide) t2) (fun q a b => ⟨(S2 q a b).1.fr q97 (by decide) (by decide), fun j2 hj2 => ((S2 q a b).2 j2 hj2).out q97 o97 (by omega) (s50 q b j2 hj2)⟩) (d2.fr q97 (by decide) (by decide)) (fun i2 hi2' => ?_)
            by_cases y : i2 = i
            · subst y; exact m97
            · exact (m2 i2 (by omega)).out q97 o97 (by omega) (s50 j hjP i2 (by omega))
        have K70 : ∀ (hd : Int32), (kd j < 5 → hd = hl (nI (kd j)) (nI (ar j)) a1 a2 a3 a4) → ab_J p l e (ab_rm 6 0 0) s m args below meth c (MQ below (ab_Q D ca ad ab_nQ s.heap.size (fun u' v => (oP u u' ∧ u'.1 17 0 33 = u.1 17 0 33) ∧ ((u.1 17 0 4 = 0 ∧ u'.1 17 0 0 = 1 ∧ wSt u u' ∧ ∃ y : Int32, v = some (ab_I y)) ∨ (u.1 17 0 4 = 1 ∧ u'.1 17 0 0 = 0 ∧ (((SV kd ar cn ch Y R (slf kd ar a1 a2 a3 a4)) 0 0 = none ∧ wSt u u' ∧ v = some (ab_I (-1))) ∨ ∃ xs, (SV kd ar cn ch Y R (slf kd ar a1 a2 a3 a4)) 0 0 = some xs ∧ u'.1 17 0 32 = nI xs.length ∧ (∀ i, i < xs.length → u'.1 18 17 i = nI (xs.getD i 0)) ∧ v = some (ab_I (nI (wgt xs)))))))) args s 0 0 (ab_A ad ab_nQ s.heap.size)) D ca (ab_A ad ab_nQ s.heap.size) s.heap 8 0 0 ad ab_nQ u1 70 [(6, ab_I hd), (5, ab_I (nI j)), (0, ab_O 17 0), (1, ab_I a1), (2, ab_I a2), (3, ab_I a3), (4, ab_I a4)] [] := by
          intro hd hh
          refine ab_aload_n X 2 d_MO_satisfy_70 rfl rfl ?_
          refine ab_iload X 1 d_MO_satisfy_71 rfl ?_
          refine ab_callV (as := [ab_I (nI j)]) X (fun h => by cases h) (x_MO_dissatisfied u1 P kd ar cn lf ch W (T.fr P1 (by decide) (by decide) (by decide) (by decide) (by decide)) j (Y j 1).1 hjP R (fun q a b => (S1 q (by omega) b).1) (fun q _ hq => bR q hq) (wayj 1 (by decide)).2.1 (P1.ai (by decide) (ewj 1 (by decide))) (by rw [← (F j hjP).2]; have := R50 j hjP; omega) P1.1) lk_MO_323 d_MO_satisfy_73 rfl rfl (by first | assumption | decide | (show _ < 124; omega) | (show _ < 61; omega) | (show _ < 20; omega)) ⟨by first | exact Nat.le_of_ble_eq_true rfl | (simp only [ab_rm]; omega), by first | exact Nat.le_of_ble_eq_true rfl | (simp only [ab_rm]; omega)⟩ ⟨by first | exact Nat.le_of_ble_eq_true rfl | (simp only [ab_rm]; omega), by first | exact Nat.le_of_ble_eq_true rfl | (simp only [ab_rm]; omega)⟩ (Nat.le_of_ble_eq_true rfl) (fun u73 r73 h73 => ?_)
          obtain ⟨⟨q73, o73, d73⟩, rfl⟩ := h73
          have P73 := P1.trans q73 (by decide)
          refine ab_iconst (v := 0) X d_MO_satisfy_76 (by decide) ?_
          refine ab_istore7 X 0 1 2 3 4 5 6 d_MO_satisfy_77 (by decide) rfl rfl rfl rfl rfl rfl rfl rfl rfl rfl rfl rfl rfl rfl ?_
          rw [← (F j hjP).2] at d73
          exact in3 3 0 _ _ hh rfl P73 (q73.fi (by decide) t0) (fun q a b => ⟨(S1 q a b).1.out o73 (by omega) (by have := R50 q b; omega), fun j2 hj2 => ((S1 q a b).2 j2 hj2).fr q73 (by decide) (by decide) (by decide)⟩) d73 (fun i2 hi2 => absurd hi2 (Nat.not_lt_zero i2))
        by_cases k5 : kd j < 5
        · have k4 : nI (kd j) = 1 ∨ nI (kd j) = 2 ∨ nI (kd j) = 3 ∨ nI (kd j) = 4 := by
            have q4 : kd j = 1 ∨ kd j = 2 ∨ kd j = 3 ∨ kd j = 4 := by omega
            rcases q4 with e | e | e | e <;> rw [e] <;> decide
          rcases (hl_b : hl (nI (kd j)) (nI (ar j)) a1 a2 a3 a4 = 0 ∨ hl (nI (kd j)) (nI (ar j)) a1 a2 a3 a4 = 1) with h0 | h0
          ·
            refine ab_iload X 0 d_MO_satisfy_33 rfl ?_
            refine ab_if_lt X 112 d_MO_satisfy_35 rfl (fun hb => absurd hb ((nI_pos (by omega)))) (fun _ => ?_)
            refine ab_aload_n X 1 d_MO_satisfy_38 rfl rfl ?_
            refine ab_gR X fl_MO_33 d_MO_satisfy_39 (by first | assumption | decide | (show _ < 124; omega) | (show _ < 61; omega) | (show _ < 20; omega)) (P1.1.mo7) ?_
            refine ab_iload X 0 d_MO_satisfy_42 rfl ?_
            refine ab_iald X (j) ⟨rfl, rfl⟩ d_MO_satisfy_44 (by first | assumption | decide | (show _ < 124; omega) | (show _ < 61; omega) | (show _ < 20; omega)) (rfl) (show j < 40 by omega) (ab_ln_lt _ _) ?_
            refine ab_top (P1.ai (by decide) ek) ?_
            refine ab_iconst (v := 5) X d_MO_satisfy_45 (by decide) ?_
            refine ab_icmp_ge X 67 d_MO_satisfy_46 rfl (fun hb => absurd hb ((nI_ge (b := 5) (by omega) (by decide)))) (fun _ => ?_)
            refine ab_aload_n X 1 d_MO_satisfy_49 rfl rfl ?_
            refine ab_iload X 0 d_MO_satisfy_50 rfl ?_
            refine ab_iload_n X 2 d_MO_satisfy_52 rfl rfl ?_
            refine ab_iload_n X 3 d_MO_satisfy_53 rfl rfl ?_
            refine ab_iload_n X 4 d_MO_satisfy_54 rfl rfl ?_
            refine ab_iload X 5 d_MO_satisfy_55 rfl ?_
            refine ab_callV (as := [ab_I (nI j), ab_I a1, ab_I a2, ab_I a3, ab_I a4]) X (fun h => by cases h) (t_MO_leafF u1 j _ _ a1 a2 a3 a4 P1.1 (by omega) (P1.ai (by decide) ek) (P1.ai (by decide) ea) k4) lk_MO_319 d_MO_satisfy_57 rfl rfl (by first | assumption | decide | (show _ < 124; omega) | (show _ < 61; omega) | (show _ < 20; omega)) ⟨by first | exact Nat.le_of_ble_eq_true rfl | (simp only [ab_rm]; omega), by first | exact Nat.le_of_ble_eq_true rfl | (simp only [ab_rm]; omega)⟩ ⟨by first | exact Nat.le_of_ble_eq_true rfl | (simp only [ab_rm]; omega), by first | exact Nat.le_of_ble_eq_true rfl | (simp only [ab_rm]; omega)⟩ (Nat.le_of_ble_eq_true rfl) (fun u57 r57 h57 => ?_)
            obtain ⟨e57, rfl⟩ := h57
            subst u57
            rw [h0]
            refine ab_if_eq X 67 d_MO_satisfy_60 rfl (fun _ => ?_) (fun hb => absurd (rfl) hb)
            refine ab_iconst (v := 0) X d_MO_satisfy_67 (by decide) ?_
            refine ab_istore6 X 0 1 2 3 4 5 d_MO_satisfy_68 (by decide) rfl rfl rfl rfl rfl rfl rfl rfl rfl rfl rfl rfl ?_
            exact K70 _ (fun _ => h0.symm)
          ·
            refine ab_iload X 0 d_MO_satisfy_33 rfl ?_
            refine ab_if_lt X 112 d_MO_satisfy_35 rfl (fun hb => absurd hb ((nI_pos (by omega)))) (fun _ => ?_)
            refine ab_aload_n X 1 d_MO_satisfy_38 rfl rfl ?_
            refine ab_gR X fl_MO_33 d_MO_satisfy_39 (by first | assumption | decide | (show _ < 124; omega) | (show _ < 61; omega) | (show _ < 20; omega)) (P1.1.mo7) ?_
            refine ab_iload X 0 d_MO_satisfy_42 rfl ?_
            refine ab_iald X (j) ⟨rfl, rfl⟩ d_MO_satisfy_44 (by first | assumption | decide | (show _ < 124; omega) | (show _ < 61; omega) | (show _ < 20; omega)) (rfl) (show j < 40 by omega) (ab_ln_lt _ _) ?_
            refine ab_top (P1.ai (by decide) ek) ?_
            refine ab_iconst (v := 5) X d_MO_satisfy_45 (by decide) ?_
            refine ab_icmp_ge X 67 d_MO_satisfy_46 rfl (fun hb => absurd hb ((nI_ge (b := 5) (by omega) (by decide)))) (fun _ => ?_)
            refine ab_aload_n X 1 d_MO_satisfy_49 rfl rfl ?_
            refine ab_iload X 0 d_MO_satisfy_50 rfl ?_
            refine ab_iload_n X 2 d_MO_satisfy_52 rfl rfl ?_
            refine ab_iload_n X 3 d_MO_satisfy_53 rfl rfl ?_
            refine ab_iload_n X 4 d_MO_satisfy_54 rfl rfl ?_
            refine ab_iload X 5 d_MO_satisfy_55 rfl ?_
            refine ab_callV (as := [ab_I (nI j), ab_I a1, ab_I a2, ab_I a3, ab_I a4]) X (fun h => by cases h) (t_MO_leafF u1 j _ _ a1 a2 a3 a4 P1.1 (by omega) (P1.ai (by decide) ek) (P1.ai (by decide) ea) k4) lk_MO_319 d_MO_satisfy_57 rfl rfl (by first | assumption | decide | (show _ < 124; omega) | (show _ < 61; omega) | (show _ < 20; omega)) ⟨by first | exact Nat.le_of_ble_eq_true rfl | (simp only [ab_rm]; omega), by first | exact Nat.le_of_ble_eq_true rfl | (simp only [ab_rm]; omega)⟩ ⟨by first | exact Nat.le_of_ble_eq_true rfl | (simp only [ab_rm]; omega), by first | exact Nat.le_of_ble_eq_true rfl | (simp only [ab_rm]; omega)⟩ (Nat.le_of_ble_eq_true rfl) (fun u57 r57 h57 => ?_)
            obtain ⟨e57, rfl⟩ := h57
            subst u57
            rw [h0]
            refine ab_if_eq X 67 d_MO_satisfy_60 rfl (fun hb => absurd hb ((by decide))) (fun _ => ?_)
            refine ab_iconst (v := 1) X d_MO_satisfy_63 (by decide) ?_
            refine ab_goto X 68 d_MO_satisfy_64 rfl ?_
            refine ab_istore6 X 0 1 2 3 4 5 d_MO_satisfy_68 (by decide) rfl rfl rfl rfl rfl rfl rfl rfl rfl rfl rfl rfl ?_
            exact K70 _ (fun _ => h0.symm)
        ·
          refine ab_iload X 0 d_MO_satisfy_33 rfl ?_
          refine ab_if_lt X 112 d_MO_satisfy_35 rfl (fun hb => absurd hb ((nI_pos (by omega)))) (fun _ => ?_)
          refine ab_aload_n X 1 d_MO_satisfy_38 rfl rfl ?_
          refine ab_gR X fl_MO_33 d_MO_satisfy_39 (by first | assumption | decide | (show _ < 124; omega) | (show _ < 61; omega) | (show _ < 20; omega)) (P1.1.mo7) ?_
          refine ab_iload X 0 d_MO_satisfy_42 rfl ?_
          refine ab_iald X (j) ⟨rfl, rfl⟩ d_MO_satisfy_44 (by first | assumption | decide | (show _ < 124; omega) | (show _ < 61; omega) | (show _ < 20; omega)) (rfl) (show j < 40 by omega) (ab_ln_lt _ _) ?_
          refine ab_top (P1.ai (by decide) ek) ?_
          refine ab_iconst (v := 5) X d_MO_satisfy_45 (by decide) ?_
          refine ab_icmp_ge X 67 d_MO_satisfy_46 rfl (fun _ => ?_) (fun hb => absurd ((nI_le (a := 5) (by omega) (by omega))) hb)
          refine ab_iconst (v := 0) X d_MO_satisfy_67 (by decide) ?_
          refine ab_istore6 X 0 1 2 3 4 5 d_MO_satisfy_68 (by decide) rfl rfl rfl rfl rfl rfl rfl rfl rfl rfl rfl rfl ?_
          exact K70 _ (fun y => absurd y k5)
    refine ab_aload_n X 0 d_MO_satisfy_0 rfl rfl ?_
    refine ab_aload_n X 0 d_MO_satisfy_1 rfl rfl ?_
    refine ab_gI X fl_MO_23 d_MO_satisfy_2 (by first | assumption | decide | (show _ < 124; omega) | (show _ < 61; omega) | (show _ < 20; omega)) (z) ?_
    refine ab_if_eq X 12 d_MO_satisfy_5 rfl (fun hb => absurd hb ((by decide))) (fun _ => ?_)
    refine ab_iconst (v := 0) X d_MO_satisfy_8 (by decide) ?_
    refine ab_goto X 13 d_MO_satisfy_9 rfl ?_
    refine ab_putI X fp_MO_7 d_MO_satisfy_13 (by first | assumption | decide | (show _ < 124; omega) | (show _ < 61; omega) | (show _ < 20; omega)) rfl rfl ?_
    refine ab_gen (fun u13 e13 => ?_)
    have P13 : gP [0, 26, 27, 29, 30, 110, 111, 112, 113, 114, 115, 116] u u13 := by rw [e13]; exact (gP.rf hm : gP [0, 26, 27, 29, 30, 110, 111, 112, 113, 114, 115, 116] u u).ui rfl (by decide)
    refine ab_aload_n X 0 d_MO_satisfy_16 rfl rfl ?_
    refine ab_gI X fl_MO_23 d_MO_satisfy_17 (by first | assumption | decide | (show _ < 124; omega) | (show _ < 61; omega) | (show _ < 20; omega)) ((show _ = (1 : Int32) by rw [e13]; exact (ui_n _ (by omega)).trans z)) ?_
    refine ab_if_ne X 25 d_MO_satisfy_20 rfl (fun _ => ?_) (fun hb => absurd hb ((by decide)))
    refine ab_aload_n X 0 d_MO_satisfy_25 rfl rfl ?_
    refine ab_gI X fl_MO_27 d_MO_satisfy_26 (by first | assumption | decide | (show _ < 124; omega) | (show _ < 61; omega) | (show _ < 20; omega)) (P13.fi (by decide) T.1) ?_
    refine ab_iconst (v := 1) X d_MO_satisfy_29 (by decide) ?_
    refine ab_isub X d_MO_satisfy_30 ?_
    refine ab_istore5 X 0 1 2 3 4 d_MO_satisfy_31 (by decide) rfl rfl rfl rfl rfl rfl rfl rfl rfl rfl ?_
    exact out P _ (Nat.le_refl _) P13 (by rw [e13]; exact ui_s _) (fun q a b => absurd a (by omega))
end SaSMTop

