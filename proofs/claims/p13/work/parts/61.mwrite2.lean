/-! The reference's forms of a part. -/
section SaMWrite2
variable {l : Launch} {D : va_G} {ca : Nat → ClassId}
set_option maxRecDepth 100000 in
set_option maxHeartbeats 1000000 in
theorem s_MO_writeMore18 (u0 u : ab_S) (P : Nat) (kd ar cn lf : Nat → Nat) (ch : Nat → Nat → Nat) (W : tW P kd ar cn lf ch) (T : tR P kd ar cn ch u0) (p1 j : Nat) (a b : Int32) (hp : p1 < P) (hj : j < 3) (hk : kd p1 = 7) (G : ∀ c, p1 < c → c < P → fG u0 (3 * c) (lf c - 1) ∧ fG u0 (3 * c + 1) (lf c - 1) ∧ fG u0 (3 * c + 2) (lf c - 1)) (hK : wl u0 p1 (cn p1) (ch p1) 18 ≤ 100) (h : wr u0 u (100 * (3 * p1 + j)) 0 []) : ab_C false l D ca y_MO_writeMore b_MO_writeMore 6 none 2 ab_nQ u [ab_O 17 0, ab_I (nI p1), ab_I (nI 18), ab_I a, ab_I b] (fun u' v => (∃ L, wr u0 u' (100 * (3 * p1 + j)) (wl u0 p1 (cn p1) (ch p1) 18) L ∧ bal L ∧ cas L ≤ lf p1 - 1) ∧ v = none) := by
  refine ab_C.of (by decide) (Nat.le_of_ble_eq_true rfl) ?_
  intro p e s m args below meth c ad X hZ hr0 hlk
  have P0 := h.1
  have hP19 := W.2.1
  obtain ⟨-, -, a3⟩ := W.2.2 p1 hp
  obtain ⟨n2, n4, -, -, b5, b6⟩ := a3 (by omega)
  obtain ⟨-, ea, ec, ech⟩ := T.2 p1 hp
  have hK7 : sm (fun i => if i + 1 < cn p1 then lnu u0 (3 * ch p1 i + 2) else lnu u0 (3 * ch p1 i)) (cn p1) ≤ 100 := hK
  have loop : ∀ (k i : Nat) (u1 : ab_S) (L : List Int32), i + k = cn p1 → wr u0 u1 (100 * (3 * p1 + j)) (sm (fun i => if i + 1 < cn p1 then lnu u0 (3 * ch p1 i + 2) else lnu u0 (3 * ch p1 i)) i) L → bal L → cas L + i ≤ sm (fun i => lf (ch p1 i)) i → ab_J p l e (ab_rm 2 0 0) s m args below meth c (MQ below (ab_Q D ca ad ab_nQ s.heap.size (fun u' v => (∃ L, wr u0 u' (100 * (3 * p1 + j)) (wl u0 p1 (cn p1) (ch p1) 18) L ∧ bal L ∧ cas L ≤ lf p1 - 1) ∧ v = none)) args s 0 0 (ab_A ad ab_nQ s.heap.size)) D ca (ab_A ad ab_nQ s.heap.size) s.heap 6 0 0 ad ab_nQ u1 126 [(5, ab_I (nI i)), (0, ab_O 17 0), (1, ab_I (nI p1)), (2, ab_I (nI 18)), (3, ab_I a), (4, ab_I b)] [] := by
    intro k
    induction k with
    | zero =>
      intro i u1 L hi hw hb hc
      obtain rfl : i = cn p1 := by omega
      have P1 := hw.1
      refine ab_iload X 0 d_MO_writeMore_126 rfl ?_
      refine ab_aload_n X 1 d_MO_writeMore_128 rfl rfl ?_
      refine ab_gR X fl_MO_39 d_MO_writeMore_129 (by first | assumption | decide | (show _ < 124; omega) | (show _ < 61; omega) | (show _ < 20; omega)) (P1.1.mo9) ?_
      refine ab_iload_n X 2 d_MO_writeMore_132 rfl rfl ?_
      refine ab_iald X (p1) ⟨rfl, rfl⟩ d_MO_writeMore_133 (by first | assumption | decide | (show _ < 124; omega) | (show _ < 61; omega) | (show _ < 20; omega)) (rfl) (show p1 < 40 by omega) (ab_ln_lt _ _) ?_
      refine ab_top (hw.1.ai (by decide) ec) ?_
      refine ab_icmp_ge X 197 d_MO_writeMore_134 rfl (fun _ => ?_) (fun hb => absurd ((nI_le (Nat.le_refl _) (by omega))) hb)
      refine ab_iload_n X 3 d_MO_writeMore_197 rfl rfl ?_
      refine ab_bipush (v := 22) X d_MO_writeMore_198 (by decide) ?_
      refine ab_icmp_ne X 234 d_MO_writeMore_200 rfl (fun _ => ?_) (fun hb => absurd hb ((by decide)))
      refine ab_iload_n X 3 d_MO_writeMore_234 rfl rfl ?_
      refine ab_bipush (v := 23) X d_MO_writeMore_235 (by decide) ?_
      refine ab_icmp_ne X 253 d_MO_writeMore_237 rfl (fun _ => ?_) (fun hb => absurd hb ((by decide)))
      refine ab_iload_n X 3 d_MO_writeMore_253 rfl rfl ?_
      refine ab_bipush (v := 24) X d_MO_writeMore_254 (by decide) ?_
      refine ab_icmp_ne X 273 d_MO_writeMore_256 rfl (fun _ => ?_) (fun hb => absurd hb ((by decide)))
      exact ab_retv X hr0 hlk d_MO_writeMore_273 ⟨⟨_, hw, hb, by omega⟩, rfl⟩
    | succ k ih =>
      intro i u1 L hi hw hb hc
      obtain ⟨c1, c2⟩ := b5 i (by omega)
      obtain ⟨g0, -, g2⟩ := G _ c1 c2
      have lc := (W.2.2 _ c2).1.1
      have hs : sm (fun i => if i + 1 < cn p1 then lnu u0 (3 * ch p1 i + 2) else lnu u0 (3 * ch p1 i)) (i + 1) = sm (fun i => if i + 1 < cn p1 then lnu u0 (3 * ch p1 i + 2) else lnu u0 (3 * ch p1 i)) i + (if i + 1 < cn p1 then lnu u0 (3 * ch p1 i + 2) else lnu u0 (3 * ch p1 i)) := rfl
      have hs2 := sm_mono (fun i => if i + 1 < cn p1 then lnu u0 (3 * ch p1 i + 2) else lnu u0 (3 * ch p1 i)) (show i + 1 ≤ cn p1 by omega)
      have hs3 : sm (fun i => lf (ch p1 i)) (i + 1) = sm (fun i => lf (ch p1 i)) i + lf (ch p1 i) := rfl
      have P1 := hw.1
      by_cases hl : i + 1 < cn p1
      · rw [if_pos hl] at hs
        refine ab_iload X 0 d_MO_writeMore_126 rfl ?_
        refine ab_aload_n X 1 d_MO_writeMore_128 rfl rfl ?_
        refine ab_gR X fl_MO_39 d_MO_writeMore_129 (by first | assumption | decide | (show _ < 124; omega) | (show _ < 61; omega) | (show _ < 20; omega)) (P1.1.mo9) ?_
        refine ab_iload_n X 2 d_MO_writeMore_132 rfl rfl ?_
        refine ab_iald X (p1) ⟨rfl, rfl⟩ d_MO_writeMore_133 (by first | assumption | decide | (show _ < 124; omega) | (show _ < 61; omega) | (show _ < 20; omega)) (rfl) (show p1 < 40 by omega) (ab_ln_lt _ _) ?_
        refine ab_top (hw.1.ai (by decide) ec) ?_
        refine ab_icmp_ge X 197 d_MO_writeMore_134 rfl (fun hb => absurd hb ((nI_ge (by omega) (by omega)))) (fun _ => ?_)
        refine ab_iload_n X 3 d_MO_writeMore_137 rfl rfl ?_
        refine ab_bipush (v := 18) X d_MO_writeMore_138 (by decide) ?_
        refine ab_icmp_ne X 197 d_MO_writeMore_140 rfl (fun hb => absurd ((by decide)) hb) (fun _ => ?_)
        refine ab_aload_n X 1 d_MO_writeMore_143 rfl rfl ?_
        refine ab_iload X 0 d_MO_writeMore_144 rfl ?_
        refine ab_iconst (v := 1) X d_MO_writeMore_146 (by decide) ?_
        refine ab_iadd X d_MO_writeMore_147 ?_
        refine ab_top (nI_1 _) ?_
        refine ab_aload_n X 1 d_MO_writeMore_148 rfl rfl ?_
        refine ab_gR X fl_MO_39 d_MO_writeMore_149 (by first | assumption | decide | (show _ < 124; omega) | (show _ < 61; omega) | (show _ < 20; omega)) (P1.1.mo9) ?_
        refine ab_iload_n X 2 d_MO_writeMore_152 rfl rfl ?_
        refine ab_iald X (p1) ⟨rfl, rfl⟩ d_MO_writeMore_153 (by first | assumption | decide | (show _ < 124; omega) | (show _ < 61; omega) | (show _ < 20; omega)) (rfl) (show p1 < 40 by omega) (ab_ln_lt _ _) ?_
        refine ab_top (hw.1.ai (by decide) ec) ?_
        refine ab_icmp_ge X 174 d_MO_writeMore_154 rfl (fun hb => absurd hb ((nI_ge (by omega) (by omega)))) (fun _ => ?_)
        refine ab_aload_n X 1 d_MO_writeMore_157 rfl rfl ?_
        refine ab_gR X fl_MO_42 d_MO_writeMore_158 (by first | assumption | decide | (show _ < 124; omega) | (show _ < 61; omega) | (show _ < 20; omega)) (P1.1.mo10) ?_
        refine ab_iconst (v := 4) X d_MO_writeMore_161 (by decide) ?_
        refine ab_iload_n X 2 d_MO_writeMore_162 rfl rfl ?_
        refine ab_imul X d_MO_writeMore_163 ?_
        refine ab_iload X 0 d_MO_writeMore_164 rfl ?_
        refine ab_iadd X d_MO_writeMore_166 ?_
        refine ab_iald X (4 * p1 + i) ⟨rfl, rfl⟩ d_MO_writeMore_167 (by first | assumption | decide | (show _ < 124; omega) | (show _ < 61; omega) | (show _ < 20; omega)) (nI_4a p1 i) (show 4 * p1 + i < 160 by omega) (ab_ln_lt _ _) ?_
        refine ab_top (hw.1.ai (by decide) (ech i (by omega))) ?_
        refine ab_callS (as := [ab_I (nI (ch p1 i))]) X (fun h => by cases h) (t_MO_v u1 (ch p1 i)) ls_MO_201 d_MO_writeMore_168 rfl rfl ⟨by first | exact Nat.le_of_ble_eq_true rfl | (simp only [ab_rm]; omega), by first | exact Nat.le_of_ble_eq_true rfl | (simp only [ab_rm]; omega)⟩ ⟨by first | exact Nat.le_of_ble_eq_true rfl | (simp only [ab_rm]; omega), by first | exact Nat.le_of_ble_eq_true rfl | (simp only [ab_rm]; omega)⟩ (Nat.le_of_ble_eq_true rfl) (fun u168 r168 h168 => ?_)
        obtain ⟨e168, rfl⟩ := h168
        subst u168
        refine ab_goto X 188 d_MO_writeMore_171 rfl ?_
        refine ab_callV (as := [ab_I (nI (3 * ch p1 i + 2))]) X (fun h => by cases h) (s_MO_sayForm u0 u1 _ _ _ hw (by omega) (3 * ch p1 i + 2) (lnu u0 (3 * ch p1 i + 2)) (by omega) g2.1.2.2 (by omega) g2.1.1 (by omega)) lk_MO_239 d_MO_writeMore_188 rfl rfl (by first | assumption | decide | (show _ < 124; omega) | (show _ < 61; omega) | (show _ < 20; omega)) ⟨by first | exact Nat.le_of_ble_eq_true rfl | (simp only [ab_rm]; omega), by first | exact Nat.le_of_ble_eq_true rfl | (simp only [ab_rm]; omega)⟩ ⟨by first | exact Nat.le_of_ble_eq_true rfl | (simp only [ab_rm]; omega), by first | exact Nat.le_of_ble_eq_true rfl | (simp only [ab_rm]; omega)⟩ (Nat.le_of_ble_eq_true rfl) (fun u188 r188 h188 => ?_)
        obtain ⟨q188, rfl⟩ := h188
        have P188 := q188.1
        refine ab_iinc5 X 0 1 2 3 4 5 d_MO_writeMore_191 rfl (by decide) rfl rfl rfl rfl rfl rfl rfl rfl rfl rfl ?_
        refine ab_goto X 126 d_MO_writeMore_194 rfl ?_
        rw [show nI i + Int32.ofInt 1 = nI (i + 1) from nI_1 i]
        exact ih (i + 1) _ _ (by omega) (q188.cast hs.symm) (hb.app g2.2.1) (by have := g2.2.2; rw [cas_app]; omega)
      · rw [if_neg hl] at hs
        refine ab_iload X 0 d_MO_writeMore_126 rfl ?_
        refine ab_aload_n X 1 d_MO_writeMore_128 rfl rfl ?_
        refine ab_gR X fl_MO_39 d_MO_writeMore_129 (by first | assumption | decide | (show _ < 124; omega) | (show _ < 61; omega) | (show _ < 20; omega)) (P1.1.mo9) ?_
        refine ab_iload_n X 2 d_MO_writeMore_132 rfl rfl ?_
        refine ab_iald X (p1) ⟨rfl, rfl⟩ d_MO_writeMore_133 (by first | assumption | decide | (show _ < 124; omega) | (show _ < 61; omega) | (show _ < 20; omega)) (rfl) (show p1 < 40 by omega) (ab_ln_lt _ _) ?_
        refine ab_top (hw.1.ai (by decide) ec) ?_
        refine ab_icmp_ge X 197 d_MO_writeMore_134 rfl (fun hb => absurd hb ((nI_ge (by omega) (by omega)))) (fun _ => ?_)
        refine ab_iload_n X 3 d_MO_writeMore_137 rfl rfl ?_
        refine ab_bipush (v := 18) X d_MO_writeMore_138 (by decide) ?_
        refine ab_icmp_ne X 197 d_MO_writeMore_140 rfl (fun hb => absurd ((by decide)) hb) (fun _ => ?_)
        refine ab_aload_n X 1 d_MO_writeMore_143 rfl rfl ?_
        refine ab_iload X 0 d_MO_writeMore_144 rfl ?_
        refine ab_iconst (v := 1) X d_MO_writeMore_146 (by decide) ?_
        refine ab_iadd X d_MO_writeMore_147 ?_
        refine ab_top (nI_1 _) ?_
        refine ab_aload_n X 1 d_MO_writeMore_148 rfl rfl ?_
        refine ab_gR X fl_MO_39 d_MO_writeMore_149 (by first | assumption | decide | (show _ < 124; omega) | (show _ < 61; omega) | (show _ < 20; omega)) (P1.1.mo9) ?_
        refine ab_iload_n X 2 d_MO_writeMore_152 rfl rfl ?_
        refine ab_iald X (p1) ⟨rfl, rfl⟩ d_MO_writeMore_153 (by first | assumption | decide | (show _ < 124; omega) | (show _ < 61; omega) | (show _ < 20; omega)) (rfl) (show p1 < 40 by omega) (ab_ln_lt _ _) ?_
        refine ab_top (hw.1.ai (by decide) ec) ?_
        refine ab_icmp_ge X 174 d_MO_writeMore_154 rfl (fun _ => ?_) (fun hb => absurd ((nI_le (by omega) (by omega))) hb)
        refine ab_aload_n X 1 d_MO_writeMore_174 rfl rfl ?_
        refine ab_gR X fl_MO_42 d_MO_writeMore_175 (by first | assumption | decide | (show _ < 124; omega) | (show _ < 61; omega) | (show _ < 20; omega)) (P1.1.mo10) ?_
        refine ab_iconst (v := 4) X d_MO_writeMore_178 (by decide) ?_
        refine ab_iload_n X 2 d_MO_writeMore_179 rfl rfl ?_
        refine ab_imul X d_MO_writeMore_180 ?_
        refine ab_iload X 0 d_MO_writeMore_181 rfl ?_
        refine ab_iadd X d_MO_writeMore_183 ?_
        refine ab_iald X (4 * p1 + i) ⟨rfl, rfl⟩ d_MO_writeMore_184 (by first | assumption | decide | (show _ < 124; omega) | (show _ < 61; omega) | (show _ < 20; omega)) (nI_4a p1 i) (show 4 * p1 + i < 160 by omega) (ab_ln_lt _ _) ?_
        refine ab_top (hw.1.ai (by decide) (ech i (by omega))) ?_
        refine ab_callS (as := [ab_I (nI (ch p1 i))]) X (fun h => by cases h) (t_MO_b u1 (ch p1 i)) ls_MO_204 d_MO_writeMore_185 rfl rfl ⟨by first | exact Nat.le_of_ble_eq_true rfl | (simp only [ab_rm]; omega), by first | exact Nat.le_of_ble_eq_true rfl | (simp only [ab_rm]; omega)⟩ ⟨by first | exact Nat.le_of_ble_eq_true rfl | (simp only [ab_rm]; omega), by first | exact Nat.le_of_ble_eq_true rfl | (simp only [ab_rm]; omega)⟩ (Nat.le_of_ble_eq_true rfl) (fun u185 r185 h185 => ?_)
        obtain ⟨e185, rfl⟩ := h185
        subst u185
        refine ab_callV (as := [ab_I (nI (3 * ch p1 i))]) X (fun h => by cases h) (s_MO_sayForm u0 u1 _ _ _ hw (by omega) (3 * ch p1 i) (lnu u0 (3 * ch p1 i)) (by omega) g0.1.2.2 (by omega) g0.1.1 (by omega)) lk_MO_239 d_MO_writeMore_188 rfl rfl (by first | assumption | decide | (show _ < 124; omega) | (show _ < 61; omega) | (show _ < 20; omega)) ⟨by first | exact Nat.le_of_ble_eq_true rfl | (simp only [ab_rm]; omega), by first | exact Nat.le_of_ble_eq_true rfl | (simp only [ab_rm]; omega)⟩ ⟨by first | exact Nat.le_of_ble_eq_true rfl | (simp only [ab_rm]; omega), by first | exact Nat.le_of_ble_eq_true rfl | (simp only [ab_rm]; omega)⟩ (Nat.le_of_ble_eq_true rfl) (fun u188 r188 h188 => ?_)
        obtain ⟨q188, rfl⟩ := h188
        have P188 := q188.1
        refine ab_iinc5 X 0 1 2 3 4 5 d_MO_writeMore_191 rfl (by decide) rfl rfl rfl rfl rfl rfl rfl rfl rfl rfl ?_
        refine ab_goto X 126 d_MO_writeMore_194 rfl ?_
        rw [show nI i + Int32.ofInt 1 = nI (i + 1) from nI_1 i]
        exact ih (i + 1) _ _ (by omega) (q188.cast hs.symm) (hb.app g0.2.1) (by have := g0.2.2; rw [cas_app]; omega)
  refine ab_iload_n X 2 d_MO_writeMore_0 rfl rfl ?_
  refine ab_bipush (v := 13) X d_MO_writeMore_1 (by decide) ?_
  refine ab_icmp_eq X 12 d_MO_writeMore_3 rfl (fun hb => absurd hb ((by decide))) (fun _ => ?_)
  refine ab_iload_n X 2 d_MO_writeMore_6 rfl rfl ?_
  refine ab_bipush (v := 21) X d_MO_writeMore_7 (by decide) ?_
  refine ab_icmp_ne X 43 d_MO_writeMore_9 rfl (fun _ => ?_) (fun hb => absurd hb ((by decide)))
  refine ab_iload_n X 2 d_MO_writeMore_43 rfl rfl ?_
  refine ab_bipush (v := 14) X d_MO_writeMore_44 (by decide) ?_
  refine ab_icmp_ne X 66 d_MO_writeMore_46 rfl (fun _ => ?_) (fun hb => absurd hb ((by decide)))
  refine ab_iload_n X 2 d_MO_writeMore_66 rfl rfl ?_
  refine ab_bipush (v := 15) X d_MO_writeMore_67 (by decide) ?_
  refine ab_icmp_ne X 85 d_MO_writeMore_69 rfl (fun _ => ?_) (fun hb => absurd hb ((by decide)))
  refine ab_iload_n X 2 d_MO_writeMore_85 rfl rfl ?_
  refine ab_bipush (v := 16) X d_MO_writeMore_86 (by decide) ?_
  refine ab_icmp_ne X 104 d_MO_writeMore_88 rfl (fun _ => ?_) (fun hb => absurd hb ((by decide)))
  refine ab_iload_n X 2 d_MO_writeMore_104 rfl rfl ?_
  refine ab_bipush (v := 17) X d_MO_writeMore_105 (by decide) ?_
  refine ab_icmp_ne X 123 d_MO_writeMore_107 rfl (fun _ => ?_) (fun hb => absurd hb ((by decide)))
  refine ab_iconst (v := 0) X d_MO_writeMore_123 (by decide) ?_
  refine ab_istore5 X 0 1 2 3 4 d_MO_writeMore_124 (by decide) rfl rfl rfl rfl rfl rfl rfl rfl rfl rfl ?_
  exact loop (cn p1) 0 _ [] (by omega) h bal_nil (Nat.le_refl _)
set_option maxRecDepth 100000 in
set_option maxHeartbeats 1000000 in
theorem s_MO_writeMore24 (u0 u : ab_S) (p1 j k0 : Nat) (a b : Int32) (hp : p1 < 19) (hj : j < 3) (hj0 : 0 < j) (G : fG u0 (3 * p1) k0) (hK : lnu u0 (3 * p1) + 1 ≤ 100) (h : wr u0 u (100 * (3 * p1 + j)) 0 []) : ab_C false l D ca y_MO_writeMore b_MO_writeMore 6 none 2 ab_nQ u [ab_O 17 0, ab_I (nI p1), ab_I (nI 24), ab_I a, ab_I b] (fun u' v => (∃ L, wr u0 u' (100 * (3 * p1 + j)) (lnu u0 (3 * p1) + 1) L ∧ bal L ∧ cas L ≤ k0) ∧ v = none) := by
  refine ab_C.of (by decide) (Nat.le_of_ble_eq_true rfl) ?_
  intro p e s m args below meth c ad X hZ hr0 hlk
  have P0 := h.1
  refine ab_iload_n X 2 d_MO_writeMore_0 rfl rfl ?_
  refine ab_bipush (v := 13) X d_MO_writeMore_1 (by decide) ?_
  refine ab_icmp_eq X 12 d_MO_writeMore_3 rfl (fun hb => absurd hb ((by decide))) (fun _ => ?_)
  refine ab_iload_n X 2 d_MO_writeMore_6 rfl rfl ?_
  refine ab_bipush (v := 21) X d_MO_writeMore_7 (by decide) ?_
  refine ab_icmp_ne X 43 d_MO_writeMore_9 rfl (fun _ => ?_) (fun hb => absurd hb ((by decide)))
  refine ab_iload_n X 2 d_MO_writeMore_43 rfl rfl ?_
  refine ab_bipush (v := 14) X d_MO_writeMore_44 (by decide) ?_
  refine ab_icmp_ne X 66 d_MO_writeMore_46 rfl (fun _ => ?_) (fun hb => absurd hb ((by decide)))
  refine ab_iload_n X 2 d_MO_writeMore_66 rfl rfl ?_
  refine ab_bipush (v := 15) X d_MO_writeMore_67 (by decide) ?_
  refine ab_icmp_ne X 85 d_MO_writeMore_69 rfl (fun _ => ?_) (fun hb => absurd hb ((by decide)))
  refine ab_iload_n X 2 d_MO_writeMore_85 rfl rfl ?_
  refine ab_bipush (v := 16) X d_MO_writeMore_86 (by decide) ?_
  refine ab_icmp_ne X 104 d_MO_writeMore_88 rfl (fun _ => ?_) (fun hb => absurd hb ((by decide)))
  refine ab_iload_n X 2 d_MO_writeMore_104 rfl rfl ?_
  refine ab_bipush (v := 17) X d_MO_writeMore_105 (by decide) ?_
  refine ab_icmp_ne X 123 d_MO_writeMore_107 rfl (fun _ => ?_) (fun hb => absurd hb ((by decide)))
  refine ab_iconst (v := 0) X d_MO_writeMore_123 (by decide) ?_
  refine ab_istore5 X 0 1 2 3 4 d_MO_writeMore_124 (by decide) rfl rfl rfl rfl rfl rfl rfl rfl rfl rfl ?_
  refine ab_iload X 0 d_MO_writeMore_126 rfl ?_
  refine ab_aload_n X 1 d_MO_writeMore_128 rfl rfl ?_
  refine ab_gR X fl_MO_39 d_MO_writeMore_129 (by first | assumption | decide | (show _ < 124; omega) | (show _ < 61; omega) | (show _ < 20; omega)) (P0.1.mo9) ?_
  refine ab_iload_n X 2 d_MO_writeMore_132 rfl rfl ?_
  refine ab_iald X (p1) ⟨rfl, rfl⟩ d_MO_writeMore_133 (by first | assumption | decide | (show _ < 124; omega) | (show _ < 61; omega) | (show _ < 20; omega)) (rfl) (show p1 < 40 by omega) (ab_ln_lt _ _) ?_
  refine ab_icmp_ge X 197 d_MO_writeMore_134 rfl (fun h134 => ?_) (fun h134 => ?_)
  ·
    refine ab_iload_n X 3 d_MO_writeMore_197 rfl rfl ?_
    refine ab_bipush (v := 22) X d_MO_writeMore_198 (by decide) ?_
    refine ab_icmp_ne X 234 d_MO_writeMore_200 rfl (fun _ => ?_) (fun hb => absurd hb ((by decide)))
    refine ab_iload_n X 3 d_MO_writeMore_234 rfl rfl ?_
    refine ab_bipush (v := 23) X d_MO_writeMore_235 (by decide) ?_
    refine ab_icmp_ne X 253 d_MO_writeMore_237 rfl (fun _ => ?_) (fun hb => absurd hb ((by decide)))
    refine ab_iload_n X 3 d_MO_writeMore_253 rfl rfl ?_
    refine ab_bipush (v := 24) X d_MO_writeMore_254 (by decide) ?_
    refine ab_icmp_ne X 273 d_MO_writeMore_256 rfl (fun hb => absurd ((by decide)) hb) (fun _ => ?_)
    refine ab_aload_n X 1 d_MO_writeMore_259 rfl rfl ?_
    refine ab_iload_n X 2 d_MO_writeMore_260 rfl rfl ?_
    refine ab_callS (as := [ab_I (nI p1)]) X (fun h => by cases h) (t_MO_b u p1) ls_MO_204 d_MO_writeMore_261 rfl rfl ⟨by first | exact Nat.le_of_ble_eq_true rfl | (simp only [ab_rm]; omega), by first | exact Nat.le_of_ble_eq_true rfl | (simp only [ab_rm]; omega)⟩ ⟨by first | exact Nat.le_of_ble_eq_true rfl | (simp only [ab_rm]; omega), by first | exact Nat.le_of_ble_eq_true rfl | (simp only [ab_rm]; omega)⟩ (Nat.le_of_ble_eq_true rfl) (fun u261 r261 h261 => ?_)
    obtain ⟨e261, rfl⟩ := h261
    subst u261
    refine ab_callV (as := [ab_I (nI (3 * p1))]) X (fun h => by cases h) (s_MO_sayForm u0 u _ _ _ h (by omega) (3 * p1) (lnu u0 (3 * p1)) (by omega) G.1.2.2 (by omega) G.1.1 (by omega)) lk_MO_239 d_MO_writeMore_264 rfl rfl (by first | assumption | decide | (show _ < 124; omega) | (show _ < 61; omega) | (show _ < 20; omega)) ⟨by first | exact Nat.le_of_ble_eq_true rfl | (simp only [ab_rm]; omega), by first | exact Nat.le_of_ble_eq_true rfl | (simp only [ab_rm]; omega)⟩ ⟨by first | exact Nat.le_of_ble_eq_true rfl | (simp only [ab_rm]; omega), by first | exact Nat.le_of_ble_eq_true rfl | (simp only [ab_rm]; omega)⟩ (Nat.le_of_ble_eq_true rfl) (fun u264 r264 h264 => ?_)
    obtain ⟨q264, rfl⟩ := h264
    have P264 := q264.1
    refine ab_aload_n X 1 d_MO_writeMore_267 rfl rfl ?_
    refine ab_iconst (v := 5) X d_MO_writeMore_268 (by decide) ?_
    refine ab_iconst (v := 0) X d_MO_writeMore_269 (by decide) ?_
    refine ab_callV (as := [ab_I (nI 5), ab_I (nI 0)]) X (fun h => by cases h) (s_MO_say u0 u264 _ _ _ q264 (by omega) (by omega) 5 0 (by decide) (by decide)) lk_MO_242 d_MO_writeMore_270 rfl rfl (by first | assumption | decide | (show _ < 124; omega) | (show _ < 61; omega) | (show _ < 20; omega)) ⟨by first | exact Nat.le_of_ble_eq_true rfl | (simp only [ab_rm]; omega), by first | exact Nat.le_of_ble_eq_true rfl | (simp only [ab_rm]; omega)⟩ ⟨by first | exact Nat.le_of_ble_eq_true rfl | (simp only [ab_rm]; omega), by first | exact Nat.le_of_ble_eq_true rfl | (simp only [ab_rm]; omega)⟩ (Nat.le_of_ble_eq_true rfl) (fun u270 r270 h270 => ?_)
    obtain ⟨q270, rfl⟩ := h270
    have P270 := q270.1
    exact ab_retv X hr0 hlk d_MO_writeMore_273 ⟨⟨_, q270.cast (by omega), bal_p G.2.1 (by decide) (by decide) (by decide) (by decide), (by have := G.2.2; simp only [List.nil_append, cas_app, cas_nil, cas_10, cas_1, cas_2, cas_3, cas_4, cas_5, cas_6, cas_7, cas_8, cas_9, cas_11, cas_12, cas_13, cas_14, cas_15, cas_16, cas_17]; omega)⟩, rfl⟩
  ·
    refine ab_iload_n X 3 d_MO_writeMore_137 rfl rfl ?_
    refine ab_bipush (v := 18) X d_MO_writeMore_138 (by decide) ?_
    refine ab_icmp_ne X 197 d_MO_writeMore_140 rfl (fun _ => ?_) (fun hb => absurd hb ((by decide)))
    refine ab_iload_n X 3 d_MO_writeMore_197 rfl rfl ?_
    refine ab_bipush (v := 22) X d_MO_writeMore_198 (by decide) ?_
    refine ab_icmp_ne X 234 d_MO_writeMore_200 rfl (fun _ => ?_) (fun hb => absurd hb ((by decide)))
    refine ab_iload_n X 3 d_MO_writeMore_234 rfl rfl ?_
    refine ab_bipush (v := 23) X d_MO_writeMore_235 (by decide) ?_
    refine ab_icmp_ne X 253 d_MO_writeMore_237 rfl (fun _ => ?_) (fun hb => absurd hb ((by decide)))
    refine ab_iload_n X 3 d_MO_writeMore_253 rfl rfl ?_
    refine ab_bipush (v := 24) X d_MO_writeMore_254 (by decide) ?_
    refine ab_icmp_ne X 273 d_MO_writeMore_256 rfl (fun hb => absurd ((by decide)) hb) (fun _ => ?_)
    refine ab_aload_n X 1 d_MO_writeMore_259 rfl rfl ?_
    refine ab_iload_n X 2 d_MO_writeMore_260 rfl rfl ?_
    refine ab_callS (as := [ab_I (nI p1)]) X (fun h => by cases h) (t_MO_b u p1) ls_MO_204 d_MO_writeMore_261 rfl rfl ⟨by first | exact Nat.le_of_ble_eq_true rfl | (simp only [ab_rm]; omega), by first | exact Nat.le_of_ble_eq_true rfl | (simp only [ab_rm]; omega)⟩ ⟨by first | exact Nat.le_of_ble_eq_true rfl | (simp only [ab_rm]; omega), by first | exact Nat.le_of_ble_eq_true rfl | (simp only [ab_rm]; omega)⟩ (Nat.le_of_ble_eq_true rfl) (fun u261 r261 h261 => ?_)
    obtain ⟨e261, rfl⟩ := h261
    subst u261
    refine ab_callV (as := [ab_I (nI (3 * p1))]) X (fun h => by cases h) (s_MO_sayForm u0 u _ _ _ h (by omega) (3 * p1) (lnu u0 (3 * p1)) (by omega) G.1.2.2 (by omega) G.1.1 (by omega)) lk_MO_239 d_MO_writeMore_264 rfl rfl (by first | assumption | decide | (show _ < 124; omega) | (show _ < 61; omega) | (show _ < 20; omega)) ⟨by first | exact Nat.le_of_ble_eq_true rfl | (simp only [ab_rm]; omega), by first | exact Nat.le_of_ble_eq_true rfl | (simp only [ab_rm]; omega)⟩ ⟨by first | exact Nat.le_of_ble_eq_true rfl | (simp only [ab_rm]; omega), by first | exact Nat.le_of_ble_eq_true rfl | (simp only [ab_rm]; omega)⟩ (Nat.le_of_ble_eq_true rfl) (fun u264 r264 h264 => ?_)
    obtain ⟨q264, rfl⟩ := h264
    have P264 := q264.1
    refine ab_aload_n X 1 d_MO_writeMore_267 rfl rfl ?_
    refine ab_iconst (v := 5) X d_MO_writeMore_268 (by decide) ?_
    refine ab_iconst (v := 0) X d_MO_writeMore_269 (by decide) ?_
    refine ab_callV (as := [ab_I (nI 5), ab_I (nI 0)]) X (fun h => by cases h) (s_MO_say u0 u264 _ _ _ q264 (by omega) (by omega) 5 0 (by decide) (by decide)) lk_MO_242 d_MO_writeMore_270 rfl rfl (by first | assumption | decide | (show _ < 124; omega) | (show _ < 61; omega) | (show _ < 20; omega)) ⟨by first | exact Nat.le_of_ble_eq_true rfl | (simp only [ab_rm]; omega), by first | exact Nat.le_of_ble_eq_true rfl | (simp only [ab_rm]; omega)⟩ ⟨by first | exact Nat.le_of_ble_eq_true rfl | (simp only [ab_rm]; omega), by first | exact Nat.le_of_ble_eq_true rfl | (simp only [ab_rm]; omega)⟩ (Nat.le_of_ble_eq_true rfl) (fun u270 r270 h270 => ?_)
    obtain ⟨q270, rfl⟩ := h270
    have P270 := q270.1
    exact ab_retv X hr0 hlk d_MO_writeMore_273 ⟨⟨_, q270.cast (by omega), bal_p G.2.1 (by decide) (by decide) (by decide) (by decide), (by have := G.2.2; simp only [List.nil_append, cas_app, cas_nil, cas_10, cas_1, cas_2, cas_3, cas_4, cas_5, cas_6, cas_7, cas_8, cas_9, cas_11, cas_12, cas_13, cas_14, cas_15, cas_16, cas_17]; omega)⟩, rfl⟩
theorem fG.fr {F : List Nat} {u u' : ab_S} (g : gP F u u') (h6 : ¬ 100 + 6 ∈ F) (h9 : ¬ 100 + 9 ∈ F) {f k : Nat} (h : fG u f k) : fG u' f k := by
  have e : lnu u' f = lnu u f := by unfold lnu; rw [g.ai h6 rfl]
  unfold fG lk
  rw [e, g.ai h6 rfl, ol_fr g h9]
  exact h
theorem wl_fr {F : List Nat} {u u' : ab_S} (g : gP F u u') (h6 : ¬ 100 + 6 ∈ F) (p1 n w : Nat) (cs : Nat → Nat) : wl u' p1 n cs w = wl u p1 n cs w := by
  have e : ∀ f, lnu u' f = lnu u f := fun f => by unfold lnu; rw [g.ai h6 rfl]
  unfold wl
  simp only [e]
theorem wr.done {u u0 u' : ab_S} {b K k : Nat} {L : List Int32} (h0 : gP [16, 17] u u0) (h : wr u0 u' b K L) (hb : bal L) (hc : cas L ≤ k) : gP [16, 17, 109] u u' ∧ (∀ q, (q < b ∨ b + 100 ≤ q) → u'.1 18 9 q = u.1 18 9 q) ∧ bal (ol u' b K) ∧ cas (ol u' b K) ≤ k := by
  refine ⟨(h0.wk (by decide)).trans h.1 (by decide), fun q hq => (h.2.2.2.2 q hq).trans (h0.ai (by decide) rfl), ?_, ?_⟩
  · rw [h.2.2.2.1]; exact hb
  · rw [h.2.2.2.1]; exact hc
theorem bal_leaf {k : Nat} (h1 : 1 ≤ k) (h4 : k ≤ 4) : bal [nI k] ∧ cas [nI k] = 0 := by
  have : k = 1 ∨ k = 2 ∨ k = 3 ∨ k = 4 := by omega
  rcases this with rfl | rfl | rfl | rfl <;> exact ⟨bal_plain (by decide) (by decide) (by decide) (by decide), by decide⟩
theorem wl_two {u : ab_S} {p1 n w : Nat} {cs : Nat → Nat} (hw : w = 13 ∨ w = 14 ∨ w = 15 ∨ w = 16 ∨ w = 17 ∨ w = 21 ∨ w = 22 ∨ w = 23) : wl u p1 n cs w = wl u p1 2 (fun i => if i = 0 then cs 0 else cs 1) w := by
  rcases hw with rfl | rfl | rfl | rfl | rfl | rfl | rfl | rfl <;> simp [wl]
abbrev b_MO_write : ByteArray := prog_10_method_31_code
def y_MO_write : MethodName := ⟨"PolicyForgeModel", "write", "(II)V"⟩
theorem d_MO_write_0 : decode b_MO_write 0 = .ok (.aload_n 0, 1) := by decide +kernel
theorem d_MO_write_1 : decode b_MO_write 1 = .ok (.bipush 100, 2) := by decide +kernel
theorem d_MO_write_3 : decode b_MO_write 3 = .ok (.iload_n 2, 1) := by decide +kernel
theorem d_MO_write_4 : decode b_MO_write 4 = .ok (.imul, 1) := by decide +kernel
theorem d_MO_write_5 : decode b_MO_write 5 = .ok (.putfield 63, 3) := by decide +kernel
theorem d_MO_write_8 : decode b_MO_write 8 = .ok (.aload_n 0, 1) := by decide +kernel
theorem d_MO_write_9 : decode b_MO_write 9 = .ok (.iconst 0, 1) := by decide +kernel
theorem d_MO_write_10 : decode b_MO_write 10 = .ok (.putfield 60, 3) := by decide +kernel
theorem d_MO_write_13 : decode b_MO_write 13 = .ok (.aload_n 0, 1) := by decide +kernel
theorem d_MO_write_14 : decode b_MO_write 14 = .ok (.getfield 45, 3) := by decide +kernel
theorem d_MO_write_17 : decode b_MO_write 17 = .ok (.iload_n 2, 1) := by decide +kernel
theorem d_MO_write_18 : decode b_MO_write 18 = .ok (.iaload, 1) := by decide +kernel
theorem d_MO_write_19 : decode b_MO_write 19 = .ok (.istore_n 3, 1) := by decide +kernel
theorem d_MO_write_20 : decode b_MO_write 20 = .ok (.aload_n 0, 1) := by decide +kernel
theorem d_MO_write_21 : decode b_MO_write 21 = .ok (.getfield 42, 3) := by decide +kernel
theorem d_MO_write_24 : decode b_MO_write 24 = .ok (.iconst 4, 1) := by decide +kernel
theorem d_MO_write_25 : decode b_MO_write 25 = .ok (.iload_n 1, 1) := by decide +kernel
theorem d_MO_write_26 : decode b_MO_write 26 = .ok (.imul, 1) := by decide +kernel
theorem d_MO_write_27 : decode b_MO_write 27 = .ok (.iaload, 1) := by decide +kernel
theorem d_MO_write_28 : decode b_MO_write 28 = .ok (.istore 4, 2) := by decide +kernel
theorem d_MO_write_30 : decode b_MO_write 30 = .ok (.aload_n 0, 1) := by decide +kernel
theorem d_MO_write_31 : decode b_MO_write 31 = .ok (.getfield 42, 3) := by decide +kernel
theorem d_MO_write_34 : decode b_MO_write 34 = .ok (.iconst 4, 1) := by decide +kernel
theorem d_MO_write_35 : decode b_MO_write 35 = .ok (.iload_n 1, 1) := by decide +kernel
theorem d_MO_write_36 : decode b_MO_write 36 = .ok (.imul, 1) := by decide +kernel
theorem d_MO_write_37 : decode b_MO_write 37 = .ok (.iconst 1, 1) := by decide +kernel
theorem d_MO_write_38 : decode b_MO_write 38 = .ok (.iadd, 1) := by decide +kernel
theorem d_MO_write_39 : decode b_MO_write 39 = .ok (.iaload, 1) := by decide +kernel
theorem d_MO_write_40 : decode b_MO_write 40 = .ok (.istore 5, 2) := by decide +kernel
theorem d_MO_write_42 : decode b_MO_write 42 = .ok (.iload_n 3, 1) := by decide +kernel
theorem d_MO_write_43 : decode b_MO_write 43 = .ok (.iconst 1, 1) := by decide +kernel
theorem d_MO_write_44 : decode b_MO_write 44 = .ok (.if_icmp .eq 15, 3) := by decide +kernel
theorem d_MO_write_47 : decode b_MO_write 47 = .ok (.iload_n 3, 1) := by decide +kernel
theorem d_MO_write_48 : decode b_MO_write 48 = .ok (.bipush 11, 2) := by decide +kernel
theorem d_MO_write_50 : decode b_MO_write 50 = .ok (.if_icmp .eq 9, 3) := by decide +kernel
theorem d_MO_write_53 : decode b_MO_write 53 = .ok (.iload_n 3, 1) := by decide +kernel
theorem d_MO_write_54 : decode b_MO_write 54 = .ok (.bipush 12, 2) := by decide +kernel
theorem d_MO_write_56 : decode b_MO_write 56 = .ok (.if_icmp .ne 19, 3) := by decide +kernel
theorem d_MO_write_59 : decode b_MO_write 59 = .ok (.aload_n 0, 1) := by decide +kernel
theorem d_MO_write_60 : decode b_MO_write 60 = .ok (.aload_n 0, 1) := by decide +kernel
theorem d_MO_write_61 : decode b_MO_write 61 = .ok (.getfield 33, 3) := by decide +kernel
theorem d_MO_write_64 : decode b_MO_write 64 = .ok (.iload_n 1, 1) := by decide +kernel
theorem d_MO_write_65 : decode b_MO_write 65 = .ok (.iaload, 1) := by decide +kernel
theorem d_MO_write_66 : decode b_MO_write 66 = .ok (.aload_n 0, 1) := by decide +kernel
theorem d_MO_write_67 : decode b_MO_write 67 = .ok (.getfield 36, 3) := by decide +kernel
theorem d_MO_write_70 : decode b_MO_write 70 = .ok (.iload_n 1, 1) := by decide +kernel
theorem d_MO_write_71 : decode b_MO_write 71 = .ok (.iaload, 1) := by decide +kernel
theorem d_MO_write_72 : decode b_MO_write 72 = .ok (.invokevirtual 242, 3) := by decide +kernel
theorem d_MO_write_75 : decode b_MO_write 75 = .ok (.iload_n 3, 1) := by decide +kernel
theorem d_MO_write_76 : decode b_MO_write 76 = .ok (.iconst 2, 1) := by decide +kernel
theorem d_MO_write_77 : decode b_MO_write 77 = .ok (.if_icmp .ne 19, 3) := by decide +kernel
theorem d_MO_write_80 : decode b_MO_write 80 = .ok (.aload_n 0, 1) := by decide +kernel
theorem d_MO_write_81 : decode b_MO_write 81 = .ok (.iload 4, 2) := by decide +kernel
theorem d_MO_write_83 : decode b_MO_write 83 = .ok (.invokestatic 195, 3) := by decide +kernel
theorem d_MO_write_86 : decode b_MO_write 86 = .ok (.iload 5, 2) := by decide +kernel
theorem d_MO_write_88 : decode b_MO_write 88 = .ok (.invokestatic 195, 3) := by decide +kernel
theorem d_MO_write_91 : decode b_MO_write 91 = .ok (.bipush 6, 2) := by decide +kernel
theorem d_MO_write_93 : decode b_MO_write 93 = .ok (.invokevirtual 245, 3) := by decide +kernel
theorem d_MO_write_96 : decode b_MO_write 96 = .ok (.iload_n 3, 1) := by decide +kernel
theorem d_MO_write_97 : decode b_MO_write 97 = .ok (.iconst 3, 1) := by decide +kernel
theorem d_MO_write_98 : decode b_MO_write 98 = .ok (.if_icmp .ne 19, 3) := by decide +kernel
theorem d_MO_write_101 : decode b_MO_write 101 = .ok (.aload_n 0, 1) := by decide +kernel
theorem d_MO_write_102 : decode b_MO_write 102 = .ok (.iload 4, 2) := by decide +kernel
theorem d_MO_write_104 : decode b_MO_write 104 = .ok (.invokestatic 195, 3) := by decide +kernel
theorem d_MO_write_107 : decode b_MO_write 107 = .ok (.iload 5, 2) := by decide +kernel
theorem d_MO_write_109 : decode b_MO_write 109 = .ok (.invokestatic 195, 3) := by decide +kernel
theorem d_MO_write_112 : decode b_MO_write 112 = .ok (.bipush 7, 2) := by decide +kernel
theorem d_MO_write_114 : decode b_MO_write 114 = .ok (.invokevirtual 245, 3) := by decide +kernel
theorem d_MO_write_117 : decode b_MO_write 117 = .ok (.iload_n 3, 1) := by decide +kernel
theorem d_MO_write_118 : decode b_MO_write 118 = .ok (.iconst 4, 1) := by decide +kernel
theorem d_MO_write_119 : decode b_MO_write 119 = .ok (.if_icmp .ne 17, 3) := by decide +kernel
theorem d_MO_write_122 : decode b_MO_write 122 = .ok (.aload_n 0, 1) := by decide +kernel
theorem d_MO_write_123 : decode b_MO_write 123 = .ok (.iload 4, 2) := by decide +kernel
theorem d_MO_write_125 : decode b_MO_write 125 = .ok (.invokestatic 195, 3) := by decide +kernel
theorem d_MO_write_128 : decode b_MO_write 128 = .ok (.iload 5, 2) := by decide +kernel
theorem d_MO_write_130 : decode b_MO_write 130 = .ok (.invokestatic 195, 3) := by decide +kernel
theorem d_MO_write_133 : decode b_MO_write 133 = .ok (.invokevirtual 248, 3) := by decide +kernel
theorem d_MO_write_136 : decode b_MO_write 136 = .ok (.iload_n 3, 1) := by decide +kernel
theorem d_MO_write_137 : decode b_MO_write 137 = .ok (.iconst 5, 1) := by decide +kernel
theorem d_MO_write_138 : decode b_MO_write 138 = .ok (.if_icmp .ne 17, 3) := by decide +kernel
theorem d_MO_write_141 : decode b_MO_write 141 = .ok (.aload_n 0, 1) := by decide +kernel
theorem d_MO_write_142 : decode b_MO_write 142 = .ok (.iload 4, 2) := by decide +kernel
theorem d_MO_write_144 : decode b_MO_write 144 = .ok (.invokestatic 195, 3) := by decide +kernel
theorem d_MO_write_147 : decode b_MO_write 147 = .ok (.iload 5, 2) := by decide +kernel
theorem d_MO_write_149 : decode b_MO_write 149 = .ok (.invokestatic 204, 3) := by decide +kernel
theorem d_MO_write_152 : decode b_MO_write 152 = .ok (.invokevirtual 251, 3) := by decide +kernel
theorem d_MO_write_155 : decode b_MO_write 155 = .ok (.iload_n 3, 1) := by decide +kernel
theorem d_MO_write_156 : decode b_MO_write 156 = .ok (.bipush 6, 2) := by decide +kernel
theorem d_MO_write_158 : decode b_MO_write 158 = .ok (.if_icmp .ne 17, 3) := by decide +kernel
theorem d_MO_write_161 : decode b_MO_write 161 = .ok (.aload_n 0, 1) := by decide +kernel
theorem d_MO_write_162 : decode b_MO_write 162 = .ok (.iload 4, 2) := by decide +kernel
theorem d_MO_write_164 : decode b_MO_write 164 = .ok (.invokestatic 204, 3) := by decide +kernel
theorem d_MO_write_167 : decode b_MO_write 167 = .ok (.iload 5, 2) := by decide +kernel
theorem d_MO_write_169 : decode b_MO_write 169 = .ok (.invokestatic 195, 3) := by decide +kernel
theorem d_MO_write_172 : decode b_MO_write 172 = .ok (.invokevirtual 251, 3) := by decide +kernel
theorem d_MO_write_175 : decode b_MO_write 175 = .ok (.iload_n 3, 1) := by decide +kernel
theorem d_MO_write_176 : decode b_MO_write 176 = .ok (.bipush 7, 2) := by decide +kernel
theorem d_MO_write_178 : decode b_MO_write 178 = .ok (.if_icmp .ne 8, 3) := by decide +kernel
theorem d_MO_write_181 : decode b_MO_write 181 = .ok (.aload_n 0, 1) := by decide +kernel
theorem d_MO_write_182 : decode b_MO_write 182 = .ok (.iload_n 1, 1) := by decide +kernel
theorem d_MO_write_183 : decode b_MO_write 183 = .ok (.invokevirtual 254, 3) := by decide +kernel
theorem d_MO_write_186 : decode b_MO_write 186 = .ok (.iload_n 3, 1) := by decide +kernel
theorem d_MO_write_187 : decode b_MO_write 187 = .ok (.bipush 8, 2) := by decide +kernel
theorem d_MO_write_189 : decode b_MO_write 189 = .ok (.if_icmp .ne 39, 3) := by decide +kernel
theorem d_MO_write_192 : decode b_MO_write 192 = .ok (.aload_n 0, 1) := by decide +kernel
theorem d_MO_write_193 : decode b_MO_write 193 = .ok (.bipush 12, 2) := by decide +kernel
theorem d_MO_write_195 : decode b_MO_write 195 = .ok (.iconst 0, 1) := by decide +kernel
theorem d_MO_write_196 : decode b_MO_write 196 = .ok (.invokevirtual 242, 3) := by decide +kernel
theorem d_MO_write_199 : decode b_MO_write 199 = .ok (.aload_n 0, 1) := by decide +kernel
theorem d_MO_write_200 : decode b_MO_write 200 = .ok (.iload_n 1, 1) := by decide +kernel
theorem d_MO_write_201 : decode b_MO_write 201 = .ok (.invokestatic 204, 3) := by decide +kernel
theorem d_MO_write_204 : decode b_MO_write 204 = .ok (.invokevirtual 239, 3) := by decide +kernel
theorem d_MO_write_207 : decode b_MO_write 207 = .ok (.aload_n 0, 1) := by decide +kernel
theorem d_MO_write_208 : decode b_MO_write 208 = .ok (.bipush 13, 2) := by decide +kernel
theorem d_MO_write_210 : decode b_MO_write 210 = .ok (.iconst 0, 1) := by decide +kernel
theorem d_MO_write_211 : decode b_MO_write 211 = .ok (.invokevirtual 242, 3) := by decide +kernel
theorem d_MO_write_214 : decode b_MO_write 214 = .ok (.aload_n 0, 1) := by decide +kernel
theorem d_MO_write_215 : decode b_MO_write 215 = .ok (.bipush 17, 2) := by decide +kernel
theorem d_MO_write_217 : decode b_MO_write 217 = .ok (.iconst 0, 1) := by decide +kernel
theorem d_MO_write_218 : decode b_MO_write 218 = .ok (.invokevirtual 242, 3) := by decide +kernel
theorem d_MO_write_221 : decode b_MO_write 221 = .ok (.aload_n 0, 1) := by decide +kernel
theorem d_MO_write_222 : decode b_MO_write 222 = .ok (.bipush 14, 2) := by decide +kernel
theorem d_MO_write_224 : decode b_MO_write 224 = .ok (.iconst 0, 1) := by decide +kernel
theorem d_MO_write_225 : decode b_MO_write 225 = .ok (.invokevirtual 242, 3) := by decide +kernel
theorem d_MO_write_228 : decode b_MO_write 228 = .ok (.iload_n 3, 1) := by decide +kernel
theorem d_MO_write_229 : decode b_MO_write 229 = .ok (.bipush 12, 2) := by decide +kernel
theorem d_MO_write_231 : decode b_MO_write 231 = .ok (.if_icmp .le 13, 3) := by decide +kernel
theorem d_MO_write_234 : decode b_MO_write 234 = .ok (.aload_n 0, 1) := by decide +kernel
theorem d_MO_write_235 : decode b_MO_write 235 = .ok (.iload_n 1, 1) := by decide +kernel
theorem d_MO_write_236 : decode b_MO_write 236 = .ok (.iload_n 3, 1) := by decide +kernel
theorem d_MO_write_237 : decode b_MO_write 237 = .ok (.iload 4, 2) := by decide +kernel
theorem d_MO_write_239 : decode b_MO_write 239 = .ok (.iload 5, 2) := by decide +kernel
theorem d_MO_write_241 : decode b_MO_write 241 = .ok (.invokevirtual 257, 3) := by decide +kernel
theorem d_MO_write_244 : decode b_MO_write 244 = .ok (.return_, 1) := by decide +kernel
theorem lk_MO_245 : ab_lk "PolicyForgeModel" 245 y_MO_sayAside b_MO_sayAside 4 none 3 17 := ⟨⟨rfl, T_MO, 44, rfl⟩, List.forall_mem_cons.mpr ⟨(ab_in 1177 (by decide +kernel) (by decide +kernel)), List.forall_mem_cons.mpr ⟨(ab_in 1179 (by decide +kernel) (by decide +kernel)), List.forall_mem_cons.mpr ⟨(ab_in 66 (by decide +kernel) (by decide +kernel)), List.forall_mem_cons.mpr ⟨(ab_in 100 (by decide +kernel) (by decide +kernel)), List.forall_mem_cons.mpr ⟨(ab_in 1180 (by decide +kernel) (by decide +kernel)), fun _ h => absurd h List.not_mem_nil⟩⟩⟩⟩⟩, ⟨by decide +kernel, by decide +kernel, by decide +kernel⟩, by decide⟩
theorem lk_MO_254 : ab_lk "PolicyForgeModel" 254 y_MO_sayThreshold b_MO_sayThreshold 3 none 1 17 := ⟨⟨rfl, T_MO, 44, rfl⟩, List.forall_mem_cons.mpr ⟨(ab_in 1193 (by decide +kernel) (by decide +kernel)), List.forall_mem_cons.mpr ⟨(ab_in 1195 (by decide +kernel) (by decide +kernel)), List.forall_mem_cons.mpr ⟨(ab_in 70 (by decide +kernel) (by decide +kernel)), List.forall_mem_cons.mpr ⟨(ab_in 100 (by decide +kernel) (by decide +kernel)), List.forall_mem_cons.mpr ⟨(ab_in 1196 (by decide +kernel) (by decide +kernel)), fun _ h => absurd h List.not_mem_nil⟩⟩⟩⟩⟩, ⟨by decide +kernel, by decide +kernel, by decide +kernel⟩, by decide⟩
theorem lk_MO_257 : ab_lk "PolicyForgeModel" 257 y_MO_writeMore b_MO_writeMore 6 none 4 17 := ⟨⟨rfl, T_MO, 44, rfl⟩, List.forall_mem_cons.mpr ⟨(ab_in 1197 (by decide +kernel) (by decide +kernel)), List.forall_mem_cons.mpr ⟨(ab_in 1199 (by decide +kernel) (by decide +kernel)), List.forall_mem_cons.mpr ⟨(ab_in 71 (by decide +kernel) (by decide +kernel)), List.forall_mem_cons.mpr ⟨(ab_in 100 (by decide +kernel) (by decide +kernel)), List.forall_mem_cons.mpr ⟨(ab_in 1200 (by decide +kernel) (by decide +kernel)), fun _ h => absurd h List.not_mem_nil⟩⟩⟩⟩⟩, ⟨by decide +kernel, by decide +kernel, by decide +kernel⟩, by decide⟩
set_option maxRecDepth 100000 in
set_option maxHeartbeats 20000000 in
theorem s_MO_write (u : ab_S) (P : Nat) (kd ar cn lf : Nat → Nat) (ch : Nat → Nat → Nat) (W : tW P kd ar cn lf ch) (T : tR P kd ar cn ch u) (p1 j w : Nat) (h : mR u.2.1) (hp : p1 < P) (hj : j < 3) (hw : ways w) (ha : app (kd p1) (ar p1) (cn p1) w) (ew : u.1 18 5 (3 * p1 + j) = nI w) (G : ∀ c, p1 < c → c < P → fG u (3 * c) (lf c - 1) ∧ fG u (3 * c + 1) (lf c - 1) ∧ fG u (3 * c + 2) (lf c - 1)) (hB : w = 8 ∨ w = 24 → 0 < j ∧ fG u (3 * p1) (lf p1 - 1)) (hK : wl u p1 (cn p1) (ch p1) w ≤ 100) : ab_C false l D ca y_MO_write b_MO_write 6 none 3 ab_nQ u [ab_O 17 0, ab_I (nI p1), ab_I (nI (3 * p1 + j))] (fun u' v => (gP [16, 17, 109] u u' ∧ (∀ q, (q < 100 * (3 * p1 + j) ∨ 100 * (3 * p1 + j) + 100 ≤ q) → u'.1 18 9 q = u.1 18 9 q) ∧ bal (ol u' (100 * (3 * p1 + j)) (wl u p1 (cn p1) (ch p1) w)) ∧ cas (ol u' (100 * (3 * p1 + j)) (wl u p1 (cn p1) (ch p1) w)) ≤ lf p1 - 1) ∧ v = none) := by
  refine ab_C.of (by decide) (Nat.le_of_ble_eq_true rfl) ?_
  intro p e s m args below meth c ad X hZ hr0 hlk
  have P0 : gP [16, 17] u u := gP.rf h
  have hP19 := W.2.1
  obtain ⟨⟨lp, -, k1, k7, ar9⟩, -, -⟩ := W.2.2 p1 hp
  obtain ⟨ek, ea, ec, ech⟩ := T.2 p1 hp
  rcases hw with rfl | rfl | rfl | rfl | rfl | rfl | rfl | rfl | rfl | rfl | rfl | rfl | rfl | rfl | rfl | rfl | rfl | rfl | rfl | rfl
  ·
    refine ab_aload_n X 0 d_MO_write_0 rfl rfl ?_
    refine ab_bipush (v := 100) X d_MO_write_1 (by decide) ?_
    refine ab_iload_n X 2 d_MO_write_3 rfl rfl ?_
    refine ab_imul X d_MO_write_4 ?_
    refine ab_top (nI_100m _) ?_
    refine ab_putI X fp_MO_63 d_MO_write_5 (by first | assumption | decide | (show _ < 124; omega) | (show _ < 61; omega) | (show _ < 20; omega)) rfl rfl ?_
    refine ab_gen (fun u5 e5 => ?_)
    have P5 : gP [16, 17] u u5 := by rw [e5]; exact P0.ui rfl (by decide)
    refine ab_aload_n X 0 d_MO_write_8 rfl rfl ?_
    refine ab_iconst (v := 0) X d_MO_write_9 (by decide) ?_
    refine ab_putI X fp_MO_60 d_MO_write_10 (by first | assumption | decide | (show _ < 124; omega) | (show _ < 61; omega) | (show _ < 20; omega)) rfl rfl ?_
    refine ab_gen (fun u10 e10 => ?_)
    have P10 : gP [16, 17] u u10 := by rw [e10]; exact P5.ui rfl (by decide)
    have h10 : wr u10 u10 (100 * (3 * p1 + j)) 0 [] := ⟨gP.rf P10.1, by rw [e10, e5]; simp [ab_up], by rw [e10]; simp [ab_up]; rfl, rfl, fun _ _ => rfl⟩
    have T10 := T.fr P10 (by decide) (by decide) (by decide) (by decide) (by decide)
    have W10 := wl_fr P10 (by decide) p1 (cn p1) 1 (ch p1)
    have G10 : ∀ c, p1 < c → c < P → fG u10 (3 * c) (lf c - 1) ∧ fG u10 (3 * c + 1) (lf c - 1) ∧ fG u10 (3 * c + 2) (lf c - 1) := fun c x y => ⟨(G c x y).1.fr P10 (by decide) (by decide), (G c x y).2.1.fr P10 (by decide) (by decide), (G c x y).2.2.fr P10 (by decide) (by decide)⟩
    rw [← W10] at hK ⊢
    refine ab_aload_n X 0 d_MO_write_13 rfl rfl ?_
    refine ab_gR X fl_MO_45 d_MO_write_14 (by first | assumption | decide | (show _ < 124; omega) | (show _ < 61; omega) | (show _ < 20; omega)) (P10.1.mo11) ?_
    refine ab_iload_n X 2 d_MO_write_17 rfl rfl ?_
    refine ab_iald X (3 * p1 + j) ⟨rfl, rfl⟩ d_MO_write_18 (by first | assumption | decide | (show _ < 124; omega) | (show _ < 61; omega) | (show _ < 20; omega)) (rfl) (show 3 * p1 + j < 72 by omega) (ab_ln_lt _ _) ?_
    refine ab_top (P10.ai (by decide) ew) ?_
    refine ab_istore_n3 X 0 1 2 d_MO_write_19 rfl (by decide) rfl rfl rfl rfl rfl rfl ?_
    refine ab_aload_n X 1 d_MO_write_20 rfl rfl ?_
    refine ab_gR X fl_MO_42 d_MO_write_21 (by first | assumption | decide | (show _ < 124; omega) | (show _ < 61; omega) | (show _ < 20; omega)) (P10.1.mo10) ?_
    refine ab_iconst (v := 4) X d_MO_write_24 (by decide) ?_
    refine ab_iload_n X 2 d_MO_write_25 rfl rfl ?_
    refine ab_imul X d_MO_write_26 ?_
    refine ab_iald X (4 * p1) ⟨rfl, rfl⟩ d_MO_write_27 (by first | assumption | decide | (show _ < 124; omega) | (show _ < 61; omega) | (show _ < 20; omega)) (nI_4m p1) (show 4 * p1 < 160 by omega) (ab_ln_lt _ _) ?_
    refine ab_istore4 X 0 1 2 3 d_MO_write_28 (by decide) rfl rfl rfl rfl rfl rfl rfl rfl ?_
    refine ab_aload_n X 2 d_MO_write_30 rfl rfl ?_
    refine ab_gR X fl_MO_42 d_MO_write_31 (by first | assumption | decide | (show _ < 124; omega) | (show _ < 61; omega) | (show _ < 20; omega)) (P10.1.mo10) ?_
    refine ab_iconst (v := 4) X d_MO_write_34 (by decide) ?_
    refine ab_iload_n X 3 d_MO_write_35 rfl rfl ?_
    refine ab_imul X d_MO_write_36 ?_
    refine ab_iconst (v := 1) X d_MO_write_37 (by decide) ?_
    refine ab_iadd X d_MO_write_38 ?_
    refine ab_iald X (4 * p1 + 1) ⟨rfl, rfl⟩ d_MO_write_39 (by first | assumption | decide | (show _ < 124; omega) | (show _ < 61; omega) | (show _ < 20; omega)) (nI_4b p1) (show 4 * p1 + 1 < 160 by omega) (ab_ln_lt _ _) ?_
    refine ab_istore5 X 0 1 2 3 4 d_MO_write_40 (by decide) rfl rfl rfl rfl rfl rfl rfl rfl rfl rfl ?_
    refine ab_iload_n X 2 d_MO_write_42 rfl rfl ?_
    refine ab_iconst (v := 1) X d_MO_write_43 (by decide) ?_
    refine ab_icmp_eq X 59 d_MO_write_44 rfl (fun _ => ?_) (fun hb => absurd ((by decide)) hb)
    refine ab_aload_n X 3 d_MO_write_59 rfl rfl ?_
    refine ab_aload_n X 3 d_MO_write_60 rfl rfl ?_
    refine ab_gR X fl_MO_33 d_MO_write_61 (by first | assumption | decide | (show _ < 124; omega) | (show _ < 61; omega) | (show _ < 20; omega)) (P10.1.mo7) ?_
    refine ab_iload_n X 4 d_MO_write_64 rfl rfl ?_
    refine ab_iald X (p1) ⟨rfl, rfl⟩ d_MO_write_65 (by first | assumption | decide | (show _ < 124; omega) | (show _ < 61; omega) | (show _ < 20; omega)) (rfl) (show p1 < 40 by omega) (ab_ln_lt _ _) ?_
    refine ab_top (P10.ai (by decide) ek) ?_
    refine ab_aload_n X 3 d_MO_write_66 rfl rfl ?_
    refine ab_gR X fl_MO_36 d_MO_write_67 (by first | assumption | decide | (show _ < 124; omega) | (show _ < 61; omega) | (show _ < 20; omega)) (P10.1.mo8) ?_
    refine ab_iload_n X 4 d_MO_write_70 rfl rfl ?_
    refine ab_iald X (p1) ⟨rfl, rfl⟩ d_MO_write_71 (by first | assumption | decide | (show _ < 124; omega) | (show _ < 61; omega) | (show _ < 20; omega)) (rfl) (show p1 < 40 by omega) (ab_ln_lt _ _) ?_
    refine ab_top (P10.ai (by decide) ea) ?_
    have k4 : kd p1 ≤ 4 := by unfold app at ha; omega
    refine ab_callV (as := [ab_I (nI (kd p1)), ab_I (nI (ar p1))]) X (fun h => by cases h) (s_MO_say u10 u10 _ _ _ h10 (by omega) (by omega) (kd p1) (ar p1) (by omega) ar9) lk_MO_242 d_MO_write_72 rfl rfl (by first | assumption | decide | (show _ < 124; omega) | (show _ < 61; omega) | (show _ < 20; omega)) ⟨by first | exact Nat.le_of_ble_eq_true rfl | (simp only [ab_rm]; omega), by first | exact Nat.le_of_ble_eq_true rfl | (simp only [ab_rm]; omega)⟩ ⟨by first | exact Nat.le_of_ble_eq_true rfl | (simp only [ab_rm]; omega), by first | exact Nat.le_of_ble_eq_true rfl | (simp only [ab_rm]; omega)⟩ (Nat.le_of_ble_eq_true rfl) (fun u72 r72 h72 => ?_)
    obtain ⟨q72, rfl⟩ := h72
    have P72 := q72.1
    refine ab_iload_n X 2 d_MO_write_75 rfl rfl ?_
    refine ab_iconst (v := 2) X d_MO_write_76 (by decide) ?_
    refine ab_icmp_ne X 96 d_MO_write_77 rfl (fun _ => ?_) (fun hb => absurd hb ((by decide)))
    refine ab_iload_n X 2 d_MO_write_96 rfl rfl ?_
    refine ab_iconst (v := 3) X d_MO_write_97 (by decide) ?_
    refine ab_icmp_ne X 117 d_MO_write_98 rfl (fun _ => ?_) (fun hb => absurd hb ((by decide)))
    refine ab_iload_n X 2 d_MO_write_117 rfl rfl ?_
    refine ab_iconst (v := 4) X d_MO_write_118 (by decide) ?_
    refine ab_icmp_ne X 136 d_MO_write_119 rfl (fun _ => ?_) (fun hb => absurd hb ((by decide)))
    refine ab_iload_n X 2 d_MO_write_136 rfl rfl ?_
    refine ab_iconst (v := 5) X d_MO_write_137 (by decide) ?_
    refine ab_icmp_ne X 155 d_MO_write_138 rfl (fun _ => ?_) (fun hb => absurd hb ((by decide)))
    refine ab_iload_n X 2 d_MO_write_155 rfl rfl ?_
    refine ab_bipush (v := 6) X d_MO_write_156 (by decide) ?_
    refine ab_icmp_ne X 175 d_MO_write_158 rfl (fun _ => ?_) (fun hb => absurd hb ((by decide)))
    refine ab_iload_n X 2 d_MO_write_175 rfl rfl ?_
    refine ab_bipush (v := 7) X d_MO_write_176 (by decide) ?_
    refine ab_icmp_ne X 186 d_MO_write_178 rfl (fun _ => ?_) (fun hb => absurd hb ((by decide)))
    refine ab_iload_n X 2 d_MO_write_186 rfl rfl ?_
    refine ab_bipush (v := 8) X d_MO_write_187 (by decide) ?_
    refine ab_icmp_ne X 228 d_MO_write_189 rfl (fun _ => ?_) (fun hb => absurd hb ((by decide)))
    refine ab_iload_n X 2 d_MO_write_228 rfl rfl ?_
    refine ab_bipush (v := 12) X d_MO_write_229 (by decide) ?_
    refine ab_icmp_le X 244 d_MO_write_231 rfl (fun _ => ?_) (fun hb => absurd ((by decide)) hb)
    exact ab_retv X hr0 hlk d_MO_write_244 ⟨wr.done P10 (q72.cast rfl) (bal_leaf k1 k4).1 (by have z := (bal_leaf k1 k4).2; simp only [List.nil_append, z]; omega), rfl⟩
  ·
    have hk : kd p1 = 5 ∨ kd p1 = 6 := by unfold app at ha; omega
    obtain ⟨x, y, ex, ey, x1, x2, y1, y2, l0, l1, l2, rfl, rfl⟩ := W.two T hp hk
    refine ab_aload_n X 0 d_MO_write_0 rfl rfl ?_
    refine ab_bipush (v := 100) X d_MO_write_1 (by decide) ?_
    refine ab_iload_n X 2 d_MO_write_3 rfl rfl ?_
    refine ab_imul X d_MO_write_4 ?_
    refine ab_top (nI_100m _) ?_
    refine ab_putI X fp_MO_63 d_MO_write_5 (by first | assumption | decide | (show _ < 124; omega) | (show _ < 61; omega) | (show _ < 20; omega)) rfl rfl ?_
    refine ab_gen (fun u5 e5 => ?_)
    have P5 : gP [16, 17] u u5 := by rw [e5]; exact P0.ui rfl (by decide)
    refine ab_aload_n X 0 d_MO_write_8 rfl rfl ?_
    refine ab_iconst (v := 0) X d_MO_write_9 (by decide) ?_
    refine ab_putI X fp_MO_60 d_MO_write_10 (by first | assumption | decide | (show _ < 124; omega) | (show _ < 61; omega) | (show _ < 20; omega)) rfl rfl ?_
    refine ab_gen (fun u10 e10 => ?_)
    have P10 : gP [16, 17] u u10 := by rw [e10]; exact P5.ui rfl (by decide)
    have h10 : wr u10 u10 (100 * (3 * p1 + j)) 0 [] := ⟨gP.rf P10.1, by rw [e10, e5]; simp [ab_up], by rw [e10]; simp [ab_up]; rfl, rfl, fun _ _ => rfl⟩
    have T10 := T.fr P10 (by decide) (by decide) (by decide) (by decide) (by decide)
    have W10 := wl_fr P10 (by decide) p1 (cn p1) 2 (ch p1)
    have G10 : ∀ c, p1 < c → c < P → fG u10 (3 * c) (lf c - 1) ∧ fG u10 (3 * c + 1) (lf c - 1) ∧ fG u10 (3 * c + 2) (lf c - 1) := fun c x y => ⟨(G c x y).1.fr P10 (by decide) (by decide), (G c x y).2.1.fr P10 (by decide) (by decide), (G c x y).2.2.fr P10 (by decide) (by decide)⟩
    rw [← W10] at hK ⊢
    refine ab_aload_n X 0 d_MO_write_13 rfl rfl ?_
    refine ab_gR X fl_MO_45 d_MO_write_14 (by first | assumption | decide | (show _ < 124; omega) | (show _ < 61; omega) | (show _ < 20; omega)) (P10.1.mo11) ?_
    refine ab_iload_n X 2 d_MO_write_17 rfl rfl ?_
    refine ab_iald X (3 * p1 + j) ⟨rfl, rfl⟩ d_MO_write_18 (by first | assumption | decide | (show _ < 124; omega) | (show _ < 61; omega) | (show _ < 20; omega)) (rfl) (show 3 * p1 + j < 72 by omega) (ab_ln_lt _ _) ?_
    refine ab_top (P10.ai (by decide) ew) ?_
    refine ab_istore_n3 X 0 1 2 d_MO_write_19 rfl (by decide) rfl rfl rfl rfl rfl rfl ?_
    refine ab_aload_n X 1 d_MO_write_20 rfl rfl ?_
    refine ab_gR X fl_MO_42 d_MO_write_21 (by first | assumption | decide | (show _ < 124; omega) | (show _ < 61; omega) | (show _ < 20; omega)) (P10.1.mo10) ?_
    refine ab_iconst (v := 4) X d_MO_write_24 (by decide) ?_
    refine ab_iload_n X 2 d_MO_write_25 rfl rfl ?_
    refine ab_imul X d_MO_write_26 ?_
    refine ab_iald X (4 * p1) ⟨rfl, rfl⟩ d_MO_write_27 (by first | assumption | decide | (show _ < 124; omega) | (show _ < 61; omega) | (show _ < 20; omega)) (nI_4m p1) (show 4 * p1 < 160 by omega) (ab_ln_lt _ _) ?_
    refine ab_top (P10.ai (by decide) ex) ?_
    refine ab_istore4 X 0 1 2 3 d_MO_write_28 (by decide) rfl rfl rfl rfl rfl rfl rfl rfl ?_
    refine ab_aload_n X 2 d_MO_write_30 rfl rfl ?_
    refine ab_gR X fl_MO_42 d_MO_write_31 (by first | assumption | decide | (show _ < 124; omega) | (show _ < 61; omega) | (show _ < 20; omega)) (P10.1.mo10) ?_
    refine ab_iconst (v := 4) X d_MO_write_34 (by decide) ?_
    refine ab_iload_n X 3 d_MO_write_35 rfl rfl ?_
    refine ab_imul X d_MO_write_36 ?_
    refine ab_iconst (v := 1) X d_MO_write_37 (by decide) ?_
    refine ab_iadd X d_MO_write_38 ?_
    refine ab_iald X (4 * p1 + 1) ⟨rfl, rfl⟩ d_MO_write_39 (by first | assumption | decide | (show _ < 124; omega) | (show _ < 61; omega) | (show _ < 20; omega)) (nI_4b p1) (show 4 * p1 + 1 < 160 by omega) (ab_ln_lt _ _) ?_
    refine ab_top (P10.ai (by decide) ey) ?_
    obtain ⟨gx0, gx1, gx2⟩ := G10 _ x1 x2
    obtain ⟨gy0, gy1, gy2⟩ := G10 _ y1 y2
    have bx := gx0.2.2
    have bx1 := gx1.2.2
    have bx2 := gx2.2.2
    have by0 := gy0.2.2
    have by1 := gy1.2.2
    have by2 := gy2.2.2
    have hk0 : wl u10 p1 (cn p1) (ch p1) 2 = lnu u10 (3 * ch p1 0 + 1) + lnu u10 (3 * ch p1 1 + 1) + 3 := by simp [wl]
    refine ab_istore5 X 0 1 2 3 4 d_MO_write_40 (by decide) rfl rfl rfl rfl rfl rfl rfl rfl rfl rfl ?_
    refine ab_iload_n X 2 d_MO_write_42 rfl rfl ?_
    refine ab_iconst (v := 1) X d_MO_write_43 (by decide) ?_
    refine ab_icmp_eq X 59 d_MO_write_44 rfl (fun hb => absurd hb ((by decide))) (fun _ => ?_)
    refine ab_iload_n X 2 d_MO_write_47 rfl rfl ?_
    refine ab_bipush (v := 11) X d_MO_write_48 (by decide) ?_
    refine ab_icmp_eq X 59 d_MO_write_50 rfl (fun hb => absurd hb ((by decide))) (fun _ => ?_)
    refine ab_iload_n X 2 d_MO_write_53 rfl rfl ?_
    refine ab_bipush (v := 12) X d_MO_write_54 (by decide) ?_
    refine ab_icmp_ne X 75 d_MO_write_56 rfl (fun _ => ?_) (fun hb => absurd hb ((by decide)))
    refine ab_iload_n X 2 d_MO_write_75 rfl rfl ?_
    refine ab_iconst (v := 2) X d_MO_write_76 (by decide) ?_
    refine ab_icmp_ne X 96 d_MO_write_77 rfl (fun hb => absurd ((by decide)) hb) (fun _ => ?_)
    refine ab_aload_n X 3 d_MO_write_80 rfl rfl ?_
    refine ab_iload X 1 d_MO_write_81 rfl ?_
    refine ab_callS (as := [ab_I (nI (ch p1 0))]) X (fun h => by cases h) (t_MO_d u10 (ch p1 0)) ls_MO_195 d_MO_write_83 rfl rfl ⟨by first | exact Nat.le_of_ble_eq_true rfl | (simp only [ab_rm]; omega), by first | exact Nat.le_of_ble_eq_true rfl | (simp only [ab_rm]; omega)⟩ ⟨by first | exact Nat.le_of_ble_eq_true rfl | (simp only [ab_rm]; omega), by first | exact Nat.le_of_ble_eq_true rfl | (simp only [ab_rm]; omega)⟩ (Nat.le_of_ble_eq_true rfl) (fun u83 r83 h83 => ?_)
    obtain ⟨e83, rfl⟩ := h83
    subst u83
    refine ab_iload X 0 d_MO_write_86 rfl ?_
    refine ab_callS (as := [ab_I (nI (ch p1 1))]) X (fun h => by cases h) (t_MO_d u10 (ch p1 1)) ls_MO_195 d_MO_write_88 rfl rfl ⟨by first | exact Nat.le_of_ble_eq_true rfl | (simp only [ab_rm]; omega), by first | exact Nat.le_of_ble_eq_true rfl | (simp only [ab_rm]; omega)⟩ ⟨by first | exact Nat.le_of_ble_eq_true rfl | (simp only [ab_rm]; omega), by first | exact Nat.le_of_ble_eq_true rfl | (simp only [ab_rm]; omega)⟩ (Nat.le_of_ble_eq_true rfl) (fun u88 r88 h88 => ?_)
    obtain ⟨e88, rfl⟩ := h88
    subst u88
    refine ab_bipush (v := 6) X d_MO_write_91 (by decide) ?_
    refine ab_callV (as := [ab_I (nI (3 * ch p1 0 + 1)), ab_I (nI (3 * ch p1 1 + 1)), ab_I (nI 6)]) X (fun h => by cases h) (s_MO_sayAside u10 u10 _ _ _ h10 (by omega) (3 * ch p1 0 + 1) (3 * ch p1 1 + 1) (lnu u10 (3 * ch p1 0 + 1)) (lnu u10 (3 * ch p1 1 + 1)) (by omega) gx1.1.2.2 (by omega) gx1.1.1 (by omega) gy1.1.2.2 (by omega) gy1.1.1 (by omega) 6 (by decide)) lk_MO_245 d_MO_write_93 rfl rfl (by first | assumption | decide | (show _ < 124; omega) | (show _ < 61; omega) | (show _ < 20; omega)) ⟨by first | exact Nat.le_of_ble_eq_true rfl | (simp only [ab_rm]; omega), by first | exact Nat.le_of_ble_eq_true rfl | (simp only [ab_rm]; omega)⟩ ⟨by first | exact Nat.le_of_ble_eq_true rfl | (simp only [ab_rm]; omega), by first | exact Nat.le_of_ble_eq_true rfl | (simp only [ab_rm]; omega)⟩ (Nat.le_of_ble_eq_true rfl) (fun u93 r93 h93 => ?_)
    obtain ⟨q93, rfl⟩ := h93
    have P93 := q93.1
    refine ab_iload_n X 2 d_MO_write_96 rfl rfl ?_
    refine ab_iconst (v := 3) X d_MO_write_97 (by decide) ?_
    refine ab_icmp_ne X 117 d_MO_write_98 rfl (fun _ => ?_) (fun hb => absurd hb ((by decide)))
    refine ab_iload_n X 2 d_MO_write_117 rfl rfl ?_
    refine ab_iconst (v := 4) X d_MO_write_118 (by decide) ?_
    refine ab_icmp_ne X 136 d_MO_write_119 rfl (fun _ => ?_) (fun hb => absurd hb ((by decide)))
    refine ab_iload_n X 2 d_MO_write_136 rfl rfl ?_
    refine ab_iconst (v := 5) X d_MO_write_137 (by decide) ?_
    refine ab_icmp_ne X 155 d_MO_write_138 rfl (fun _ => ?_) (fun hb => absurd hb ((by decide)))
    refine ab_iload_n X 2 d_MO_write_155 rfl rfl ?_
    refine ab_bipush (v := 6) X d_MO_write_156 (by decide) ?_
    refine ab_icmp_ne X 175 d_MO_write_158 rfl (fun _ => ?_) (fun hb => absurd hb ((by decide)))
    refine ab_iload_n X 2 d_MO_write_175 rfl rfl ?_
    refine ab_bipush (v := 7) X d_MO_write_176 (by decide) ?_
    refine ab_icmp_ne X 186 d_MO_write_178 rfl (fun _ => ?_) (fun hb => absurd hb ((by decide)))
    refine ab_iload_n X 2 d_MO_write_186 rfl rfl ?_
    refine ab_bipush (v := 8) X d_MO_write_187 (by decide) ?_
    refine ab_icmp_ne X 228 d_MO_write_189 rfl (fun _ => ?_) (fun hb => absurd hb ((by decide)))
    refine ab_iload_n X 2 d_MO_write_228 rfl rfl ?_
    refine ab_bipush (v := 12) X d_MO_write_229 (by decide) ?_
    refine ab_icmp_le X 244 d_MO_write_231 rfl (fun _ => ?_) (fun hb => absurd ((by decide)) hb)
    exact ab_retv X hr0 hlk d_MO_write_244 ⟨wr.done P10 (q93.cast (by omega)) (bal_p (bal_p ((bal_p gx1.2.1 (by decide) (by decide) (by decide) (by decide)).app gy1.2.1) (by decide) (by decide) (by decide) (by decide)) (by decide) (by decide) (by decide) (by decide)) (by simp only [List.nil_append, cas_app, cas_nil, cas_10, cas_1, cas_2, cas_3, cas_4, cas_5, cas_6, cas_7, cas_8, cas_9, cas_11, cas_12, cas_13, cas_14, cas_15, cas_16, cas_17]; omega), rfl⟩
  ·
    have hk : kd p1 = 5 ∨ kd p1 = 6 := by unfold app at ha; omega
    obtain ⟨x, y, ex, ey, x1, x2, y1, y2, l0, l1, l2, rfl, rfl⟩ := W.two T hp hk
    refine ab_aload_n X 0 d_MO_write_0 rfl rfl ?_
    refine ab_bipush (v := 100) X d_MO_write_1 (by decide) ?_
    refine ab_iload_n X 2 d_MO_write_3 rfl rfl ?_
    refine ab_imul X d_MO_write_4 ?_
    refine ab_top (nI_100m _) ?_
    refine ab_putI X fp_MO_63 d_MO_write_5 (by first | assumption | decide | (show _ < 124; omega) | (show _ < 61; omega) | (show _ < 20; omega)) rfl rfl ?_
    refine ab_gen (fun u5 e5 => ?_)
    have P5 : gP [16, 17] u u5 := by rw [e5]; exact P0.ui rfl (by decide)
    refine ab_aload_n X 0 d_MO_write_8 rfl rfl ?_
    refine ab_iconst (v := 0) X d_MO_write_9 (by decide) ?_
    refine ab_putI X fp_MO_60 d_MO_write_10 (by first | assumption | decide | (show _ < 124; omega) | (show _ < 61; omega) | (show _ < 20; omega)) rfl rfl ?_
    refine ab_gen (fun u10 e10 => ?_)
    have P10 : gP [16, 17] u u10 := by rw [e10]; exact P5.ui rfl (by decide)
    have h10 : wr u10 u10 (100 * (3 * p1 + j)) 0 [] := ⟨gP.rf P10.1, by rw [e10, e5]; simp [ab_up], by rw [e10]; simp [ab_up]; rfl, rfl, fun _ _ => rfl⟩
    have T10 := T.fr P10 (by decide) (by decide) (by decide) (by decide) (by decide)
    have W10 := wl_fr P10 (by decide) p1 (cn p1) 3 (ch p1)
    have G10 : ∀ c, p1 < c → c < P → fG u10 (3 * c) (lf c - 1) ∧ fG u10 (3 * c + 1) (lf c - 1) ∧ fG u10 (3 * c + 2) (lf c - 1) := fun c x y => ⟨(G c x y).1.fr P10 (by decide) (by decide), (G c x y).2.1.fr P10 (by decide) (by decide), (G c x y).2.2.fr P10 (by decide) (by decide)⟩
    rw [← W10] at hK ⊢
    refine ab_aload_n X 0 d_MO_write_13 rfl rfl ?_
    refine ab_gR X fl_MO_45 d_MO_write_14 (by first | assumption | decide | (show _ < 124; omega) | (show _ < 61; omega) | (show _ < 20; omega)) (P10.1.mo11) ?_
    refine ab_iload_n X 2 d_MO_write_17 rfl rfl ?_
    refine ab_iald X (3 * p1 + j) ⟨rfl, rfl⟩ d_MO_write_18 (by first | assumption | decide | (show _ < 124; omega) | (show _ < 61; omega) | (show _ < 20; omega)) (rfl) (show 3 * p1 + j < 72 by omega) (ab_ln_lt _ _) ?_
    refine ab_top (P10.ai (by decide) ew) ?_
    refine ab_istore_n3 X 0 1 2 d_MO_write_19 rfl (by decide) rfl rfl rfl rfl rfl rfl ?_
    refine ab_aload_n X 1 d_MO_write_20 rfl rfl ?_
    refine ab_gR X fl_MO_42 d_MO_write_21 (by first | assumption | decide | (show _ < 124; omega) | (show _ < 61; omega) | (show _ < 20; omega)) (P10.1.mo10) ?_
    refine ab_iconst (v := 4) X d_MO_write_24 (by decide) ?_
    refine ab_iload_n X 2 d_MO_write_25 rfl rfl ?_
    refine ab_imul X d_MO_write_26 ?_
    refine ab_iald X (4 * p1) ⟨rfl, rfl⟩ d_MO_write_27 (by first | assumption | decide | (show _ < 124; omega) | (show _ < 61; omega) | (show _ < 20; omega)) (nI_4m p1) (show 4 * p1 < 160 by omega) (ab_ln_lt _ _) ?_
    refine ab_top (P10.ai (by decide) ex) ?_
    refine ab_istore4 X 0 1 2 3 d_MO_write_28 (by decide) rfl rfl rfl rfl rfl rfl rfl rfl ?_
    refine ab_aload_n X 2 d_MO_write_30 rfl rfl ?_
    refine ab_gR X fl_MO_42 d_MO_write_31 (by first | assumption | decide | (show _ < 124; omega) | (show _ < 61; omega) | (show _ < 20; omega)) (P10.1.mo10) ?_
    refine ab_iconst (v := 4) X d_MO_write_34 (by decide) ?_
    refine ab_iload_n X 3 d_MO_write_35 rfl rfl ?_
    refine ab_imul X d_MO_write_36 ?_
    refine ab_iconst (v := 1) X d_MO_write_37 (by decide) ?_
    refine ab_iadd X d_MO_write_38 ?_
    refine ab_iald X (4 * p1 + 1) ⟨rfl, rfl⟩ d_MO_write_39 (by first | assumption | decide | (show _ < 124; omega) | (show _ < 61; omega) | (show _ < 20; omega)) (nI_4b p1) (show 4 * p1 + 1 < 160 by omega) (ab_ln_lt _ _) ?_
    refine ab_top (P10.ai (by decide) ey) ?_
    obtain ⟨gx0, gx1, gx2⟩ := G10 _ x1 x2
    obtain ⟨gy0, gy1, gy2⟩ := G10 _ y1 y2
    have bx := gx0.2.2
    have bx1 := gx1.2.2
    have bx2 := gx2.2.2
    have by0 := gy0.2.2
    have by1 := gy1.2.2
    have by2 := gy2.2.2
    have hk0 : wl u10 p1 (cn p1) (ch p1) 3 = lnu u10 (3 * ch p1 0 + 1) + lnu u10 (3 * ch p1 1 + 1) + 3 := by simp [wl]
    refine ab_istore5 X 0 1 2 3 4 d_MO_write_40 (by decide) rfl rfl rfl rfl rfl rfl rfl rfl rfl rfl ?_
    refine ab_iload_n X 2 d_MO_write_42 rfl rfl ?_
    refine ab_iconst (v := 1) X d_MO_write_43 (by decide) ?_
    refine ab_icmp_eq X 59 d_MO_write_44 rfl (fun hb => absurd hb ((by decide))) (fun _ => ?_)
    refine ab_iload_n X 2 d_MO_write_47 rfl rfl ?_
    refine ab_bipush (v := 11) X d_MO_write_48 (by decide) ?_
    refine ab_icmp_eq X 59 d_MO_write_50 rfl (fun hb => absurd hb ((by decide))) (fun _ => ?_)
    refine ab_iload_n X 2 d_MO_write_53 rfl rfl ?_
    refine ab_bipush (v := 12) X d_MO_write_54 (by decide) ?_
    refine ab_icmp_ne X 75 d_MO_write_56 rfl (fun _ => ?_) (fun hb => absurd hb ((by decide)))
    refine ab_iload_n X 2 d_MO_write_75 rfl rfl ?_
    refine ab_iconst (v := 2) X d_MO_write_76 (by decide) ?_
    refine ab_icmp_ne X 96 d_MO_write_77 rfl (fun _ => ?_) (fun hb => absurd hb ((by decide)))
    refine ab_iload_n X 2 d_MO_write_96 rfl rfl ?_
    refine ab_iconst (v := 3) X d_MO_write_97 (by decide) ?_
    refine ab_icmp_ne X 117 d_MO_write_98 rfl (fun hb => absurd ((by decide)) hb) (fun _ => ?_)
    refine ab_aload_n X 3 d_MO_write_101 rfl rfl ?_
    refine ab_iload X 1 d_MO_write_102 rfl ?_
    refine ab_callS (as := [ab_I (nI (ch p1 0))]) X (fun h => by cases h) (t_MO_d u10 (ch p1 0)) ls_MO_195 d_MO_write_104 rfl rfl ⟨by first | exact Nat.le_of_ble_eq_true rfl | (simp only [ab_rm]; omega), by first | exact Nat.le_of_ble_eq_true rfl | (simp only [ab_rm]; omega)⟩ ⟨by first | exact Nat.le_of_ble_eq_true rfl | (simp only [ab_rm]; omega), by first | exact Nat.le_of_ble_eq_true rfl | (simp only [ab_rm]; omega)⟩ (Nat.le_of_ble_eq_true rfl) (fun u104 r104 h104 => ?_)
    obtain ⟨e104, rfl⟩ := h104
    subst u104
    refine ab_iload X 0 d_MO_write_107 rfl ?_
    refine ab_callS (as := [ab_I (nI (ch p1 1))]) X (fun h => by cases h) (t_MO_d u10 (ch p1 1)) ls_MO_195 d_MO_write_109 rfl rfl ⟨by first | exact Nat.le_of_ble_eq_true rfl | (simp only [ab_rm]; omega), by first | exact Nat.le_of_ble_eq_true rfl | (simp only [ab_rm]; omega)⟩ ⟨by first | exact Nat.le_of_ble_eq_true rfl | (simp only [ab_rm]; omega), by first | exact Nat.le_of_ble_eq_true rfl | (simp only [ab_rm]; omega)⟩ (Nat.le_of_ble_eq_true rfl) (fun u109 r109 h109 => ?_)
    obtain ⟨e109, rfl⟩ := h109
    subst u109
    refine ab_bipush (v := 7) X d_MO_write_112 (by decide) ?_
    refine ab_callV (as := [ab_I (nI (3 * ch p1 0 + 1)), ab_I (nI (3 * ch p1 1 + 1)), ab_I (nI 7)]) X (fun h => by cases h) (s_MO_sayAside u10 u10 _ _ _ h10 (by omega) (3 * ch p1 0 + 1) (3 * ch p1 1 + 1) (lnu u10 (3 * ch p1 0 + 1)) (lnu u10 (3 * ch p1 1 + 1)) (by omega) gx1.1.2.2 (by omega) gx1.1.1 (by omega) gy1.1.2.2 (by omega) gy1.1.1 (by omega) 7 (by decide)) lk_MO_245 d_MO_write_114 rfl rfl (by first | assumption | decide | (show _ < 124; omega) | (show _ < 61; omega) | (show _ < 20; omega)) ⟨by first | exact Nat.le_of_ble_eq_true rfl | (simp only [ab_rm]; omega), by first | exact Nat.le_of_ble_eq_true rfl | (simp only [ab_rm]; omega)⟩ ⟨by first | exact Nat.le_of_ble_eq_true rfl | (simp only [ab_rm]; omega), by first | exact Nat.le_of_ble_eq_true rfl | (simp only [ab_rm]; omega)⟩ (Nat.le_of_ble_eq_true rfl) (fun u114 r114 h114 => ?_)
    obtain ⟨q114, rfl⟩ := h114
    have P114 := q114.1
    refine ab_iload_n X 2 d_MO_write_117 rfl rfl ?_
    refine ab_iconst (v := 4) X d_MO_write_118 (by decide) ?_
    refine ab_icmp_ne X 136 d_MO_write_119 rfl (fun _ => ?_) (fun hb => absurd hb ((by decide)))
    refine ab_iload_n X 2 d_MO_write_136 rfl rfl ?_
    refine ab_iconst (v := 5) X d_MO_write_137 (by decide) ?_
    refine ab_icmp_ne X 155 d_MO_write_138 rfl (fun _ => ?_) (fun hb => absurd hb ((by decide)))
    refine ab_iload_n X 2 d_MO_write_155 rfl rfl ?_
    refine ab_bipush (v := 6) X d_MO_write_156 (by decide) ?_
    refine ab_icmp_ne X 175 d_MO_write_158 rfl (fun _ => ?_) (fun hb => absurd hb ((by decide)))
    refine ab_iload_n X 2 d_MO_write_175 rfl rfl ?_
    refine ab_bipush (v := 7) X d_MO_write_176 (by decide) ?_
    refine ab_icmp_ne X 186 d_MO_write_178 rfl (fun _ => ?_) (fun hb => absurd hb ((by decide)))
    refine ab_iload_n X 2 d_MO_write_186 rfl rfl ?_
    refine ab_bipush (v := 8) X d_MO_write_187 (by decide) ?_
    refine ab_icmp_ne X 228 d_MO_write_189 rfl (fun _ => ?_) (fun hb => absurd hb ((by decide)))
    refine ab_iload_n X 2 d_MO_write_228 rfl rfl ?_
    refine ab_bipush (v := 12) X d_MO_write_229 (by decide) ?_
    refine ab_icmp_le X 244 d_MO_write_231 rfl (fun _ => ?_) (fun hb => absurd ((by decide)) hb)
    exact ab_retv X hr0 hlk d_MO_write_244 ⟨wr.done P10 (q114.cast (by omega)) (bal_p (bal_p ((bal_p gx1.2.1 (by decide) (by decide) (by decide) (by decide)).app gy1.2.1) (by decide) (by decide) (by decide) (by decide)) (by decide) (by decide) (by decide) (by decide)) (by simp only [List.nil_append, cas_app, cas_nil, cas_10, cas_1, cas_2, cas_3, cas_4, cas_5, cas_6, cas_7, cas_8, cas_9, cas_11, cas_12, cas_13, cas_14, cas_15, cas_16, cas_17]; omega), rfl⟩
  ·
    have hk : kd p1 = 5 ∨ kd p1 = 6 := by unfold app at ha; omega
    obtain ⟨x, y, ex, ey, x1, x2, y1, y2, l0, l1, l2, rfl, rfl⟩ := W.two T hp hk
    refine ab_aload_n X 0 d_MO_write_0 rfl rfl ?_
    refine ab_bipush (v := 100) X d_MO_write_1 (by decide) ?_
    refine ab_iload_n X 2 d_MO_write_3 rfl rfl ?_
    refine ab_imul X d_MO_write_4 ?_
    refine ab_top (nI_100m _) ?_
    refine ab_putI X fp_MO_63 d_MO_write_5 (by first | assumption | decide | (show _ < 124; omega) | (show _ < 61; omega) | (show _ < 20; omega)) rfl rfl ?_
    refine ab_gen (fun u5 e5 => ?_)
    have P5 : gP [16, 17] u u5 := by rw [e5]; exact P0.ui rfl (by decide)
    refine ab_aload_n X 0 d_MO_write_8 rfl rfl ?_
    refine ab_iconst (v := 0) X d_MO_write_9 (by decide) ?_
    refine ab_putI X fp_MO_60 d_MO_write_10 (by first | assumption | decide | (show _ < 124; omega) | (show _ < 61; omega) | (show _ < 20; omega)) rfl rfl ?_
    refine ab_gen (fun u10 e10 => ?_)
    have P10 : gP [16, 17] u u10 := by rw [e10]; exact P5.ui rfl (by decide)
    have h10 : wr u10 u10 (100 * (3 * p1 + j)) 0 [] := ⟨gP.rf P10.1, by rw [e10, e5]; simp [ab_up], by rw [e10]; simp [ab_up]; rfl, rfl, fun _ _ => rfl⟩
    have T10 := T.fr P10 (by decide) (by decide) (by decide) (by decide) (by decide)
    have W10 := wl_fr P10 (by decide) p1 (cn p1) 4 (ch p1)
    have G10 : ∀ c, p1 < c → c < P → fG u10 (3 * c) (lf c - 1) ∧ fG u10 (3 * c + 1) (lf c - 1) ∧ fG u10 (3 * c + 2) (lf c - 1) := fun c x y => ⟨(G c x y).1.fr P10 (by decide) (by decide), (G c x y).2.1.fr P10 (by decide) (by decide), (G c x y).2.2.fr P10 (by decide) (by decide)⟩
    rw [← W10] at hK ⊢
    refine ab_aload_n X 0 d_MO_write_13 rfl rfl ?_
    refine ab_gR X fl_MO_45 d_MO_write_14 (by first | assumption | decide | (show _ < 124; omega) | (show _ < 61; omega) | (show _ < 20; omega)) (P10.1.mo11) ?_
    refine ab_iload_n X 2 d_MO_write_17 rfl rfl ?_
    refine ab_iald X (3 * p1 + j) ⟨rfl, rfl⟩ d_MO_write_18 (by first | assumption | decide | (show _ < 124; omega) | (show _ < 61; omega) | (show _ < 20; omega)) (rfl) (show 3 * p1 + j < 72 by omega) (ab_ln_lt _ _) ?_
    refine ab_top (P10.ai (by decide) ew) ?_
    refine ab_istore_n3 X 0 1 2 d_MO_write_19 rfl (by decide) rfl rfl rfl rfl rfl rfl ?_
    refine ab_aload_n X 1 d_MO_write_20 rfl rfl ?_
    refine ab_gR X fl_MO_42 d_MO_write_21 (by first | assumption | decide | (show _ < 124; omega) | (show _ < 61; omega) | (show _ < 20; omega)) (P10.1.mo10) ?_
    refine ab_iconst (v := 4) X d_MO_write_24 (by decide) ?_
    refine ab_iload_n X 2 d_MO_write_25 rfl rfl ?_
    refine ab_imul X d_MO_write_26 ?_
    refine ab_iald X (4 * p1) ⟨rfl, rfl⟩ d_MO_write_27 (by first | assumption | decide | (show _ < 124; omega) | (show _ < 61; omega) | (show _ < 20; omega)) (nI_4m p1) (show 4 * p1 < 160 by omega) (ab_ln_lt _ _) ?_
    refine ab_top (P10.ai (by decide) ex) ?_
    refine ab_istore4 X 0 1 2 3 d_MO_write_28 (by decide) rfl rfl rfl rfl rfl rfl rfl rfl ?_
    refine ab_aload_n X 2 d_MO_write_30 rfl rfl ?_
    refine ab_gR X fl_MO_42 d_MO_write_31 (by first | assumption | decide | (show _ < 124; omega) | (show _ < 61; omega) | (show _ < 20; omega)) (P10.1.mo10) ?_
    refine ab_iconst (v := 4) X d_MO_write_34 (by decide) ?_
    refine ab_iload_n X 3 d_MO_write_35 rfl rfl ?_
    refine ab_imul X d_MO_write_36 ?_
    refine ab_iconst (v := 1) X d_MO_write_37 (by decide) ?_
    refine ab_iadd X d_MO_write_38 ?_
    refine ab_iald X (4 * p1 + 1) ⟨rfl, rfl⟩ d_MO_write_39 (by first | assumption | decide | (show _ < 124; omega) | (show _ < 61; omega) | (show _ < 20; omega)) (nI_4b p1) (show 4 * p1 + 1 < 160 by omega) (ab_ln_lt _ _) ?_
    refine ab_top (P10.ai (by decide) ey) ?_
    obtain ⟨gx0, gx1, gx2⟩ := G10 _ x1 x2
    obtain ⟨gy0, gy1, gy2⟩ := G10 _ y1 y2
    have bx := gx0.2.2
    have bx1 := gx1.2.2
    have bx2 := gx2.2.2
    have by0 := gy0.2.2
    have by1 := gy1.2.2
    have by2 := gy2.2.2
    have hk0 : wl u10 p1 (cn p1) (ch p1) 4 = lnu u10 (3 * ch p1 0 + 1) + lnu u10 (3 * ch p1 1 + 1) + 3 := by simp [wl]
    refine ab_istore5 X 0 1 2 3 4 d_MO_write_40 (by decide) rfl rfl rfl rfl rfl rfl rfl rfl rfl rfl ?_
    refine ab_iload_n X 2 d_MO_write_42 rfl rfl ?_
    refine ab_iconst (v := 1) X d_MO_write_43 (by decide) ?_
    refine ab_icmp_eq X 59 d_MO_write_44 rfl (fun hb => absurd hb ((by decide))) (fun _ => ?_)
    refine ab_iload_n X 2 d_MO_write_47 rfl rfl ?_
    refine ab_bipush (v := 11) X d_MO_write_48 (by decide) ?_
    refine ab_icmp_eq X 59 d_MO_write_50 rfl (fun hb => absurd hb ((by decide))) (fun _ => ?_)
    refine ab_iload_n X 2 d_MO_write_53 rfl rfl ?_
    refine ab_bipush (v := 12) X d_MO_write_54 (by decide) ?_
    refine ab_icmp_ne X 75 d_MO_write_56 rfl (fun _ => ?_) (fun hb => absurd hb ((by decide)))
    refine ab_iload_n X 2 d_MO_write_75 rfl rfl ?_
    refine ab_iconst (v := 2) X d_MO_write_76 (by decide) ?_
    refine ab_icmp_ne X 96 d_MO_write_77 rfl (fun _ => ?_) (fun hb => absurd hb ((by decide)))
    refine ab_iload_n X 2 d_MO_write_96 rfl rfl ?_
    refine ab_iconst (v := 3) X d_MO_write_97 (by decide) ?_
    refine ab_icmp_ne X 117 d_MO_write_98 rfl (fun _ => ?_) (fun hb => absurd hb ((by decide)))
    refine ab_iload_n X 2 d_MO_write_117 rfl rfl ?_
    refine ab_iconst (v := 4) X d_MO_write_118 (by decide) ?_
    refine ab_icmp_ne X 136 d_MO_write_119 rfl (fun hb => absurd ((by decide)) hb) (fun _ => ?_)
    refine ab_aload_n X 3 d_MO_write_122 rfl rfl ?_
    refine ab_iload X 1 d_MO_write_123 rfl ?_
    refine ab_callS (as := [ab_I (nI (ch p1 0))]) X (fun h => by cases h) (t_MO_d u10 (ch p1 0)) ls_MO_195 d_MO_write_125 rfl rfl ⟨by first | exact Nat.le_of_ble_eq_true rfl | (simp only [ab_rm]; omega), by first | exact Nat.le_of_ble_eq_true rfl | (simp only [ab_rm]; omega)⟩ ⟨by first | exact Nat.le_of_ble_eq_true rfl | (simp only [ab_rm]; omega), by first | exact Nat.le_of_ble_eq_true rfl | (simp only [ab_rm]; omega)⟩ (Nat.le_of_ble_eq_true rfl) (fun u125 r125 h125 => ?_)
    obtain ⟨e125, rfl⟩ := h125
    subst u125
    refine ab_iload X 0 d_MO_write_128 rfl ?_
    refine ab_callS (as := [ab_I (nI (ch p1 1))]) X (fun h => by cases h) (t_MO_d u10 (ch p1 1)) ls_MO_195 d_MO_write_130 rfl rfl ⟨by first | exact Nat.le_of_ble_eq_true rfl | (simp only [ab_rm]; omega), by first | exact Nat.le_of_ble_eq_true rfl | (simp only [ab_rm]; omega)⟩ ⟨by first | exact Nat.le_of_ble_eq_true rfl | (simp only [ab_rm]; omega), by first | exact Nat.le_of_ble_eq_true rfl | (simp only [ab_rm]; omega)⟩ (Nat.le_of_ble_eq_true rfl) (fun u130 r130 h130 => ?_)
    obtain ⟨e130, rfl⟩ := h130
    subst u130
    refine ab_callV (as := [ab_I (nI (3 * ch p1 0 + 1)), ab_I (nI (3 * ch p1 1 + 1))]) X (fun h => by cases h) (s_MO_sayTwice u10 u10 _ _ _ h10 (by omega) (3 * ch p1 0 + 1) (3 * ch p1 1 + 1) (lnu u10 (3 * ch p1 0 + 1)) (lnu u10 (3 * ch p1 1 + 1)) (by omega) gx1.1.2.2 (by omega) gx1.1.1 (by omega) gy1.1.2.2 (by omega) gy1.1.1 (by omega)) lk_MO_248 d_MO_write_133 rfl rfl (by first | assumption | decide | (show _ < 124; omega) | (show _ < 61; omega) | (show _ < 20; omega)) ⟨by first | exact Nat.le_of_ble_eq_true rfl | (simp only [ab_rm]; omega), by first | exact Nat.le_of_ble_eq_true rfl | (simp only [ab_rm]; omega)⟩ ⟨by first | exact Nat.le_of_ble_eq_true rfl | (simp only [ab_rm]; omega), by first | exact Nat.le_of_ble_eq_true rfl | (simp only [ab_rm]; omega)⟩ (Nat.le_of_ble_eq_true rfl) (fun u133 r133 h133 => ?_)
    obtain ⟨q133, rfl⟩ := h133
    have P133 := q133.1
    refine ab_iload_n X 2 d_MO_write_136 rfl rfl ?_
    refine ab_iconst (v := 5) X d_MO_write_137 (by decide) ?_
    refine ab_icmp_ne X 155 d_MO_write_138 rfl (fun _ => ?_) (fun hb => absurd hb ((by decide)))
    refine ab_iload_n X 2 d_MO_write_155 rfl rfl ?_
    refine ab_bipush (v := 6) X d_MO_write_156 (by decide) ?_
    refine ab_icmp_ne X 175 d_MO_write_158 rfl (fun _ => ?_) (fun hb => absurd hb ((by decide)))
    refine ab_iload_n X 2 d_MO_write_175 rfl rfl ?_
    refine ab_bipush (v := 7) X d_MO_write_176 (by decide) ?_
    refine ab_icmp_ne X 186 d_MO_write_178 rfl (fun _ => ?_) (fun hb => absurd hb ((by decide)))
    refine ab_iload_n X 2 d_MO_write_186 rfl rfl ?_
    refine ab_bipush (v := 8) X d_MO_write_187 (by decide) ?_
    refine ab_icmp_ne X 228 d_MO_write_189 rfl (fun _ => ?_) (fun hb => absurd hb ((by decide)))
    refine ab_iload_n X 2 d_MO_write_228 rfl rfl ?_
    refine ab_bipush (v := 12) X d_MO_write_229 (by decide) ?_
    refine ab_icmp_le X 244 d_MO_write_231 rfl (fun _ => ?_) (fun hb => absurd ((by decide)) hb)
    exact ab_retv X hr0 hlk d_MO_write_244 ⟨wr.done P10 (q133.cast (by omega)) (bal_twice gx1.2.1 gy1.2.1) (by simp only [List.nil_append, cas_app, cas_nil, cas_10, cas_1, cas_2, cas_3, cas_4, cas_5, cas_6, cas_7, cas_8, cas_9, cas_11, cas_12, cas_13, cas_14, cas_15, cas_16, cas_17]; omega), rfl⟩
  ·
    have hk : kd p1 = 5 ∨ kd p1 = 6 := by unfold app at ha; omega
    obtain ⟨x, y, ex, ey, x1, x2, y1, y2, l0, l1, l2, rfl, rfl⟩ := W.two T hp hk
    refine ab_aload_n X 0 d_MO_write_0 rfl rfl ?_
    refine ab_bipush (v := 100) X d_MO_write_1 (by decide) ?_
    refine ab_iload_n X 2 d_MO_write_3 rfl rfl ?_
    refine ab_imul X d_MO_write_4 ?_
    refine ab_top (nI_100m _) ?_
    refine ab_putI X fp_MO_63 d_MO_write_5 (by first | assumption | decide | (show _ < 124; omega) | (show _ < 61; omega) | (show _ < 20; omega)) rfl rfl ?_
    refine ab_gen (fun u5 e5 => ?_)
    have P5 : gP [16, 17] u u5 := by rw [e5]; exact P0.ui rfl (by decide)
    refine ab_aload_n X 0 d_MO_write_8 rfl rfl ?_
    refine ab_iconst (v := 0) X d_MO_write_9 (by decide) ?_
    refine ab_putI X fp_MO_60 d_MO_write_10 (by first | assumption | decide | (show _ < 124; omega) | (show _ < 61; omega) | (show _ < 20; omega)) rfl rfl ?_
    refine ab_gen (fun u10 e10 => ?_)
    have P10 : gP [16, 17] u u10 := by rw [e10]; exact P5.ui rfl (by decide)
    have h10 : wr u10 u10 (100 * (3 * p1 + j)) 0 [] := ⟨gP.rf P10.1, by rw [e10, e5]; simp [ab_up], by rw [e10]; simp [ab_up]; rfl, rfl, fun _ _ => rfl⟩
    have T10 := T.fr P10 (by decide) (by decide) (by decide) (by decide) (by decide)
    have W10 := wl_fr P10 (by decide) p1 (cn p1) 5 (ch p1)
    have G10 : ∀ c, p1 < c → c < P → fG u10 (3 * c) (lf c - 1) ∧ fG u10 (3 * c + 1) (lf c - 1) ∧ fG u10 (3 * c + 2) (lf c - 1) := fun c x y => ⟨(G c x y).1.fr P10 (by decide) (by decide), (G c x y).2.1.fr P10 (by decide) (by decide), (G c x y).2.2.fr P10 (by decide) (by decide)⟩
    rw [← W10] at hK ⊢
    refine ab_aload_n X 0 d_MO_write_13 rfl rfl ?_
    refine ab_gR X fl_MO_45 d_MO_write_14 (by first | assumption | decide | (show _ < 124; omega) | (show _ < 61; omega) | (show _ < 20; omega)) (P10.1.mo11) ?_
    refine ab_iload_n X 2 d_MO_write_17 rfl rfl ?_
    refine ab_iald X (3 * p1 + j) ⟨rfl, rfl⟩ d_MO_write_18 (by first | assumption | decide | (show _ < 124; omega) | (show _ < 61; omega) | (show _ < 20; omega)) (rfl) (show 3 * p1 + j < 72 by omega) (ab_ln_lt _ _) ?_
    refine ab_top (P10.ai (by decide) ew) ?_
    refine ab_istore_n3 X 0 1 2 d_MO_write_19 rfl (by decide) rfl rfl rfl rfl rfl rfl ?_
    refine ab_aload_n X 1 d_MO_write_20 rfl rfl ?_
    refine ab_gR X fl_MO_42 d_MO_write_21 (by first | assumption | decide | (show _ < 124; omega) | (show _ < 61; omega) | (show _ < 20; omega)) (P10.1.mo10) ?_
    refine ab_iconst (v := 4) X d_MO_write_24 (by decide) ?_
    refine ab_iload_n X 2 d_MO_write_25 rfl rfl ?_
    refine ab_imul X d_MO_write_26 ?_
    refine ab_iald X (4 * p1) ⟨rfl, rfl⟩ d_MO_write_27 (by first | assumption | decide | (show _ < 124; omega) | (show _ < 61; omega) | (show _ < 20; omega)) (nI_4m p1) (show 4 * p1 < 160 by omega) (ab_ln_lt _ _) ?_
    refine ab_top (P10.ai (by decide) ex) ?_
    refine ab_istore4 X 0 1 2 3 d_MO_write_28 (by decide) rfl rfl rfl rfl rfl rfl rfl rfl ?_
    refine ab_aload_n X 2 d_MO_write_30 rfl rfl ?_
    refine ab_gR X fl_MO_42 d_MO_write_31 (by first | assumption | decide | (show _ < 124; omega) | (show _ < 61; omega) | (show _ < 20; omega)) (P10.1.mo10) ?_
    refine ab_iconst (v := 4) X d_MO_write_34 (by decide) ?_
    refine ab_iload_n X 3 d_MO_write_35 rfl rfl ?_
    refine ab_imul X d_MO_write_36 ?_
    refine ab_iconst (v := 1) X d_MO_write_37 (by decide) ?_
    refine ab_iadd X d_MO_write_38 ?_
    refine ab_iald X (4 * p1 + 1) ⟨rfl, rfl⟩ d_MO_write_39 (by first | assumption | decide | (show _ < 124; omega) | (show _ < 61; omega) | (show _ < 20; omega)) (nI_4b p1) (show 4 * p1 + 1 < 160 by omega) (ab_ln_lt _ _) ?_
    refine ab_top (P10.ai (by decide) ey) ?_
    obtain ⟨gx0, gx1, gx2⟩ := G10 _ x1 x2
    obtain ⟨gy0, gy1, gy2⟩ := G10 _ y1 y2
    have bx := gx0.2.2
    have bx1 := gx1.2.2
    have bx2 := gx2.2.2
    have by0 := gy0.2.2
    have by1 := gy1.2.2
    have by2 := gy2.2.2
    have hk0 : wl u10 p1 (cn p1) (ch p1) 5 = lnu u10 (3 * ch p1 0 + 1) + lnu u10 (3 * ch p1 1) + 3 := by simp [wl]
    refine ab_istore5 X 0 1 2 3 4 d_MO_write_40 (by decide) rfl rfl rfl rfl rfl rfl rfl rfl rfl rfl ?_
    refine ab_iload_n X 2 d_MO_write_42 rfl rfl ?_
    refine ab_iconst (v := 1) X d_MO_write_43 (by decide) ?_
    refine ab_icmp_eq X 59 d_MO_write_44 rfl (fun hb => absurd hb ((by decide))) (fun _ => ?_)
    refine ab_iload_n X 2 d_MO_write_47 rfl rfl ?_
    refine ab_bipush (v := 11) X d_MO_write_48 (by decide) ?_
    refine ab_icmp_eq X 59 d_MO_write_50 rfl (fun hb => absurd hb ((by decide))) (fun _ => ?_)
    refine ab_iload_n X 2 d_MO_write_53 rfl rfl ?_
    refine ab_bipush (v := 12) X d_MO_write_54 (by decide) ?_
    refine ab_icmp_ne X 75 d_MO_write_56 rfl (fun _ => ?_) (fun hb => absurd hb ((by decide)))
    refine ab_iload_n X 2 d_MO_write_75 rfl rfl ?_
    refine ab_iconst (v := 2) X d_MO_write_76 (by decide) ?_
    refine ab_icmp_ne X 96 d_MO_write_77 rfl (fun _ => ?_) (fun hb => absurd hb ((by decide)))
    refine ab_iload_n X 2 d_MO_write_96 rfl rfl ?_
    refine ab_iconst (v := 3) X d_MO_write_97 (by decide) ?_
    refine ab_icmp_ne X 117 d_MO_write_98 rfl (fun _ => ?_) (fun hb => absurd hb ((by decide)))
    refine ab_iload_n X 2 d_MO_write_117 rfl rfl ?_
    refine ab_iconst (v := 4) X d_MO_write_118 (by decide) ?_
    refine ab_icmp_ne X 136 d_MO_write_119 rfl (fun _ => ?_) (fun hb => absurd hb ((by decide)))
    refine ab_iload_n X 2 d_MO_write_136 rfl rfl ?_
    refine ab_iconst (v := 5) X d_MO_write_137 (by decide) ?_
    refine ab_icmp_ne X 155 d_MO_write_138 rfl (fun hb => absurd ((by decide)) hb) (fun _ => ?_)
    refine ab_aload_n X 3 d_MO_write_141 rfl rfl ?_
    refine ab_iload X 1 d_MO_write_142 rfl ?_
    refine ab_callS (as := [ab_I (nI (ch p1 0))]) X (fun h => by cases h) (t_MO_d u10 (ch p1 0)) ls_MO_195 d_MO_write_144 rfl rfl ⟨by first | exact Nat.le_of_ble_eq_true rfl | (simp only [ab_rm]; omega), by first | exact Nat.le_of_ble_eq_true rfl | (simp only [ab_rm]; omega)⟩ ⟨by first | exact Nat.le_of_ble_eq_true rfl | (simp only [ab_rm]; omega), by first | exact Nat.le_of_ble_eq_true rfl | (simp only [ab_rm]; omega)⟩ (Nat.le_of_ble_eq_true rfl) (fun u144 r144 h144 => ?_)
    obtain ⟨e144, rfl⟩ := h144
    subst u144
    refine ab_iload X 0 d_MO_write_147 rfl ?_
    refine ab_callS (as := [ab_I (nI (ch p1 1))]) X (fun h => by cases h) (t_MO_b u10 (ch p1 1)) ls_MO_204 d_MO_write_149 rfl rfl ⟨by first | exact Nat.le_of_ble_eq_true rfl | (simp only [ab_rm]; omega), by first | exact Nat.le_of_ble_eq_true rfl | (simp only [ab_rm]; omega)⟩ ⟨by first | exact Nat.le_of_ble_eq_true rfl | (simp only [ab_rm]; omega), by first | exact Nat.le_of_ble_eq_true rfl | (simp only [ab_rm]; omega)⟩ (Nat.le_of_ble_eq_true rfl) (fun u149 r149 h149 => ?_)
    obtain ⟨e149, rfl⟩ := h149
    subst u149
    refine ab_callV (as := [ab_I (nI (3 * ch p1 0 + 1)), ab_I (nI (3 * ch p1 1))]) X (fun h => by cases h) (s_MO_sayIf u10 u10 _ _ _ h10 (by omega) (3 * ch p1 0 + 1) (3 * ch p1 1) (lnu u10 (3 * ch p1 0 + 1)) (lnu u10 (3 * ch p1 1)) (by omega) gx1.1.2.2 (by omega) gx1.1.1 (by omega) gy0.1.2.2 (by omega) gy0.1.1 (by omega)) lk_MO_251 d_MO_write_152 rfl rfl (by first | assumption | decide | (show _ < 124; omega) | (show _ < 61; omega) | (show _ < 20; omega)) ⟨by first | exact Nat.le_of_ble_eq_true rfl | (simp only [ab_rm]; omega), by first | exact Nat.le_of_ble_eq_true rfl | (simp only [ab_rm]; omega)⟩ ⟨by first | exact Nat.le_of_ble_eq_true rfl | (simp only [ab_rm]; omega), by first | exact Nat.le_of_ble_eq_true rfl | (simp only [ab_rm]; omega)⟩ (Nat.le_of_ble_eq_true rfl) (fun u152 r152 h152 => ?_)
    obtain ⟨q152, rfl⟩ := h152
    have P152 := q152.1
    refine ab_iload_n X 2 d_MO_write_155 rfl rfl ?_
    refine ab_bipush (v := 6) X d_MO_write_156 (by decide) ?_
    refine ab_icmp_ne X 175 d_MO_write_158 rfl (fun _ => ?_) (fun hb => absurd hb ((by decide)))
    refine ab_iload_n X 2 d_MO_write_175 rfl rfl ?_
    refine ab_bipush (v := 7) X d_MO_write_176 (by decide) ?_
    refine ab_icmp_ne X 186 d_MO_write_178 rfl (fun _ => ?_) (fun hb => absurd hb ((by decide)))
    refine ab_iload_n X 2 d_MO_write_186 rfl rfl ?_
    refine ab_bipush (v := 8) X d_MO_write_187 (by decide) ?_
    refine ab_icmp_ne X 228 d_MO_write_189 rfl (fun _ => ?_) (fun hb => absurd hb ((by decide)))
    refine ab_iload_n X 2 d_MO_write_228 rfl rfl ?_
    refine ab_bipush (v := 12) X d_MO_write_229 (by decide) ?_
    refine ab_icmp_le X 244 d_MO_write_231 rfl (fun _ => ?_) (fun hb => absurd ((by decide)) hb)
    exact ab_retv X hr0 hlk d_MO_write_244 ⟨wr.done P10 (q152.cast (by omega)) (bal_if gx1.2.1 gy0.2.1) (by simp only [List.nil_append, cas_app, cas_nil, cas_10, cas_1, cas_2, cas_3, cas_4, cas_5, cas_6, cas_7, cas_8, cas_9, cas_11, cas_12, cas_13, cas_14, cas_15, cas_16, cas_17]; omega), rfl⟩
  ·
    have hk : kd p1 = 5 ∨ kd p1 = 6 := by unfold app at ha; omega
    obtain ⟨x, y, ex, ey, x1, x2, y1, y2, l0, l1, l2, rfl, rfl⟩ := W.two T hp hk
    refine ab_aload_n X 0 d_MO_write_0 rfl rfl ?_
    refine ab_bipush (v := 100) X d_MO_write_1 (by decide) ?_
    refine ab_iload_n X 2 d_MO_write_3 rfl rfl ?_
    refine ab_imul X d_MO_write_4 ?_
    refine ab_top (nI_100m _) ?_
    refine ab_putI X fp_MO_63 d_MO_write_5 (by first | assumption | decide | (show _ < 124; omega) | (show _ < 61; omega) | (show _ < 20; omega)) rfl rfl ?_
    refine ab_gen (fun u5 e5 => ?_)
    have P5 : gP [16, 17] u u5 := by rw [e5]; exact P0.ui rfl (by decide)
    refine ab_aload_n X 0 d_MO_write_8 rfl rfl ?_
    refine ab_iconst (v := 0) X d_MO_write_9 (by decide) ?_
    refine ab_putI X fp_MO_60 d_MO_write_10 (by first | assumption | decide | (show _ < 124; omega) | (show _ < 61; omega) | (show _ < 20; omega)) rfl rfl ?_
    refine ab_gen (fun u10 e10 => ?_)
    have P10 : gP [16, 17] u u10 := by rw [e10]; exact P5.ui rfl (by decide)
    have h10 : wr u10 u10 (100 * (3 * p1 + j)) 0 [] := ⟨gP.rf P10.1, by rw [e10, e5]; simp [ab_up], by rw [e10]; simp [ab_up]; rfl, rfl, fun _ _ => rfl⟩
    have T10 := T.fr P10 (by decide) (by decide) (by decide) (by decide) (by decide)
    have W10 := wl_fr P10 (by decide) p1 (cn p1) 6 (ch p1)
    have G10 : ∀ c, p1 < c → c < P → fG u10 (3 * c) (lf c - 1) ∧ fG u10 (3 * c + 1) (lf c - 1) ∧ fG u10 (3 * c + 2) (lf c - 1) := fun c x y => ⟨(G c x y).1.fr P10 (by decide) (by decide), (G c x y).2.1.fr P10 (by decide) (by decide), (G c x y).2.2.fr P10 (by decide) (by decide)⟩
    rw [← W10] at hK ⊢
    refine ab_aload_n X 0 d_MO_write_13 rfl rfl ?_
    refine ab_gR X fl_MO_45 d_MO_write_14 (by first | assumption | decide | (show _ < 124; omega) | (show _ < 61; omega) | (show _ < 20; omega)) (P10.1.mo11) ?_
    refine ab_iload_n X 2 d_MO_write_17 rfl rfl ?_
    refine ab_iald X (3 * p1 + j) ⟨rfl, rfl⟩ d_MO_write_18 (by first | assumption | decide | (show _ < 124; omega) | (show _ < 61; omega) | (show _ < 20; omega)) (rfl) (show 3 * p1 + j < 72 by omega) (ab_ln_lt _ _) ?_
    refine ab_top (P10.ai (by decide) ew) ?_
    refine ab_istore_n3 X 0 1 2 d_MO_write_19 rfl (by decide) rfl rfl rfl rfl rfl rfl ?_
    refine ab_aload_n X 1 d_MO_write_20 rfl rfl ?_
    refine ab_gR X fl_MO_42 d_MO_write_21 (by first | assumption | decide | (show _ < 124; omega) | (show _ < 61; omega) | (show _ < 20; omega)) (P10.1.mo10) ?_
    refine ab_iconst (v := 4) X d_MO_write_24 (by decide) ?_
    refine ab_iload_n X 2 d_MO_write_25 rfl rfl ?_
    refine ab_imul X d_MO_write_26 ?_
    refine ab_iald X (4 * p1) ⟨rfl, rfl⟩ d_MO_write_27 (by first | assumption | decide | (show _ < 124; omega) | (show _ < 61; omega) | (show _ < 20; omega)) (nI_4m p1) (show 4 * p1 < 160 by omega) (ab_ln_lt _ _) ?_
    refine ab_top (P10.ai (by decide) ex) ?_
    refine ab_istore4 X 0 1 2 3 d_MO_write_28 (by decide) rfl rfl rfl rfl rfl rfl rfl rfl ?_
    refine ab_aload_n X 2 d_MO_write_30 rfl rfl ?_
    refine ab_gR X fl_MO_42 d_MO_write_31 (by first | assumption | decide | (show _ < 124; omega) | (show _ < 61; omega) | (show _ < 20; omega)) (P10.1.mo10) ?_
    refine ab_iconst (v := 4) X d_MO_write_34 (by decide) ?_
    refine ab_iload_n X 3 d_MO_write_35 rfl rfl ?_
    refine ab_imul X d_MO_write_36 ?_
    refine ab_iconst (v := 1) X d_MO_write_37 (by decide) ?_
    refine ab_iadd X d_MO_write_38 ?_
    refine ab_iald X (4 * p1 + 1) ⟨rfl, rfl⟩ d_MO_write_39 (by first | assumption | decide | (show _ < 124; omega) | (show _ < 61; omega) | (show _ < 20; omega)) (nI_4b p1) (show 4 * p1 + 1 < 160 by omega) (ab_ln_lt _ _) ?_
    refine ab_top (P10.ai (by decide) ey) ?_
    obtain ⟨gx0, gx1, gx2⟩ := G10 _ x1 x2
    obtain ⟨gy0, gy1, gy2⟩ := G10 _ y1 y2
    have bx := gx0.2.2
    have bx1 := gx1.2.2
    have bx2 := gx2.2.2
    have by0 := gy0.2.2
    have by1 := gy1.2.2
    have by2 := gy2.2.2
    have hk0 : wl u10 p1 (cn p1) (ch p1) 6 = lnu u10 (3 * ch p1 0) + lnu u10 (3 * ch p1 1 + 1) + 3 := by simp [wl]
    refine ab_istore5 X 0 1 2 3 4 d_MO_write_40 (by decide) rfl rfl rfl rfl rfl rfl rfl rfl rfl rfl ?_
    refine ab_iload_n X 2 d_MO_write_42 rfl rfl ?_
    refine ab_iconst (v := 1) X d_MO_write_43 (by decide) ?_
    refine ab_icmp_eq X 59 d_MO_write_44 rfl (fun hb => absurd hb ((by decide))) (fun _ => ?_)
    refine ab_iload_n X 2 d_MO_write_47 rfl rfl ?_
    refine ab_bipush (v := 11) X d_MO_write_48 (by decide) ?_
    refine ab_icmp_eq X 59 d_MO_write_50 rfl (fun hb => absurd hb ((by decide))) (fun _ => ?_)
    refine ab_iload_n X 2 d_MO_write_53 rfl rfl ?_
    refine ab_bipush (v := 12) X d_MO_write_54 (by decide) ?_
    refine ab_icmp_ne X 75 d_MO_write_56 rfl (fun _ => ?_) (fun hb => absurd hb ((by decide)))
    refine ab_iload_n X 2 d_MO_write_75 rfl rfl ?_
    refine ab_iconst (v := 2) X d_MO_write_76 (by decide) ?_
    refine ab_icmp_ne X 96 d_MO_write_77 rfl (fun _ => ?_) (fun hb => absurd hb ((by decide)))
    refine ab_iload_n X 2 d_MO_write_96 rfl rfl ?_
    refine ab_iconst (v := 3) X d_MO_write_97 (by decide) ?_
    refine ab_icmp_ne X 117 d_MO_write_98 rfl (fun _ => ?_) (fun hb => absurd hb ((by decide)))
    refine ab_iload_n X 2 d_MO_write_117 rfl rfl ?_
    refine ab_iconst (v := 4) X d_MO_write_118 (by decide) ?_
    refine ab_icmp_ne X 136 d_MO_write_119 rfl (fun _ => ?_) (fun hb => absurd hb ((by decide)))
    refine ab_iload_n X 2 d_MO_write_136 rfl rfl ?_
    refine ab_iconst (v := 5) X d_MO_write_137 (by decide) ?_
    refine ab_icmp_ne X 155 d_MO_write_138 rfl (fun _ => ?_) (fun hb => absurd hb ((by decide)))
    refine ab_iload_n X 2 d_MO_write_155 rfl rfl ?_
    refine ab_bipush (v := 6) X d_MO_write_156 (by decide) ?_
    refine ab_icmp_ne X 175 d_MO_write_158 rfl (fun hb => absurd ((by decide)) hb) (fun _ => ?_)
    refine ab_aload_n X 3 d_MO_write_161 rfl rfl ?_
    refine ab_iload X 1 d_MO_write_162 rfl ?_
    refine ab_callS (as := [ab_I (nI (ch p1 0))]) X (fun h => by cases h) (t_MO_b u10 (ch p1 0)) ls_MO_204 d_MO_write_164 rfl rfl ⟨by first | exact Nat.le_of_ble_eq_true rfl | (simp only [ab_rm]; omega), by first | exact Nat.le_of_ble_eq_true rfl | (simp only [ab_rm]; omega)⟩ ⟨by first | exact Nat.le_of_ble_eq_true rfl | (simp only [ab_rm]; omega), by first | exact Nat.le_of_ble_eq_true rfl | (simp only [ab_rm]; omega)⟩ (Nat.le_of_ble_eq_true rfl) (fun u164 r164 h164 => ?_)
    obtain ⟨e164, rfl⟩ := h164
    subst u164
    refine ab_iload X 0 d_MO_write_167 rfl ?_
    refine ab_callS (as := [ab_I (nI (ch p1 1))]) X (fun h => by cases h) (t_MO_d u10 (ch p1 1)) ls_MO_195 d_MO_write_169 rfl rfl ⟨by first | exact Nat.le_of_ble_eq_true rfl | (simp only [ab_rm]; omega), by first | exact Nat.le_of_ble_eq_true rfl | (simp only [ab_rm]; omega)⟩ ⟨by first | exact Nat.le_of_ble_eq_true rfl | (simp only [ab_rm]; omega), by first | exact Nat.le_of_ble_eq_true rfl | (simp only [ab_rm]; omega)⟩ (Nat.le_of_ble_eq_true rfl) (fun u169 r169 h169 => ?_)
    obtain ⟨e169, rfl⟩ := h169
    subst u169
    refine ab_callV (as := [ab_I (nI (3 * ch p1 0)), ab_I (nI (3 * ch p1 1 + 1))]) X (fun h => by cases h) (s_MO_sayIf u10 u10 _ _ _ h10 (by omega) (3 * ch p1 0) (3 * ch p1 1 + 1) (lnu u10 (3 * ch p1 0)) (lnu u10 (3 * ch p1 1 + 1)) (by omega) gx0.1.2.2 (by omega) gx0.1.1 (by omega) gy1.1.2.2 (by omega) gy1.1.1 (by omega)) lk_MO_251 d_MO_write_172 rfl rfl (by first | assumption | decide | (show _ < 124; omega) | (show _ < 61; omega) | (show _ < 20; omega)) ⟨by first | exact Nat.le_of_ble_eq_true rfl | (simp only [ab_rm]; omega), by first | exact Nat.le_of_ble_eq_true rfl | (simp only [ab_rm]; omega)⟩ ⟨by first | exact Nat.le_of_ble_eq_true rfl | (simp only [ab_rm]; omega), by first | exact Nat.le_of_ble_eq_true rfl | (simp only [ab_rm]; omega)⟩ (Nat.le_of_ble_eq_true rfl) (fun u172 r172 h172 => ?_)
    obtain ⟨q172, rfl⟩ := h172
    have P172 := q172.1
    refine ab_iload_n X 2 d_MO_write_175 rfl rfl ?_
    refine ab_bipush (v := 7) X d_MO_write_176 (by decide) ?_
    refine ab_icmp_ne X 186 d_MO_write_178 rfl (fun _ => ?_) (fun hb => absurd hb ((by decide)))
    refine ab_iload_n X 2 d_MO_write_186 rfl rfl ?_
    refine ab_bipush (v := 8) X d_MO_write_187 (by decide) ?_
    refine ab_icmp_ne X 228 d_MO_write_189 rfl (fun _ => ?_) (fun hb => absurd hb ((by decide)))
    refine ab_iload_n X 2 d_MO_write_228 rfl rfl ?_
    refine ab_bipush (v := 12) X d_MO_write_229 (by decide) ?_
    refine ab_icmp_le X 244 d_MO_write_231 rfl (fun _ => ?_) (fun hb => absurd ((by decide)) hb)
    exact ab_retv X hr0 hlk d_MO_write_244 ⟨wr.done P10 (q172.cast (by omega)) (bal_if gx0.2.1 gy1.2.1) (by simp only [List.nil_append, cas_app, cas_nil, cas_10, cas_1, cas_2, cas_3, cas_4, cas_5, cas_6, cas_7, cas_8, cas_9, cas_11, cas_12, cas_13, cas_14, cas_15, cas_16, cas_17]; omega), rfl⟩
  ·
    refine ab_aload_n X 0 d_MO_write_0 rfl rfl ?_
    refine ab_bipush (v := 100) X d_MO_write_1 (by decide) ?_
    refine ab_iload_n X 2 d_MO_write_3 rfl rfl ?_
    refine ab_imul X d_MO_write_4 ?_
    refine ab_top (nI_100m _) ?_
    refine ab_putI X fp_MO_63 d_MO_write_5 (by first | assumption | decide | (show _ < 124; omega) | (show _ < 61; omega) | (show _ < 20; omega)) rfl rfl ?_
    refine ab_gen (fun u5 e5 => ?_)
    have P5 : gP [16, 17] u u5 := by rw [e5]; exact P0.ui rfl (by decide)
    refine ab_aload_n X 0 d_MO_write_8 rfl rfl ?_
    refine ab_iconst (v := 0) X d_MO_write_9 (by decide) ?_
    refine ab_putI X fp_MO_60 d_MO_write_10 (by first | assumption | decide | (show _ < 124; omega) | (show _ < 61; omega) | (show _ < 20; omega)) rfl rfl ?_
    refine ab_gen (fun u10 e10 => ?_)
    have P10 : gP [16, 17] u u10 := by rw [e10]; exact P5.ui rfl (by decide)
    have h10 : wr u10 u10 (100 * (3 * p1 + j)) 0 [] := ⟨gP.rf P10.1, by rw [e10, e5]; simp [ab_up], by rw [e10]; simp [ab_up]; rfl, rfl, fun _ _ => rfl⟩
    have T10 := T.fr P10 (by decide) (by decide) (by decide) (by decide) (by decide)
    have W10 := wl_fr P10 (by decide) p1 (cn p1) 7 (ch p1)
    have G10 : ∀ c, p1 < c → c < P → fG u10 (3 * c) (lf c - 1) ∧ fG u10 (3 * c + 1) (lf c - 1) ∧ fG u10 (3 * c + 2) (lf c - 1) := fun c x y => ⟨(G c x y).1.fr P10 (by decide) (by decide), (G c x y).2.1.fr P10 (by decide) (by decide), (G c x y).2.2.fr P10 (by decide) (by decide)⟩
    rw [← W10] at hK ⊢
    refine ab_aload_n X 0 d_MO_write_13 rfl rfl ?_
    refine ab_gR X fl_MO_45 d_MO_write_14 (by first | assumption | decide | (show _ < 124; omega) | (show _ < 61; omega) | (show _ < 20; omega)) (P10.1.mo11) ?_
    refine ab_iload_n X 2 d_MO_write_17 rfl rfl ?_
    refine ab_iald X (3 * p1 + j) ⟨rfl, rfl⟩ d_MO_write_18 (by first | assumption | decide | (show _ < 124; omega) | (show _ < 61; omega) | (show _ < 20; omega)) (rfl) (show 3 * p1 + j < 72 by omega) (ab_ln_lt _ _) ?_
    refine ab_top (P10.ai (by decide) ew) ?_
    refine ab_istore_n3 X 0 1 2 d_MO_write_19 rfl (by decide) rfl rfl rfl rfl rfl rfl ?_
    refine ab_aload_n X 1 d_MO_write_20 rfl rfl ?_
    refine ab_gR X fl_MO_42 d_MO_write_21 (by first | assumption | decide | (show _ < 124; omega) | (show _ < 61; omega) | (show _ < 20; omega)) (P10.1.mo10) ?_
    refine ab_iconst (v := 4) X d_MO_write_24 (by decide) ?_
    refine ab_iload_n X 2 d_MO_write_25 rfl rfl ?_
    refine ab_imul X d_MO_write_26 ?_
    refine ab_iald X (4 * p1) ⟨rfl, rfl⟩ d_MO_write_27 (by first | assumption | decide | (show _ < 124; omega) | (show _ < 61; omega) | (show _ < 20; omega)) (nI_4m p1) (show 4 * p1 < 160 by omega) (ab_ln_lt _ _) ?_
    refine ab_istore4 X 0 1 2 3 d_MO_write_28 (by decide) rfl rfl rfl rfl rfl rfl rfl rfl ?_
    refine ab_aload_n X 2 d_MO_write_30 rfl rfl ?_
    refine ab_gR X fl_MO_42 d_MO_write_31 (by first | assumption | decide | (show _ < 124; omega) | (show _ < 61; omega) | (show _ < 20; omega)) (P10.1.mo10) ?_
    refine ab_iconst (v := 4) X d_MO_write_34 (by decide) ?_
    refine ab_iload_n X 3 d_MO_write_35 rfl rfl ?_
    refine ab_imul X d_MO_write_36 ?_
    refine ab_iconst (v := 1) X d_MO_write_37 (by decide) ?_
    refine ab_iadd X d_MO_write_38 ?_
    refine ab_iald X (4 * p1 + 1) ⟨rfl, rfl⟩ d_MO_write_39 (by first | assumption | decide | (show _ < 124; omega) | (show _ < 61; omega) | (show _ < 20; omega)) (nI_4b p1) (show 4 * p1 + 1 < 160 by omega) (ab_ln_lt _ _) ?_
    refine ab_istore5 X 0 1 2 3 4 d_MO_write_40 (by decide) rfl rfl rfl rfl rfl rfl rfl rfl rfl rfl ?_
    refine ab_iload_n X 2 d_MO_write_42 rfl rfl ?_
    refine ab_iconst (v := 1) X d_MO_write_43 (by decide) ?_
    refine ab_icmp_eq X 59 d_MO_write_44 rfl (fun hb => absurd hb ((by decide))) (fun _ => ?_)
    refine ab_iload_n X 2 d_MO_write_47 rfl rfl ?_
    refine ab_bipush (v := 11) X d_MO_write_48 (by decide) ?_
    refine ab_icmp_eq X 59 d_MO_write_50 rfl (fun hb => absurd hb ((by decide))) (fun _ => ?_)
    refine ab_iload_n X 2 d_MO_write_53 rfl rfl ?_
    refine ab_bipush (v := 12) X d_MO_write_54 (by decide) ?_
    refine ab_icmp_ne X 75 d_MO_write_56 rfl (fun _ => ?_) (fun hb => absurd hb ((by decide)))
    refine ab_iload_n X 2 d_MO_write_75 rfl rfl ?_
    refine ab_iconst (v := 2) X d_MO_write_76 (by decide) ?_
    refine ab_icmp_ne X 96 d_MO_write_77 rfl (fun _ => ?_) (fun hb => absurd hb ((by decide)))
    refine ab_iload_n X 2 d_MO_write_96 rfl rfl ?_
    refine ab_iconst (v := 3) X d_MO_write_97 (by decide) ?_
    refine ab_icmp_ne X 117 d_MO_write_98 rfl (fun _ => ?_) (fun hb => absurd hb ((by decide)))
    refine ab_iload_n X 2 d_MO_write_117 rfl rfl ?_
    refine ab_iconst (v := 4) X d_MO_write_118 (by decide) ?_
    refine ab_icmp_ne X 136 d_MO_write_119 rfl (fun _ => ?_) (fun hb => absurd hb ((by decide)))
    refine ab_iload_n X 2 d_MO_write_136 rfl rfl ?_
    refine ab_iconst (v := 5) X d_MO_write_137 (by decide) ?_
    refine ab_icmp_ne X 155 d_MO_write_138 rfl (fun _ => ?_) (fun hb => absurd hb ((by decide)))
    refine ab_iload_n X 2 d_MO_write_155 rfl rfl ?_
    refine ab_bipush (v := 6) X d_MO_write_156 (by decide) ?_
    refine ab_icmp_ne X 175 d_MO_write_158 rfl (fun _ => ?_) (fun hb => absurd hb ((by decide)))
    refine ab_iload_n X 2 d_MO_write_175 rfl rfl ?_
    refine ab_bipush (v := 7) X d_MO_write_176 (by decide) ?_
    refine ab_icmp_ne X 186 d_MO_write_178 rfl (fun hb => absurd ((by decide)) hb) (fun _ => ?_)
    refine ab_aload_n X 3 d_MO_write_181 rfl rfl ?_
    refine ab_iload_n X 4 d_MO_write_182 rfl rfl ?_
    refine ab_callV (as := [ab_I (nI p1)]) X (fun h => by cases h) (s_MO_sayThreshold u10 u10 P kd ar cn lf ch W T10 p1 j hp hj (by unfold app at ha; omega) G10 hK h10) lk_MO_254 d_MO_write_183 rfl rfl (by first | assumption | decide | (show _ < 124; omega) | (show _ < 61; omega) | (show _ < 20; omega)) ⟨by first | exact Nat.le_of_ble_eq_true rfl | (simp only [ab_rm]; omega), by first | exact Nat.le_of_ble_eq_true rfl | (simp only [ab_rm]; omega)⟩ ⟨by first | exact Nat.le_of_ble_eq_true rfl | (simp only [ab_rm]; omega), by first | exact Nat.le_of_ble_eq_true rfl | (simp only [ab_rm]; omega)⟩ (Nat.le_of_ble_eq_true rfl) (fun u183 r183 h183 => ?_)
    obtain ⟨⟨L, q183, hb1, hc1⟩, rfl⟩ := h183
    have P183 := q183.1
    refine ab_iload_n X 2 d_MO_write_186 rfl rfl ?_
    refine ab_bipush (v := 8) X d_MO_write_187 (by decide) ?_
    refine ab_icmp_ne X 228 d_MO_write_189 rfl (fun _ => ?_) (fun hb => absurd hb ((by decide)))
    refine ab_iload_n X 2 d_MO_write_228 rfl rfl ?_
    refine ab_bipush (v := 12) X d_MO_write_229 (by decide) ?_
    refine ab_icmp_le X 244 d_MO_write_231 rfl (fun _ => ?_) (fun hb => absurd ((by decide)) hb)
    exact ab_retv X hr0 hlk d_MO_write_244 ⟨wr.done P10 q183 hb1 hc1, rfl⟩
  ·
    refine ab_aload_n X 0 d_MO_write_0 rfl rfl ?_
    refine ab_bipush (v := 100) X d_MO_write_1 (by decide) ?_
    refine ab_iload_n X 2 d_MO_write_3 rfl rfl ?_
    refine ab_imul X d_MO_write_4 ?_
    refine ab_top (nI_100m _) ?_
    refine ab_putI X fp_MO_63 d_MO_write_5 (by first | assumption | decide | (show _ < 124; omega) | (show _ < 61; omega) | (show _ < 20; omega)) rfl rfl ?_
    refine ab_gen (fun u5 e5 => ?_)
    have P5 : gP [16, 17] u u5 := by rw [e5]; exact P0.ui rfl (by decide)
    refine ab_aload_n X 0 d_MO_write_8 rfl rfl ?_
    refine ab_iconst (v := 0) X d_MO_write_9 (by decide) ?_
    refine ab_putI X fp_MO_60 d_MO_write_10 (by first | assumption | decide | (show _ < 124; omega) | (show _ < 61; omega) | (show _ < 20; omega)) rfl rfl ?_
    refine ab_gen (fun u10 e10 => ?_)
    have P10 : gP [16, 17] u u10 := by rw [e10]; exact P5.ui rfl (by decide)
    have h10 : wr u10 u10 (100 * (3 * p1 + j)) 0 [] := ⟨gP.rf P10.1, by rw [e10, e5]; simp [ab_up], by rw [e10]; simp [ab_up]; rfl, rfl, fun _ _ => rfl⟩
    have T10 := T.fr P10 (by decide) (by decide) (by decide) (by decide) (by decide)
    have W10 := wl_fr P10 (by decide) p1 (cn p1) 8 (ch p1)
    have G10 : ∀ c, p1 < c → c < P → fG u10 (3 * c) (lf c - 1) ∧ fG u10 (3 * c + 1) (lf c - 1) ∧ fG u10 (3 * c + 2) (lf c - 1) := fun c x y => ⟨(G c x y).1.fr P10 (by decide) (by decide), (G c x y).2.1.fr P10 (by decide) (by decide), (G c x y).2.2.fr P10 (by decide) (by decide)⟩
    rw [← W10] at hK ⊢
    refine ab_aload_n X 0 d_MO_write_13 rfl rfl ?_
    refine ab_gR X fl_MO_45 d_MO_write_14 (by first | assumption | decide | (show _ < 124; omega) | (show _ < 61; omega) | (show _ < 20; omega)) (P10.1.mo11) ?_
    refine ab_iload_n X 2 d_MO_write_17 rfl rfl ?_
    refine ab_iald X (3 * p1 + j) ⟨rfl, rfl⟩ d_MO_write_18 (by first | assumption | decide | (show _ < 124; omega) | (show _ < 61; omega) | (show _ < 20; omega)) (rfl) (show 3 * p1 + j < 72 by omega) (ab_ln_lt _ _) ?_
    refine ab_top (P10.ai (by decide) ew) ?_
    refine ab_istore_n3 X 0 1 2 d_MO_write_19 rfl (by decide) rfl rfl rfl rfl rfl rfl ?_
    refine ab_aload_n X 1 d_MO_write_20 rfl rfl ?_
    refine ab_gR X fl_MO_42 d_MO_write_21 (by first | assumption | decide | (show _ < 124; omega) | (show _ < 61; omega) | (show _ < 20; omega)) (P10.1.mo10) ?_
    refine ab_iconst (v := 4) X d_MO_write_24 (by decide) ?_
    refine ab_iload_n X 2 d_MO_write_25 rfl rfl ?_
    refine ab_imul X d_MO_write_26 ?_
    refine ab_iald X (4 * p1) ⟨rfl, rfl⟩ d_MO_write_27 (by first | assumption | decide | (show _ < 124; omega) | (show _ < 61; omega) | (show _ < 20; omega)) (nI_4m p1) (show 4 * p1 < 160 by omega) (ab_ln_lt _ _) ?_
    refine ab_istore4 X 0 1 2 3 d_MO_write_28 (by decide) rfl rfl rfl rfl rfl rfl rfl rfl ?_
    refine ab_aload_n X 2 d_MO_write_30 rfl rfl ?_
    refine ab_gR X fl_MO_42 d_MO_write_31 (by first | assumption | decide | (show _ < 124; omega) | (show _ < 61; omega) | (show _ < 20; omega)) (P10.1.mo10) ?_
    refine ab_iconst (v := 4) X d_MO_write_34 (by decide) ?_
    refine ab_iload_n X 3 d_MO_write_35 rfl rfl ?_
    refine ab_imul X d_MO_write_36 ?_
    refine ab_iconst (v := 1) X d_MO_write_37 (by decide) ?_
    refine ab_iadd X d_MO_write_38 ?_
    refine ab_iald X (4 * p1 + 1) ⟨rfl, rfl⟩ d_MO_write_39 (by first | assumption | decide | (show _ < 124; omega) | (show _ < 61; omega) | (show _ < 20; omega)) (nI_4b p1) (show 4 * p1 + 1 < 160 by omega) (ab_ln_lt _ _) ?_
    obtain ⟨j0, gB⟩ := hB (by omega)
    have gB := gB.fr P10 (by decide) (by decide)
    have hk0 : wl u10 p1 (cn p1) (ch p1) 8 = lnu u10 (3 * p1) + 4 := by simp [wl]
    have bB := gB.2.2
    refine ab_istore5 X 0 1 2 3 4 d_MO_write_40 (by decide) rfl rfl rfl rfl rfl rfl rfl rfl rfl rfl ?_
    refine ab_iload_n X 2 d_MO_write_42 rfl rfl ?_
    refine ab_iconst (v := 1) X d_MO_write_43 (by decide) ?_
    refine ab_icmp_eq X 59 d_MO_write_44 rfl (fun hb => absurd hb ((by decide))) (fun _ => ?_)
    refine ab_iload_n X 2 d_MO_write_47 rfl rfl ?_
    refine ab_bipush (v := 11) X d_MO_write_48 (by decide) ?_
    refine ab_icmp_eq X 59 d_MO_write_50 rfl (fun hb => absurd hb ((by decide))) (fun _ => ?_)
    refine ab_iload_n X 2 d_MO_write_53 rfl rfl ?_
    refine ab_bipush (v := 12) X d_MO_write_54 (by decide) ?_
    refine ab_icmp_ne X 75 d_MO_write_56 rfl (fun _ => ?_) (fun hb => absurd hb ((by decide)))
    refine ab_iload_n X 2 d_MO_write_75 rfl rfl ?_
    refine ab_iconst (v := 2) X d_MO_write_76 (by decide) ?_
    refine ab_icmp_ne X 96 d_MO_write_77 rfl (fun _ => ?_) (fun hb => absurd hb ((by decide)))
    refine ab_iload_n X 2 d_MO_write_96 rfl rfl ?_
    refine ab_iconst (v := 3) X d_MO_write_97 (by decide) ?_
    refine ab_icmp_ne X 117 d_MO_write_98 rfl (fun _ => ?_) (fun hb => absurd hb ((by decide)))
    refine ab_iload_n X 2 d_MO_write_117 rfl rfl ?_
    refine ab_iconst (v := 4) X d_MO_write_118 (by decide) ?_
    refine ab_icmp_ne X 136 d_MO_write_119 rfl (fun _ => ?_) (fun hb => absurd hb ((by decide)))
    refine ab_iload_n X 2 d_MO_write_136 rfl rfl ?_
    refine ab_iconst (v := 5) X d_MO_write_137 (by decide) ?_
    refine ab_icmp_ne X 155 d_MO_write_138 rfl (fun _ => ?_) (fun hb => absurd hb ((by decide)))
    refine ab_iload_n X 2 d_MO_write_155 rfl rfl ?_
    refine ab_bipush (v := 6) X d_MO_write_156 (by decide) ?_
    refine ab_icmp_ne X 175 d_MO_write_158 rfl (fun _ => ?_) (fun hb => absurd hb ((by decide)))
    refine ab_iload_n X 2 d_MO_write_175 rfl rfl ?_
    refine ab_bipush (v := 7) X d_MO_write_176 (by decide) ?_
    refine ab_icmp_ne X 186 d_MO_write_178 rfl (fun _ => ?_) (fun hb => absurd hb ((by decide)))
    refine ab_iload_n X 2 d_MO_write_186 rfl rfl ?_
    refine ab_bipush (v := 8) X d_MO_write_187 (by decide) ?_
    refine ab_icmp_ne X 228 d_MO_write_189 rfl (fun hb => absurd ((by decide)) hb) (fun _ => ?_)
    refine ab_aload_n X 3 d_MO_write_192 rfl rfl ?_
    refine ab_bipush (v := 12) X d_MO_write_193 (by decide) ?_
    refine ab_iconst (v := 0) X d_MO_write_195 (by decide) ?_
    refine ab_callV (as := [ab_I (nI 12), ab_I (nI 0)]) X (fun h => by cases h) (s_MO_say u10 u10 _ _ _ h10 (by omega) (by omega) 12 0 (by decide) (by decide)) lk_MO_242 d_MO_write_196 rfl rfl (by first | assumption | decide | (show _ < 124; omega) | (show _ < 61; omega) | (show _ < 20; omega)) ⟨by first | exact Nat.le_of_ble_eq_true rfl | (simp only [ab_rm]; omega), by first | exact Nat.le_of_ble_eq_true rfl | (simp only [ab_rm]; omega)⟩ ⟨by first | exact Nat.le_of_ble_eq_true rfl | (simp only [ab_rm]; omega), by first | exact Nat.le_of_ble_eq_true rfl | (simp only [ab_rm]; omega)⟩ (Nat.le_of_ble_eq_true rfl) (fun u196 r196 h196 => ?_)
    obtain ⟨q196, rfl⟩ := h196
    have P196 := q196.1
    refine ab_aload_n X 3 d_MO_write_199 rfl rfl ?_
    refine ab_iload_n X 4 d_MO_write_200 rfl rfl ?_
    refine ab_callS (as := [ab_I (nI p1)]) X (fun h => by cases h) (t_MO_b u196 p1) ls_MO_204 d_MO_write_201 rfl rfl ⟨by first | exact Nat.le_of_ble_eq_true rfl | (simp only [ab_rm]; omega), by first | exact Nat.le_of_ble_eq_true rfl | (simp only [ab_rm]; omega)⟩ ⟨by first | exact Nat.le_of_ble_eq_true rfl | (simp only [ab_rm]; omega), by first | exact Nat.le_of_ble_eq_true rfl | (simp only [ab_rm]; omega)⟩ (Nat.le_of_ble_eq_true rfl) (fun u201 r201 h201 => ?_)
    obtain ⟨e201, rfl⟩ := h201
    subst u201
    refine ab_callV (as := [ab_I (nI (3 * p1))]) X (fun h => by cases h) (s_MO_sayForm u10 u196 _ _ _ q196 (by omega) (3 * p1) (lnu u10 (3 * p1)) (by omega) gB.1.2.2 (by omega) gB.1.1 (by omega)) lk_MO_239 d_MO_write_204 rfl rfl (by first | assumption | decide | (show _ < 124; omega) | (show _ < 61; omega) | (show _ < 20; omega)) ⟨by first | exact Nat.le_of_ble_eq_true rfl | (simp only [ab_rm]; omega), by first | exact Nat.le_of_ble_eq_true rfl | (simp only [ab_rm]; omega)⟩ ⟨by first | exact Nat.le_of_ble_eq_true rfl | (simp only [ab_rm]; omega), by first | exact Nat.le_of_ble_eq_true rfl | (simp only [ab_rm]; omega)⟩ (Nat.le_of_ble_eq_true rfl) (fun u204 r204 h204 => ?_)
    obtain ⟨q204, rfl⟩ := h204
    have P204 := q204.1
    refine ab_aload_n X 3 d_MO_write_207 rfl rfl ?_
    refine ab_bipush (v := 13) X d_MO_write_208 (by decide) ?_
    refine ab_iconst (v := 0) X d_MO_write_210 (by decide) ?_
    refine ab_callV (as := [ab_I (nI 13), ab_I (nI 0)]) X (fun h => by cases h) (s_MO_say u10 u204 _ _ _ q204 (by omega) (by omega) 13 0 (by decide) (by decide)) lk_MO_242 d_MO_write_211 rfl rfl (by first | assumption | decide | (show _ < 124; omega) | (show _ < 61; omega) | (show _ < 20; omega)) ⟨by first | exact Nat.le_of_ble_eq_true rfl | (simp only [ab_rm]; omega), by first | exact Nat.le_of_ble_eq_true rfl | (simp only [ab_rm]; omega)⟩ ⟨by first | exact Nat.le_of_ble_eq_true rfl | (simp only [ab_rm]; omega), by first | exact Nat.le_of_ble_eq_true rfl | (simp only [ab_rm]; omega)⟩ (Nat.le_of_ble_eq_true rfl) (fun u211 r211 h211 => ?_)
    obtain ⟨q211, rfl⟩ := h211
    have P211 := q211.1
    refine ab_aload_n X 3 d_MO_write_214 rfl rfl ?_
    refine ab_bipush (v := 17) X d_MO_write_215 (by decide) ?_
    refine ab_iconst (v := 0) X d_MO_write_217 (by decide) ?_
    refine ab_callV (as := [ab_I (nI 17), ab_I (nI 0)]) X (fun h => by cases h) (s_MO_say u10 u211 _ _ _ q211 (by omega) (by omega) 17 0 (by decide) (by decide)) lk_MO_242 d_MO_write_218 rfl rfl (by first | assumption | decide | (show _ < 124; omega) | (show _ < 61; omega) | (show _ < 20; omega)) ⟨by first | exact Nat.le_of_ble_eq_true rfl | (simp only [ab_rm]; omega), by first | exact Nat.le_of_ble_eq_true rfl | (simp only [ab_rm]; omega)⟩ ⟨by first | exact Nat.le_of_ble_eq_true rfl | (simp only [ab_rm]; omega), by first | exact Nat.le_of_ble_eq_true rfl | (simp only [ab_rm]; omega)⟩ (Nat.le_of_ble_eq_true rfl) (fun u218 r218 h218 => ?_)
    obtain ⟨q218, rfl⟩ := h218
    have P218 := q218.1
    refine ab_aload_n X 3 d_MO_write_221 rfl rfl ?_
    refine ab_bipush (v := 14) X d_MO_write_222 (by decide) ?_
    refine ab_iconst (v := 0) X d_MO_write_224 (by decide) ?_
    refine ab_callV (as := [ab_I (nI 14), ab_I (nI 0)]) X (fun h => by cases h) (s_MO_say u10 u218 _ _ _ q218 (by omega) (by omega) 14 0 (by decide) (by decide)) lk_MO_242 d_MO_write_225 rfl rfl (by first | assumption | decide | (show _ < 124; omega) | (show _ < 61; omega) | (show _ < 20; omega)) ⟨by first | exact Nat.le_of_ble_eq_true rfl | (simp only [ab_rm]; omega), by first | exact Nat.le_of_ble_eq_true rfl | (simp only [ab_rm]; omega)⟩ ⟨by first | exact Nat.le_of_ble_eq_true rfl | (simp only [ab_rm]; omega), by first | exact Nat.le_of_ble_eq_true rfl | (simp only [ab_rm]; omega)⟩ (Nat.le_of_ble_eq_true rfl) (fun u225 r225 h225 => ?_)
    obtain ⟨q225, rfl⟩ := h225
    have P225 := q225.1
    refine ab_iload_n X 2 d_MO_write_228 rfl rfl ?_
    refine ab_bipush (v := 12) X d_MO_write_229 (by decide) ?_
    refine ab_icmp_le X 244 d_MO_write_231 rfl (fun _ => ?_) (fun hb => absurd ((by decide)) hb)
    exact ab_retv X hr0 hlk d_MO_write_244 ⟨wr.done P10 (q225.cast (by omega)) (bal_zero gB.2.1) (by simp only [List.nil_append, cas_app, cas_nil, cas_10, cas_1, cas_2, cas_3, cas_4, cas_5, cas_6, cas_7, cas_8, cas_9, cas_11, cas_12, cas_13, cas_14, cas_15, cas_16, cas_17]; omega), rfl⟩
  ·
    refine ab_aload_n X 0 d_MO_write_0 rfl rfl ?_
    refine ab_bipush (v := 100) X d_MO_write_1 (by decide) ?_
    refine ab_iload_n X 2 d_MO_write_3 rfl rfl ?_
    refine ab_imul X d_MO_write_4 ?_
    refine ab_top (nI_100m _) ?_
    refine ab_putI X fp_MO_63 d_MO_write_5 (by first | assumption | decide | (show _ < 124; omega) | (show _ < 61; omega) | (show _ < 20; omega)) rfl rfl ?_
    refine ab_gen (fun u5 e5 => ?_)
    have P5 : gP [16, 17] u u5 := by rw [e5]; exact P0.ui rfl (by decide)
    refine ab_aload_n X 0 d_MO_write_8 rfl rfl ?_
    refine ab_iconst (v := 0) X d_MO_write_9 (by decide) ?_
    refine ab_putI X fp_MO_60 d_MO_write_10 (by first | assumption | decide | (show _ < 124; omega) | (show _ < 61; omega) | (show _ < 20; omega)) rfl rfl ?_
    refine ab_gen (fun u10 e10 => ?_)
    have P10 : gP [16, 17] u u10 := by rw [e10]; exact P5.ui rfl (by decide)
    have h10 : wr u10 u10 (100 * (3 * p1 + j)) 0 [] := ⟨gP.rf P10.1, by rw [e10, e5]; simp [ab_up], by rw [e10]; simp [ab_up]; rfl, rfl, fun _ _ => rfl⟩
    have T10 := T.fr P10 (by decide) (by decide) (by decide) (by decide) (by decide)
    have W10 := wl_fr P10 (by decide) p1 (cn p1) 11 (ch p1)
    have G10 : ∀ c, p1 < c → c < P → fG u10 (3 * c) (lf c - 1) ∧ fG u10 (3 * c + 1) (lf c - 1) ∧ fG u10 (3 * c + 2) (lf c - 1) := fun c x y => ⟨(G c x y).1.fr P10 (by decide) (by decide), (G c x y).2.1.fr P10 (by decide) (by decide), (G c x y).2.2.fr P10 (by decide) (by decide)⟩
    rw [← W10] at hK ⊢
    refine ab_aload_n X 0 d_MO_write_13 rfl rfl ?_
    refine ab_gR X fl_MO_45 d_MO_write_14 (by first | assumption | decide | (show _ < 124; omega) | (show _ < 61; omega) | (show _ < 20; omega)) (P10.1.mo11) ?_
    refine ab_iload_n X 2 d_MO_write_17 rfl rfl ?_
    refine ab_iald X (3 * p1 + j) ⟨rfl, rfl⟩ d_MO_write_18 (by first | assumption | decide | (show _ < 124; omega) | (show _ < 61; omega) | (show _ < 20; omega)) (rfl) (show 3 * p1 + j < 72 by omega) (ab_ln_lt _ _) ?_
    refine ab_top (P10.ai (by decide) ew) ?_
    refine ab_istore_n3 X 0 1 2 d_MO_write_19 rfl (by decide) rfl rfl rfl rfl rfl rfl ?_
    refine ab_aload_n X 1 d_MO_write_20 rfl rfl ?_
    refine ab_gR X fl_MO_42 d_MO_write_21 (by first | assumption | decide | (show _ < 124; omega) | (show _ < 61; omega) | (show _ < 20; omega)) (P10.1.mo10) ?_
    refine ab_iconst (v := 4) X d_MO_write_24 (by decide) ?_
    refine ab_iload_n X 2 d_MO_write_25 rfl rfl ?_
    refine ab_imul X d_MO_write_26 ?_
    refine ab_iald X (4 * p1) ⟨rfl, rfl⟩ d_MO_write_27 (by first | assumption | decide | (show _ < 124; omega) | (show _ < 61; omega) | (show _ < 20; omega)) (nI_4m p1) (show 4 * p1 < 160 by omega) (ab_ln_lt _ _) ?_
    refine ab_istore4 X 0 1 2 3 d_MO_write_28 (by decide) rfl rfl rfl rfl rfl rfl rfl rfl ?_
    refine ab_aload_n X 2 d_MO_write_30 rfl rfl ?_
    refine ab_gR X fl_MO_42 d_MO_write_31 (by first | assumption | decide | (show _ < 124; omega) | (show _ < 61; omega) | (show _ < 20; omega)) (P10.1.mo10) ?_
    refine ab_iconst (v := 4) X d_MO_write_34 (by decide) ?_
    refine ab_iload_n X 3 d_MO_write_35 rfl rfl ?_
    refine ab_imul X d_MO_write_36 ?_
    refine ab_iconst (v := 1) X d_MO_write_37 (by decide) ?_
    refine ab_iadd X d_MO_write_38 ?_
    refine ab_iald X (4 * p1 + 1) ⟨rfl, rfl⟩ d_MO_write_39 (by first | assumption | decide | (show _ < 124; omega) | (show _ < 61; omega) | (show _ < 20; omega)) (nI_4b p1) (show 4 * p1 + 1 < 160 by omega) (ab_ln_lt _ _) ?_
    refine ab_istore5 X 0 1 2 3 4 d_MO_write_40 (by decide) rfl rfl rfl rfl rfl rfl rfl rfl rfl rfl ?_
    refine ab_iload_n X 2 d_MO_write_42 rfl rfl ?_
    refine ab_iconst (v := 1) X d_MO_write_43 (by decide) ?_
    refine ab_icmp_eq X 59 d_MO_write_44 rfl (fun hb => absurd hb ((by decide))) (fun _ => ?_)
    refine ab_iload_n X 2 d_MO_write_47 rfl rfl ?_
    refine ab_bipush (v := 11) X d_MO_write_48 (by decide) ?_
    refine ab_icmp_eq X 59 d_MO_write_50 rfl (fun _ => ?_) (fun hb => absurd ((by decide)) hb)
    refine ab_aload_n X 3 d_MO_write_59 rfl rfl ?_
    refine ab_aload_n X 3 d_MO_write_60 rfl rfl ?_
    refine ab_gR X fl_MO_33 d_MO_write_61 (by first | assumption | decide | (show _ < 124; omega) | (show _ < 61; omega) | (show _ < 20; omega)) (P10.1.mo7) ?_
    refine ab_iload_n X 4 d_MO_write_64 rfl rfl ?_
    refine ab_iald X (p1) ⟨rfl, rfl⟩ d_MO_write_65 (by first | assumption | decide | (show _ < 124; omega) | (show _ < 61; omega) | (show _ < 20; omega)) (rfl) (show p1 < 40 by omega) (ab_ln_lt _ _) ?_
    refine ab_top (P10.ai (by decide) ek) ?_
    refine ab_aload_n X 3 d_MO_write_66 rfl rfl ?_
    refine ab_gR X fl_MO_36 d_MO_write_67 (by first | assumption | decide | (show _ < 124; omega) | (show _ < 61; omega) | (show _ < 20; omega)) (P10.1.mo8) ?_
    refine ab_iload_n X 4 d_MO_write_70 rfl rfl ?_
    refine ab_iald X (p1) ⟨rfl, rfl⟩ d_MO_write_71 (by first | assumption | decide | (show _ < 124; omega) | (show _ < 61; omega) | (show _ < 20; omega)) (rfl) (show p1 < 40 by omega) (ab_ln_lt _ _) ?_
    refine ab_top (P10.ai (by decide) ea) ?_
    have k4 : kd p1 ≤ 4 := by unfold app at ha; omega
    refine ab_callV (as := [ab_I (nI (kd p1)), ab_I (nI (ar p1))]) X (fun h => by cases h) (s_MO_say u10 u10 _ _ _ h10 (by omega) (by omega) (kd p1) (ar p1) (by omega) ar9) lk_MO_242 d_MO_write_72 rfl rfl (by first | assumption | decide | (show _ < 124; omega) | (show _ < 61; omega) | (show _ < 20; omega)) ⟨by first | exact Nat.le_of_ble_eq_true rfl | (simp only [ab_rm]; omega), by first | exact Nat.le_of_ble_eq_true rfl | (simp only [ab_rm]; omega)⟩ ⟨by first | exact Nat.le_of_ble_eq_true rfl | (simp only [ab_rm]; omega), by first | exact Nat.le_of_ble_eq_true rfl | (simp only [ab_rm]; omega)⟩ (Nat.le_of_ble_eq_true rfl) (fun u72 r72 h72 => ?_)
    obtain ⟨q72, rfl⟩ := h72
    have P72 := q72.1
    refine ab_iload_n X 2 d_MO_write_75 rfl rfl ?_
    refine ab_iconst (v := 2) X d_MO_write_76 (by decide) ?_
    refine ab_icmp_ne X 96 d_MO_write_77 rfl (fun _ => ?_) (fun hb => absurd hb ((by decide)))
    refine ab_iload_n X 2 d_MO_write_96 rfl rfl ?_
    refine ab_iconst (v := 3) X d_MO_write_97 (by decide) ?_
    refine ab_icmp_ne X 117 d_MO_write_98 rfl (fun _ => ?_) (fun hb => absurd hb ((by decide)))
    refine ab_iload_n X 2 d_MO_write_117 rfl rfl ?_
    refine ab_iconst (v := 4) X d_MO_write_118 (by decide) ?_
    refine ab_icmp_ne X 136 d_MO_write_119 rfl (fun _ => ?_) (fun hb => absurd hb ((by decide)))
    refine ab_iload_n X 2 d_MO_write_136 rfl rfl ?_
    refine ab_iconst (v := 5) X d_MO_write_137 (by decide) ?_
    refine ab_icmp_ne X 155 d_MO_write_138 rfl (fun _ => ?_) (fun hb => absurd hb ((by decide)))
    refine ab_iload_n X 2 d_MO_write_155 rfl rfl ?_
    refine ab_bipush (v := 6) X d_MO_write_156 (by decide) ?_
    refine ab_icmp_ne X 175 d_MO_write_158 rfl (fun _ => ?_) (fun hb => absurd hb ((by decide)))
    refine ab_iload_n X 2 d_MO_write_175 rfl rfl ?_
    refine ab_bipush (v := 7) X d_MO_write_176 (by decide) ?_
    refine ab_icmp_ne X 186 d_MO_write_178 rfl (fun _ => ?_) (fun hb => absurd hb ((by decide)))
    refine ab_iload_n X 2 d_MO_write_186 rfl rfl ?_
    refine ab_bipush (v := 8) X d_MO_write_187 (by decide) ?_
    refine ab_icmp_ne X 228 d_MO_write_189 rfl (fun _ => ?_) (fun hb => absurd hb ((by decide)))
    refine ab_iload_n X 2 d_MO_write_228 rfl rfl ?_
    refine ab_bipush (v := 12) X d_MO_write_229 (by decide) ?_
    refine ab_icmp_le X 244 d_MO_write_231 rfl (fun _ => ?_) (fun hb => absurd ((by decide)) hb)
    exact ab_retv X hr0 hlk d_MO_write_244 ⟨wr.done P10 (q72.cast rfl) (bal_leaf k1 k4).1 (by have z := (bal_leaf k1 k4).2; simp only [List.nil_append, z]; omega), rfl⟩
  ·
    refine ab_aload_n X 0 d_MO_write_0 rfl rfl ?_
    refine ab_bipush (v := 100) X d_MO_write_1 (by decide) ?_
    refine ab_iload_n X 2 d_MO_write_3 rfl rfl ?_
    refine ab_imul X d_MO_write_4 ?_
    refine ab_top (nI_100m _) ?_
    refine ab_putI X fp_MO_63 d_MO_write_5 (by first | assumption | decide | (show _ < 124; omega) | (show _ < 61; omega) | (show _ < 20; omega)) rfl rfl ?_
    refine ab_gen (fun u5 e5 => ?_)
    have P5 : gP [16, 17] u u5 := by rw [e5]; exact P0.ui rfl (by decide)
    refine ab_aload_n X 0 d_MO_write_8 rfl rfl ?_
    refine ab_iconst (v := 0) X d_MO_write_9 (by decide) ?_
    refine ab_putI X fp_MO_60 d_MO_write_10 (by first | assumption | decide | (show _ < 124; omega) | (show _ < 61; omega) | (show _ < 20; omega)) rfl rfl ?_
    refine ab_gen (fun u10 e10 => ?_)
    have P10 : gP [16, 17] u u10 := by rw [e10]; exact P5.ui rfl (by decide)
    have h10 : wr u10 u10 (100 * (3 * p1 + j)) 0 [] := ⟨gP.rf P10.1, by rw [e10, e5]; simp [ab_up], by rw [e10]; simp [ab_up]; rfl, rfl, fun _ _ => rfl⟩
    have T10 := T.fr P10 (by decide) (by decide) (by decide) (by decide) (by decide)
    have W10 := wl_fr P10 (by decide) p1 (cn p1) 12 (ch p1)
    have G10 : ∀ c, p1 < c → c < P → fG u10 (3 * c) (lf c - 1) ∧ fG u10 (3 * c + 1) (lf c - 1) ∧ fG u10 (3 * c + 2) (lf c - 1) := fun c x y => ⟨(G c x y).1.fr P10 (by decide) (by decide), (G c x y).2.1.fr P10 (by decide) (by decide), (G c x y).2.2.fr P10 (by decide) (by decide)⟩
    rw [← W10] at hK ⊢
    refine ab_aload_n X 0 d_MO_write_13 rfl rfl ?_
    refine ab_gR X fl_MO_45 d_MO_write_14 (by first | assumption | decide | (show _ < 124; omega) | (show _ < 61; omega) | (show _ < 20; omega)) (P10.1.mo11) ?_
    refine ab_iload_n X 2 d_MO_write_17 rfl rfl ?_
    refine ab_iald X (3 * p1 + j) ⟨rfl, rfl⟩ d_MO_write_18 (by first | assumption | decide | (show _ < 124; omega) | (show _ < 61; omega) | (show _ < 20; omega)) (rfl) (show 3 * p1 + j < 72 by omega) (ab_ln_lt _ _) ?_
    refine ab_top (P10.ai (by decide) ew) ?_
    refine ab_istore_n3 X 0 1 2 d_MO_write_19 rfl (by decide) rfl rfl rfl rfl rfl rfl ?_
    refine ab_aload_n X 1 d_MO_write_20 rfl rfl ?_
    refine ab_gR X fl_MO_42 d_MO_write_21 (by first | assumption | decide | (show _ < 124; omega) | (show _ < 61; omega) | (show _ < 20; omega)) (P10.1.mo10) ?_
    refine ab_iconst (v := 4) X d_MO_write_24 (by decide) ?_
    refine ab_iload_n X 2 d_MO_write_25 rfl rfl ?_
    refine ab_imul X d_MO_write_26 ?_
    refine ab_iald X (4 * p1) ⟨rfl, rfl⟩ d_MO_write_27 (by first | assumption | decide | (show _ < 124; omega) | (show _ < 61; omega) | (show _ < 20; omega)) (nI_4m p1) (show 4 * p1 < 160 by omega) (ab_ln_lt _ _) ?_
    refine ab_istore4 X 0 1 2 3 d_MO_write_28 (by decide) rfl rfl rfl rfl rfl rfl rfl rfl ?_
    refine ab_aload_n X 2 d_MO_write_30 rfl rfl ?_
    refine ab_gR X fl_MO_42 d_MO_write_31 (by first | assumption | decide | (show _ < 124; omega) | (show _ < 61; omega) | (show _ < 20; omega)) (P10.1.mo10) ?_
    refine ab_iconst (v := 4) X d_MO_write_34 (by decide) ?_
    refine ab_iload_n X 3 d_MO_write_35 rfl rfl ?_
    refine ab_imul X d_MO_write_36 ?_
    refine ab_iconst (v := 1) X d_MO_write_37 (by decide) ?_
    refine ab_iadd X d_MO_write_38 ?_
    refine ab_iald X (4 * p1 + 1) ⟨rfl, rfl⟩ d_MO_write_39 (by first | assumption | decide | (show _ < 124; omega) | (show _ < 61; omega) | (show _ < 20; omega)) (nI_4b p1) (show 4 * p1 + 1 < 160 by omega) (ab_ln_lt _ _) ?_
    refine ab_istore5 X 0 1 2 3 4 d_MO_write_40 (by decide) rfl rfl rfl rfl rfl rfl rfl rfl rfl rfl ?_
    refine ab_iload_n X 2 d_MO_write_42 rfl rfl ?_
    refine ab_iconst (v := 1) X d_MO_write_43 (by decide) ?_
    refine ab_icmp_eq X 59 d_MO_write_44 rfl (fun hb => absurd hb ((by decide))) (fun _ => ?_)
    refine ab_iload_n X 2 d_MO_write_47 rfl rfl ?_
    refine ab_bipush (v := 11) X d_MO_write_48 (by decide) ?_
    refine ab_icmp_eq X 59 d_MO_write_50 rfl (fun hb => absurd hb ((by decide))) (fun _ => ?_)
    refine ab_iload_n X 2 d_MO_write_53 rfl rfl ?_
    refine ab_bipush (v := 12) X d_MO_write_54 (by decide) ?_
    refine ab_icmp_ne X 75 d_MO_write_56 rfl (fun hb => absurd ((by decide)) hb) (fun _ => ?_)
    refine ab_aload_n X 3 d_MO_write_59 rfl rfl ?_
    refine ab_aload_n X 3 d_MO_write_60 rfl rfl ?_
    refine ab_gR X fl_MO_33 d_MO_write_61 (by first | assumption | decide | (show _ < 124; omega) | (show _ < 61; omega) | (show _ < 20; omega)) (P10.1.mo7) ?_
    refine ab_iload_n X 4 d_MO_write_64 rfl rfl ?_
    refine ab_iald X (p1) ⟨rfl, rfl⟩ d_MO_write_65 (by first | assumption | decide | (show _ < 124; omega) | (show _ < 61; omega) | (show _ < 20; omega)) (rfl) (show p1 < 40 by omega) (ab_ln_lt _ _) ?_
    refine ab_top (P10.ai (by decide) ek) ?_
    refine ab_aload_n X 3 d_MO_write_66 rfl rfl ?_
    refine ab_gR X fl_MO_36 d_MO_write_67 (by first | assumption | decide | (show _ < 124; omega) | (show _ < 61; omega) | (show _ < 20; omega)) (P10.1.mo8) ?_
    refine ab_iload_n X 4 d_MO_write_70 rfl rfl ?_
    refine ab_iald X (p1) ⟨rfl, rfl⟩ d_MO_write_71 (by first | assumption | decide | (show _ < 124; omega) | (show _ < 61; omega) | (show _ < 20; omega)) (rfl) (show p1 < 40 by omega) (ab_ln_lt _ _) ?_
    refine ab_top (P10.ai (by decide) ea) ?_
    have k4 : kd p1 ≤ 4 := by unfold app at ha; omega
    refine ab_callV (as := [ab_I (nI (kd p1)), ab_I (nI (ar p1))]) X (fun h => by cases h) (s_MO_say u10 u10 _ _ _ h10 (by omega) (by omega) (kd p1) (ar p1) (by omega) ar9) lk_MO_242 d_MO_write_72 rfl rfl (by first | assumption | decide | (show _ < 124; omega) | (show _ < 61; omega) | (show _ < 20; omega)) ⟨by first | exact Nat.le_of_ble_eq_true rfl | (simp only [ab_rm]; omega), by first | exact Nat.le_of_ble_eq_true rfl | (simp only [ab_rm]; omega)⟩ ⟨by first | exact Nat.le_of_ble_eq_true rfl | (simp only [ab_rm]; omega), by first | exact Nat.le_of_ble_eq_true rfl | (simp only [ab_rm]; omega)⟩ (Nat.le_of_ble_eq_true rfl) (fun u72 r72 h72 => ?_)
    obtain ⟨q72, rfl⟩ := h72
    have P72 := q72.1
    refine ab_iload_n X 2 d_MO_write_75 rfl rfl ?_
    refine ab_iconst (v := 2) X d_MO_write_76 (by decide) ?_
    refine ab_icmp_ne X 96 d_MO_write_77 rfl (fun _ => ?_) (fun hb => absurd hb ((by decide)))
    refine ab_iload_n X 2 d_MO_write_96 rfl rfl ?_
    refine ab_iconst (v := 3) X d_MO_write_97 (by decide) ?_
    refine ab_icmp_ne X 117 d_MO_write_98 rfl (fun _ => ?_) (fun hb => absurd hb ((by decide)))
    refine ab_iload_n X 2 d_MO_write_117 rfl rfl ?_
    refine ab_iconst (v := 4) X d_MO_write_118 (by decide) ?_
    refine ab_icmp_ne X 136 d_MO_write_119 rfl (fun _ => ?_) (fun hb => absurd hb ((by decide)))
    refine ab_iload_n X 2 d_MO_write_136 rfl rfl ?_
    refine ab_iconst (v := 5) X d_MO_write_137 (by decide) ?_
    refine ab_icmp_ne X 155 d_MO_write_138 rfl (fun _ => ?_) (fun hb => absurd hb ((by decide)))
    refine ab_iload_n X 2 d_MO_write_155 rfl rfl ?_
    refine ab_bipush (v := 6) X d_MO_write_156 (by decide) ?_
    refine ab_icmp_ne X 175 d_MO_write_158 rfl (fun _ => ?_) (fun hb => absurd hb ((by decide)))
    refine ab_iload_n X 2 d_MO_write_175 rfl rfl ?_
    refine ab_bipush (v := 7) X d_MO_write_176 (by decide) ?_
    refine ab_icmp_ne X 186 d_MO_write_178 rfl (fun _ => ?_) (fun hb => absurd hb ((by decide)))
    refine ab_iload_n X 2 d_MO_write_186 rfl rfl ?_
    refine ab_bipush (v := 8) X d_MO_write_187 (by decide) ?_
    refine ab_icmp_ne X 228 d_MO_write_189 rfl (fun _ => ?_) (fun hb => absurd hb ((by decide)))
    refine ab_iload_n X 2 d_MO_write_228 rfl rfl ?_
    refine ab_bipush (v := 12) X d_MO_write_229 (by decide) ?_
    refine ab_icmp_le X 244 d_MO_write_231 rfl (fun _ => ?_) (fun hb => absurd ((by decide)) hb)
    exact ab_retv X hr0 hlk d_MO_write_244 ⟨wr.done P10 (q72.cast rfl) (bal_leaf k1 k4).1 (by have z := (bal_leaf k1 k4).2; simp only [List.nil_append, z]; omega), rfl⟩
  ·
    have hk : kd p1 = 5 ∨ kd p1 = 6 := by unfold app at ha; omega
    obtain ⟨x, y, ex, ey, x1, x2, y1, y2, l0, l1, l2, rfl, rfl⟩ := W.two T hp hk
    refine ab_aload_n X 0 d_MO_write_0 rfl rfl ?_
    refine ab_bipush (v := 100) X d_MO_write_1 (by decide) ?_
    refine ab_iload_n X 2 d_MO_write_3 rfl rfl ?_
    refine ab_imul X d_MO_write_4 ?_
    refine ab_top (nI_100m _) ?_
    refine ab_putI X fp_MO_63 d_MO_write_5 (by first | assumption | decide | (show _ < 124; omega) | (show _ < 61; omega) | (show _ < 20; omega)) rfl rfl ?_
    refine ab_gen (fun u5 e5 => ?_)
    have P5 : gP [16, 17] u u5 := by rw [e5]; exact P0.ui rfl (by decide)
    refine ab_aload_n X 0 d_MO_write_8 rfl rfl ?_
    refine ab_iconst (v := 0) X d_MO_write_9 (by decide) ?_
    refine ab_putI X fp_MO_60 d_MO_write_10 (by first | assumption | decide | (show _ < 124; omega) | (show _ < 61; omega) | (show _ < 20; omega)) rfl rfl ?_
    refine ab_gen (fun u10 e10 => ?_)
    have P10 : gP [16, 17] u u10 := by rw [e10]; exact P5.ui rfl (by decide)
    have h10 : wr u10 u10 (100 * (3 * p1 + j)) 0 [] := ⟨gP.rf P10.1, by rw [e10, e5]; simp [ab_up], by rw [e10]; simp [ab_up]; rfl, rfl, fun _ _ => rfl⟩
    have T10 := T.fr P10 (by decide) (by decide) (by decide) (by decide) (by decide)
    have W10 := wl_fr P10 (by decide) p1 (cn p1) 13 (ch p1)
    have G10 : ∀ c, p1 < c → c < P → fG u10 (3 * c) (lf c - 1) ∧ fG u10 (3 * c + 1) (lf c - 1) ∧ fG u10 (3 * c + 2) (lf c - 1) := fun c x y => ⟨(G c x y).1.fr P10 (by decide) (by decide), (G c x y).2.1.fr P10 (by decide) (by decide), (G c x y).2.2.fr P10 (by decide) (by decide)⟩
    rw [← W10] at hK ⊢
    refine ab_aload_n X 0 d_MO_write_13 rfl rfl ?_
    refine ab_gR X fl_MO_45 d_MO_write_14 (by first | assumption | decide | (show _ < 124; omega) | (show _ < 61; omega) | (show _ < 20; omega)) (P10.1.mo11) ?_
    refine ab_iload_n X 2 d_MO_write_17 rfl rfl ?_
    refine ab_iald X (3 * p1 + j) ⟨rfl, rfl⟩ d_MO_write_18 (by first | assumption | decide | (show _ < 124; omega) | (show _ < 61; omega) | (show _ < 20; omega)) (rfl) (show 3 * p1 + j < 72 by omega) (ab_ln_lt _ _) ?_
    refine ab_top (P10.ai (by decide) ew) ?_
    refine ab_istore_n3 X 0 1 2 d_MO_write_19 rfl (by decide) rfl rfl rfl rfl rfl rfl ?_
    refine ab_aload_n X 1 d_MO_write_20 rfl rfl ?_
    refine ab_gR X fl_MO_42 d_MO_write_21 (by first | assumption | decide | (show _ < 124; omega) | (show _ < 61; omega) | (show _ < 20; omega)) (P10.1.mo10) ?_
    refine ab_iconst (v := 4) X d_MO_write_24 (by decide) ?_
    refine ab_iload_n X 2 d_MO_write_25 rfl rfl ?_
    refine ab_imul X d_MO_write_26 ?_
    refine ab_iald X (4 * p1) ⟨rfl, rfl⟩ d_MO_write_27 (by first | assumption | decide | (show _ < 124; omega) | (show _ < 61; omega) | (show _ < 20; omega)) (nI_4m p1) (show 4 * p1 < 160 by omega) (ab_ln_lt _ _) ?_
    refine ab_top (P10.ai (by decide) ex) ?_
    refine ab_istore4 X 0 1 2 3 d_MO_write_28 (by decide) rfl rfl rfl rfl rfl rfl rfl rfl ?_
    refine ab_aload_n X 2 d_MO_write_30 rfl rfl ?_
    refine ab_gR X fl_MO_42 d_MO_write_31 (by first | assumption | decide | (show _ < 124; omega) | (show _ < 61; omega) | (show _ < 20; omega)) (P10.1.mo10) ?_
    refine ab_iconst (v := 4) X d_MO_write_34 (by decide) ?_
    refine ab_iload_n X 3 d_MO_write_35 rfl rfl ?_
    refine ab_imul X d_MO_write_36 ?_
    refine ab_iconst (v := 1) X d_MO_write_37 (by decide) ?_
    refine ab_iadd X d_MO_write_38 ?_
    refine ab_iald X (4 * p1 + 1) ⟨rfl, rfl⟩ d_MO_write_39 (by first | assumption | decide | (show _ < 124; omega) | (show _ < 61; omega) | (show _ < 20; omega)) (nI_4b p1) (show 4 * p1 + 1 < 160 by omega) (ab_ln_lt _ _) ?_
    refine ab_top (P10.ai (by decide) ey) ?_
    obtain ⟨gx0, gx1, gx2⟩ := G10 _ x1 x2
    obtain ⟨gy0, gy1, gy2⟩ := G10 _ y1 y2
    have bx := gx0.2.2
    have bx1 := gx1.2.2
    have bx2 := gx2.2.2
    have by0 := gy0.2.2
    have by1 := gy1.2.2
    have by2 := gy2.2.2
    refine ab_istore5 X 0 1 2 3 4 d_MO_write_40 (by decide) rfl rfl rfl rfl rfl rfl rfl rfl rfl rfl ?_
    refine ab_iload_n X 2 d_MO_write_42 rfl rfl ?_
    refine ab_iconst (v := 1) X d_MO_write_43 (by decide) ?_
    refine ab_icmp_eq X 59 d_MO_write_44 rfl (fun hb => absurd hb ((by decide))) (fun _ => ?_)
    refine ab_iload_n X 2 d_MO_write_47 rfl rfl ?_
    refine ab_bipush (v := 11) X d_MO_write_48 (by decide) ?_
    refine ab_icmp_eq X 59 d_MO_write_50 rfl (fun hb => absurd hb ((by decide))) (fun _ => ?_)
    refine ab_iload_n X 2 d_MO_write_53 rfl rfl ?_
    refine ab_bipush (v := 12) X d_MO_write_54 (by decide) ?_
    refine ab_icmp_ne X 75 d_MO_write_56 rfl (fun _ => ?_) (fun hb => absurd hb ((by decide)))
    refine ab_iload_n X 2 d_MO_write_75 rfl rfl ?_
    refine ab_iconst (v := 2) X d_MO_write_76 (by decide) ?_
    refine ab_icmp_ne X 96 d_MO_write_77 rfl (fun _ => ?_) (fun hb => absurd hb ((by decide)))
    refine ab_iload_n X 2 d_MO_write_96 rfl rfl ?_
    refine ab_iconst (v := 3) X d_MO_write_97 (by decide) ?_
    refine ab_icmp_ne X 117 d_MO_write_98 rfl (fun _ => ?_) (fun hb => absurd hb ((by decide)))
    refine ab_iload_n X 2 d_MO_write_117 rfl rfl ?_
    refine ab_iconst (v := 4) X d_MO_write_118 (by decide) ?_
    refine ab_icmp_ne X 136 d_MO_write_119 rfl (fun _ => ?_) (fun hb => absurd hb ((by decide)))
    refine ab_iload_n X 2 d_MO_write_136 rfl rfl ?_
    refine ab_iconst (v := 5) X d_MO_write_137 (by decide) ?_
    refine ab_icmp_ne X 155 d_MO_write_138 rfl (fun _ => ?_) (fun hb => absurd hb ((by decide)))
    refine ab_iload_n X 2 d_MO_write_155 rfl rfl ?_
    refine ab_bipush (v := 6) X d_MO_write_156 (by decide) ?_
    refine ab_icmp_ne X 175 d_MO_write_158 rfl (fun _ => ?_) (fun hb => absurd hb ((by decide)))
    refine ab_iload_n X 2 d_MO_write_175 rfl rfl ?_
    refine ab_bipush (v := 7) X d_MO_write_176 (by decide) ?_
    refine ab_icmp_ne X 186 d_MO_write_178 rfl (fun _ => ?_) (fun hb => absurd hb ((by decide)))
    refine ab_iload_n X 2 d_MO_write_186 rfl rfl ?_
    refine ab_bipush (v := 8) X d_MO_write_187 (by decide) ?_
    refine ab_icmp_ne X 228 d_MO_write_189 rfl (fun _ => ?_) (fun hb => absurd hb ((by decide)))
    refine ab_iload_n X 2 d_MO_write_228 rfl rfl ?_
    refine ab_bipush (v := 12) X d_MO_write_229 (by decide) ?_
    refine ab_icmp_le X 244 d_MO_write_231 rfl (fun hb => absurd hb ((by decide))) (fun _ => ?_)
    refine ab_aload_n X 3 d_MO_write_234 rfl rfl ?_
    refine ab_iload_n X 4 d_MO_write_235 rfl rfl ?_
    refine ab_iload_n X 2 d_MO_write_236 rfl rfl ?_
    refine ab_iload X 1 d_MO_write_237 rfl ?_
    refine ab_iload X 0 d_MO_write_239 rfl ?_
    refine ab_callV (as := [ab_I (nI p1), ab_I (nI 13), ab_I (nI (ch p1 0)), ab_I (nI (ch p1 1))]) X (fun h => by cases h) (s_MO_writeMore13 u10 u10 p1 j (ch p1 0) (ch p1 1) _ lf (by omega) hj x1 (by omega) y1 (by omega) l0 l1 l2 ⟨gx0, gx1, gx2⟩ ⟨gy0, gy1, gy2⟩ (wl_two (by omega)) hK h10) lk_MO_257 d_MO_write_241 rfl rfl (by first | assumption | decide | (show _ < 124; omega) | (show _ < 61; omega) | (show _ < 20; omega)) ⟨by first | exact Nat.le_of_ble_eq_true rfl | (simp only [ab_rm]; omega), by first | exact Nat.le_of_ble_eq_true rfl | (simp only [ab_rm]; omega)⟩ ⟨by first | exact Nat.le_of_ble_eq_true rfl | (simp only [ab_rm]; omega), by first | exact Nat.le_of_ble_eq_true rfl | (simp only [ab_rm]; omega)⟩ (Nat.le_of_ble_eq_true rfl) (fun u241 r241 h241 => ?_)
    obtain ⟨⟨L, q241, hb1, hc1⟩, rfl⟩ := h241
    have P241 := q241.1
    exact ab_retv X hr0 hlk d_MO_write_244 ⟨wr.done P10 q241 hb1 hc1, rfl⟩
  ·
    have hk : kd p1 = 5 ∨ kd p1 = 6 := by unfold app at ha; omega
    obtain ⟨x, y, ex, ey, x1, x2, y1, y2, l0, l1, l2, rfl, rfl⟩ := W.two T hp hk
    refine ab_aload_n X 0 d_MO_write_0 rfl rfl ?_
    refine ab_bipush (v := 100) X d_MO_write_1 (by decide) ?_
    refine ab_iload_n X 2 d_MO_write_3 rfl rfl ?_
    refine ab_imul X d_MO_write_4 ?_
    refine ab_top (nI_100m _) ?_
    refine ab_putI X fp_MO_63 d_MO_write_5 (by first | assumption | decide | (show _ < 124; omega) | (show _ < 61; omega) | (show _ < 20; omega)) rfl rfl ?_
    refine ab_gen (fun u5 e5 => ?_)
    have P5 : gP [16, 17] u u5 := by rw [e5]; exact P0.ui rfl (by decide)
    refine ab_aload_n X 0 d_MO_write_8 rfl rfl ?_
    refine ab_iconst (v := 0) X d_MO_write_9 (by decide) ?_
    refine ab_putI X fp_MO_60 d_MO_write_10 (by first | assumption | decide | (show _ < 124; omega) | (show _ < 61; omega) | (show _ < 20; omega)) rfl rfl ?_
    refine ab_gen (fun u10 e10 => ?_)
    have P10 : gP [16, 17] u u10 := by rw [e10]; exact P5.ui rfl (by decide)
    have h10 : wr u10 u10 (100 * (3 * p1 + j)) 0 [] := ⟨gP.rf P10.1, by rw [e10, e5]; simp [ab_up], by rw [e10]; simp [ab_up]; rfl, rfl, fun _ _ => rfl⟩
    have T10 := T.fr P10 (by decide) (by decide) (by decide) (by decide) (by decide)
    have W10 := wl_fr P10 (by decide) p1 (cn p1) 14 (ch p1)
    have G10 : ∀ c, p1 < c → c < P → fG u10 (3 * c) (lf c - 1) ∧ fG u10 (3 * c + 1) (lf c - 1) ∧ fG u10 (3 * c + 2) (lf c - 1) := fun c x y => ⟨(G c x y).1.fr P10 (by decide) (by decide), (G c x y).2.1.fr P10 (by decide) (by decide), (G c x y).2.2.fr P10 (by decide) (by decide)⟩
    rw [← W10] at hK ⊢
    refine ab_aload_n X 0 d_MO_write_13 rfl rfl ?_
    refine ab_gR X fl_MO_45 d_MO_write_14 (by first | assumption | decide | (show _ < 124; omega) | (show _ < 61; omega) | (show _ < 20; omega)) (P10.1.mo11) ?_
    refine ab_iload_n X 2 d_MO_write_17 rfl rfl ?_
    refine ab_iald X (3 * p1 + j) ⟨rfl, rfl⟩ d_MO_write_18 (by first | assumption | decide | (show _ < 124; omega) | (show _ < 61; omega) | (show _ < 20; omega)) (rfl) (show 3 * p1 + j < 72 by omega) (ab_ln_lt _ _) ?_
    refine ab_top (P10.ai (by decide) ew) ?_
    refine ab_istore_n3 X 0 1 2 d_MO_write_19 rfl (by decide) rfl rfl rfl rfl rfl rfl ?_
    refine ab_aload_n X 1 d_MO_write_20 rfl rfl ?_
    refine ab_gR X fl_MO_42 d_MO_write_21 (by first | assumption | decide | (show _ < 124; omega) | (show _ < 61; omega) | (show _ < 20; omega)) (P10.1.mo10) ?_
    refine ab_iconst (v := 4) X d_MO_write_24 (by decide) ?_
    refine ab_iload_n X 2 d_MO_write_25 rfl rfl ?_
    refine ab_imul X d_MO_write_26 ?_
    refine ab_iald X (4 * p1) ⟨rfl, rfl⟩ d_MO_write_27 (by first | assumption | decide | (show _ < 124; omega) | (show _ < 61; omega) | (show _ < 20; omega)) (nI_4m p1) (show 4 * p1 < 160 by omega) (ab_ln_lt _ _) ?_
    refine ab_top (P10.ai (by decide) ex) ?_
    refine ab_istore4 X 0 1 2 3 d_MO_write_28 (by decide) rfl rfl rfl rfl rfl rfl rfl rfl ?_
    refine ab_aload_n X 2 d_MO_write_30 rfl rfl ?_
    refine ab_gR X fl_MO_42 d_MO_write_31 (by first | assumption | decide | (show _ < 124; omega) | (show _ < 61; omega) | (show _ < 20; omega)) (P10.1.mo10) ?_
    refine ab_iconst (v := 4) X d_MO_write_34 (by decide) ?_
    refine ab_iload_n X 3 d_MO_write_35 rfl rfl ?_
    refine ab_imul X d_MO_write_36 ?_
    refine ab_iconst (v := 1) X d_MO_write_37 (by decide) ?_
    refine ab_iadd X d_MO_write_38 ?_
    refine ab_iald X (4 * p1 + 1) ⟨rfl, rfl⟩ d_MO_write_39 (by first | assumption | decide | (show _ < 124; omega) | (show _ < 61; omega) | (show _ < 20; omega)) (nI_4b p1) (show 4 * p1 + 1 < 160 by omega) (ab_ln_lt _ _) ?_
    refine ab_top (P10.ai (by decide) ey) ?_
    obtain ⟨gx0, gx1, gx2⟩ := G10 _ x1 x2
    obtain ⟨gy0, gy1, gy2⟩ := G10 _ y1 y2
    have bx := gx0.2.2
    have bx1 := gx1.2.2
    have bx2 := gx2.2.2
    have by0 := gy0.2.2
    have by1 := gy1.2.2
    have by2 := gy2.2.2
    refine ab_istore5 X 0 1 2 3 4 d_MO_write_40 (by decide) rfl rfl rfl rfl rfl rfl rfl rfl rfl rfl ?_
    refine ab_iload_n X 2 d_MO_write_42 rfl rfl ?_
    refine ab_iconst (v := 1) X d_MO_write_43 (by decide) ?_
    refine ab_icmp_eq X 59 d_MO_write_44 rfl (fun hb => absurd hb ((by decide))) (fun _ => ?_)
    refine ab_iload_n X 2 d_MO_write_47 rfl rfl ?_
    refine ab_bipush (v := 11) X d_MO_write_48 (by decide) ?_
    refine ab_icmp_eq X 59 d_MO_write_50 rfl (fun hb => absurd hb ((by decide))) (fun _ => ?_)
    refine ab_iload_n X 2 d_MO_write_53 rfl rfl ?_
    refine ab_bipush (v := 12) X d_MO_write_54 (by decide) ?_
    refine ab_icmp_ne X 75 d_MO_write_56 rfl (fun _ => ?_) (fun hb => absurd hb ((by decide)))
    refine ab_iload_n X 2 d_MO_write_75 rfl rfl ?_
    refine ab_iconst (v := 2) X d_MO_write_76 (by decide) ?_
    refine ab_icmp_ne X 96 d_MO_write_77 rfl (fun _ => ?_) (fun hb => absurd hb ((by decide)))
    refine ab_iload_n X 2 d_MO_write_96 rfl rfl ?_
    refine ab_iconst (v := 3) X d_MO_write_97 (by decide) ?_
    refine ab_icmp_ne X 117 d_MO_write_98 rfl (fun _ => ?_) (fun hb => absurd hb ((by decide)))
    refine ab_iload_n X 2 d_MO_write_117 rfl rfl ?_
    refine ab_iconst (v := 4) X d_MO_write_118 (by decide) ?_
    refine ab_icmp_ne X 136 d_MO_write_119 rfl (fun _ => ?_) (fun hb => absurd hb ((by decide)))
    refine ab_iload_n X 2 d_MO_write_136 rfl rfl ?_
    refine ab_iconst (v := 5) X d_MO_write_137 (by decide) ?_
    refine ab_icmp_ne X 155 d_MO_write_138 rfl (fun _ => ?_) (fun hb => absurd hb ((by decide)))
    refine ab_iload_n X 2 d_MO_write_155 rfl rfl ?_
    refine ab_bipush (v := 6) X d_MO_write_156 (by decide) ?_
    refine ab_icmp_ne X 175 d_MO_write_158 rfl (fun _ => ?_) (fun hb => absurd hb ((by decide)))
    refine ab_iload_n X 2 d_MO_write_175 rfl rfl ?_
    refine ab_bipush (v := 7) X d_MO_write_176 (by decide) ?_
    refine ab_icmp_ne X 186 d_MO_write_178 rfl (fun _ => ?_) (fun hb => absurd hb ((by decide)))
    refine ab_iload_n X 2 d_MO_write_186 rfl rfl ?_
    refine ab_bipush (v := 8) X d_MO_write_187 (by decide) ?_
    refine ab_icmp_ne X 228 d_MO_write_189 rfl (fun _ => ?_) (fun hb => absurd hb ((by decide)))
    refine ab_iload_n X 2 d_MO_write_228 rfl rfl ?_
    refine ab_bipush (v := 12) X d_MO_write_229 (by decide) ?_
    refine ab_icmp_le X 244 d_MO_write_231 rfl (fun hb => absurd hb ((by decide))) (fun _ => ?_)
    refine ab_aload_n X 3 d_MO_write_234 rfl rfl ?_
    refine ab_iload_n X 4 d_MO_write_235 rfl rfl ?_
    refine ab_iload_n X 2 d_MO_write_236 rfl rfl ?_
    refine ab_iload X 1 d_MO_write_237 rfl ?_
    refine ab_iload X 0 d_MO_write_239 rfl ?_
    refine ab_callV (as := [ab_I (nI p1), ab_I (nI 14), ab_I (nI (ch p1 0)), ab_I (nI (ch p1 1))]) X (fun h => by cases h) (s_MO_writeMore14 u10 u10 p1 j (ch p1 0) (ch p1 1) _ lf (by omega) hj x1 (by omega) y1 (by omega) l0 l1 l2 ⟨gx0, gx1, gx2⟩ ⟨gy0, gy1, gy2⟩ (wl_two (by omega)) hK h10) lk_MO_257 d_MO_write_241 rfl rfl (by first | assumption | decide | (show _ < 124; omega) | (show _ < 61; omega) | (show _ < 20; omega)) ⟨by first | exact Nat.le_of_ble_eq_true rfl | (simp only [ab_rm]; omega), by first | exact Nat.le_of_ble_eq_true rfl | (simp only [ab_rm]; omega)⟩ ⟨by first | exact Nat.le_of_ble_eq_true rfl | (simp only [ab_rm]; omega), by first | exact Nat.le_of_ble_eq_true rfl | (simp only [ab_rm]; omega)⟩ (Nat.le_of_ble_eq_true rfl) (fun u241 r241 h241 => ?_)
    obtain ⟨⟨L, q241, hb1, hc1⟩, rfl⟩ := h241
    have P241 := q241.1
    exact ab_retv X hr0 hlk d_MO_write_244 ⟨wr.done P10 q241 hb1 hc1, rfl⟩
  ·
    have hk : kd p1 = 5 ∨ kd p1 = 6 := by unfold app at ha; omega
    obtain ⟨x, y, ex, ey, x1, x2, y1, y2, l0, l1, l2, rfl, rfl⟩ := W.two T hp hk
    refine ab_aload_n X 0 d_MO_write_0 rfl rfl ?_
    refine ab_bipush (v := 100) X d_MO_write_1 (by decide) ?_
    refine ab_iload_n X 2 d_MO_write_3 rfl rfl ?_
    refine ab_imul X d_MO_write_4 ?_
    refine ab_top (nI_100m _) ?_
    refine ab_putI X fp_MO_63 d_MO_write_5 (by first | assumption | decide | (show _ < 124; omega) | (show _ < 61; omega) | (show _ < 20; omega)) rfl rfl ?_
    refine ab_gen (fun u5 e5 => ?_)
    have P5 : gP [16, 17] u u5 := by rw [e5]; exact P0.ui rfl (by decide)
    refine ab_aload_n X 0 d_MO_write_8 rfl rfl ?_
    refine ab_iconst (v := 0) X d_MO_write_9 (by decide) ?_
    refine ab_putI X fp_MO_60 d_MO_write_10 (by first | assumption | decide | (show _ < 124; omega) | (show _ < 61; omega) | (show _ < 20; omega)) rfl rfl ?_
    refine ab_gen (fun u10 e10 => ?_)
    have P10 : gP [16, 17] u u10 := by rw [e10]; exact P5.ui rfl (by decide)
    have h10 : wr u10 u10 (100 * (3 * p1 + j)) 0 [] := ⟨gP.rf P10.1, by rw [e10, e5]; simp [ab_up], by rw [e10]; simp [ab_up]; rfl, rfl, fun _ _ => rfl⟩
    have T10 := T.fr P10 (by decide) (by decide) (by decide) (by decide) (by decide)
    have W10 := wl_fr P10 (by decide) p1 (cn p1) 15 (ch p1)
    have G10 : ∀ c, p1 < c → c < P → fG u10 (3 * c) (lf c - 1) ∧ fG u10 (3 * c + 1) (lf c - 1) ∧ fG u10 (3 * c + 2) (lf c - 1) := fun c x y => ⟨(G c x y).1.fr P10 (by decide) (by decide), (G c x y).2.1.fr P10 (by decide) (by decide), (G c x y).2.2.fr P10 (by decide) (by decide)⟩
    rw [← W10] at hK ⊢
    refine ab_aload_n X 0 d_MO_write_13 rfl rfl ?_
    refine ab_gR X fl_MO_45 d_MO_write_14 (by first | assumption | decide | (show _ < 124; omega) | (show _ < 61; omega) | (show _ < 20; omega)) (P10.1.mo11) ?_
    refine ab_iload_n X 2 d_MO_write_17 rfl rfl ?_
    refine ab_iald X (3 * p1 + j) ⟨rfl, rfl⟩ d_MO_write_18 (by first | assumption | decide | (show _ < 124; omega) | (show _ < 61; omega) | (show _ < 20; omega)) (rfl) (show 3 * p1 + j < 72 by omega) (ab_ln_lt _ _) ?_
    refine ab_top (P10.ai (by decide) ew) ?_
    refine ab_istore_n3 X 0 1 2 d_MO_write_19 rfl (by decide) rfl rfl rfl rfl rfl rfl ?_
    refine ab_aload_n X 1 d_MO_write_20 rfl rfl ?_
    refine ab_gR X fl_MO_42 d_MO_write_21 (by first | assumption | decide | (show _ < 124; omega) | (show _ < 61; omega) | (show _ < 20; omega)) (P10.1.mo10) ?_
    refine ab_iconst (v := 4) X d_MO_write_24 (by decide) ?_
    refine ab_iload_n X 2 d_MO_write_25 rfl rfl ?_
    refine ab_imul X d_MO_write_26 ?_
    refine ab_iald X (4 * p1) ⟨rfl, rfl⟩ d_MO_write_27 (by first | assumption | decide | (show _ < 124; omega) | (show _ < 61; omega) | (show _ < 20; omega)) (nI_4m p1) (show 4 * p1 < 160 by omega) (ab_ln_lt _ _) ?_
    refine ab_top (P10.ai (by decide) ex) ?_
    refine ab_istore4 X 0 1 2 3 d_MO_write_28 (by decide) rfl rfl rfl rfl rfl rfl rfl rfl ?_
    refine ab_aload_n X 2 d_MO_write_30 rfl rfl ?_
    refine ab_gR X fl_MO_42 d_MO_write_31 (by first | assumption | decide | (show _ < 124; omega) | (show _ < 61; omega) | (show _ < 20; omega)) (P10.1.mo10) ?_
    refine ab_iconst (v := 4) X d_MO_write_34 (by decide) ?_
    refine ab_iload_n X 3 d_MO_write_35 rfl rfl ?_
    refine ab_imul X d_MO_write_36 ?_
    refine ab_iconst (v := 1) X d_MO_write_37 (by decide) ?_
    refine ab_iadd X d_MO_write_38 ?_
    refine ab_iald X (4 * p1 + 1) ⟨rfl, rfl⟩ d_MO_write_39 (by first | assumption | decide | (show _ < 124; omega) | (show _ < 61; omega) | (show _ < 20; omega)) (nI_4b p1) (show 4 * p1 + 1 < 160 by omega) (ab_ln_lt _ _) ?_
    refine ab_top (P10.ai (by decide) ey) ?_
    obtain ⟨gx0, gx1, gx2⟩ := G10 _ x1 x2
    obtain ⟨gy0, gy1, gy2⟩ := G10 _ y1 y2
    have bx := gx0.2.2
    have bx1 := gx1.2.2
    have bx2 := gx2.2.2
    have by0 := gy0.2.2
    have by1 := gy1.2.2
    have by2 := gy2.2.2
    refine ab_istore5 X 0 1 2 3 4 d_MO_write_40 (by decide) rfl rfl rfl rfl rfl rfl rfl rfl rfl rfl ?_
    refine ab_iload_n X 2 d_MO_write_42 rfl rfl ?_
    refine ab_iconst (v := 1) X d_MO_write_43 (by decide) ?_
    refine ab_icmp_eq X 59 d_MO_write_44 rfl (fun hb => absurd hb ((by decide))) (fun _ => ?_)
    refine ab_iload_n X 2 d_MO_write_47 rfl rfl ?_
    refine ab_bipush (v := 11) X d_MO_write_48 (by decide) ?_
    refine ab_icmp_eq X 59 d_MO_write_50 rfl (fun hb => absurd hb ((by decide))) (fun _ => ?_)
    refine ab_iload_n X 2 d_MO_write_53 rfl rfl ?_
    refine ab_bipush (v := 12) X d_MO_write_54 (by decide) ?_
    refine ab_icmp_ne X 75 d_MO_write_56 rfl (fun _ => ?_) (fun hb => absurd hb ((by decide)))
    refine ab_iload_n X 2 d_MO_write_75 rfl rfl ?_
    refine ab_iconst (v := 2) X d_MO_write_76 (by decide) ?_
    refine ab_icmp_ne X 96 d_MO_write_77 rfl (fun _ => ?_) (fun hb => absurd hb ((by decide)))
    refine ab_iload_n X 2 d_MO_write_96 rfl rfl ?_
    refine ab_iconst (v := 3) X d_MO_write_97 (by decide) ?_
    refine ab_icmp_ne X 117 d_MO_write_98 rfl (fun _ => ?_) (fun hb => absurd hb ((by decide)))
    refine ab_iload_n X 2 d_MO_write_117 rfl rfl ?_
    refine ab_iconst (v := 4) X d_MO_write_118 (by decide) ?_
    refine ab_icmp_ne X 136 d_MO_write_119 rfl (fun _ => ?_) (fun hb => absurd hb ((by decide)))
    refine ab_iload_n X 2 d_MO_write_136 rfl rfl ?_
    refine ab_iconst (v := 5) X d_MO_write_137 (by decide) ?_
    refine ab_icmp_ne X 155 d_MO_write_138 rfl (fun _ => ?_) (fun hb => absurd hb ((by decide)))
    refine ab_iload_n X 2 d_MO_write_155 rfl rfl ?_
    refine ab_bipush (v := 6) X d_MO_write_156 (by decide) ?_
    refine ab_icmp_ne X 175 d_MO_write_158 rfl (fun _ => ?_) (fun hb => absurd hb ((by decide)))
    refine ab_iload_n X 2 d_MO_write_175 rfl rfl ?_
    refine ab_bipush (v := 7) X d_MO_write_176 (by decide) ?_
    refine ab_icmp_ne X 186 d_MO_write_178 rfl (fun _ => ?_) (fun hb => absurd hb ((by decide)))
    refine ab_iload_n X 2 d_MO_write_186 rfl rfl ?_
    refine ab_bipush (v := 8) X d_MO_write_187 (by decide) ?_
    refine ab_icmp_ne X 228 d_MO_write_189 rfl (fun _ => ?_) (fun hb => absurd hb ((by decide)))
    refine ab_iload_n X 2 d_MO_write_228 rfl rfl ?_
    refine ab_bipush (v := 12) X d_MO_write_229 (by decide) ?_
    refine ab_icmp_le X 244 d_MO_write_231 rfl (fun hb => absurd hb ((by decide))) (fun _ => ?_)
    refine ab_aload_n X 3 d_MO_write_234 rfl rfl ?_
    refine ab_iload_n X 4 d_MO_write_235 rfl rfl ?_
    refine ab_iload_n X 2 d_MO_write_236 rfl rfl ?_
    refine ab_iload X 1 d_MO_write_237 rfl ?_
    refine ab_iload X 0 d_MO_write_239 rfl ?_
    refine ab_callV (as := [ab_I (nI p1), ab_I (nI 15), ab_I (nI (ch p1 0)), ab_I (nI (ch p1 1))]) X (fun h => by cases h) (s_MO_writeMore15 u10 u10 p1 j (ch p1 0) (ch p1 1) _ lf (by omega) hj x1 (by omega) y1 (by omega) l0 l1 l2 ⟨gx0, gx1, gx2⟩ ⟨gy0, gy1, gy2⟩ (wl_two (by omega)) hK h10) lk_MO_257 d_MO_write_241 rfl rfl (by first | assumption | decide | (show _ < 124; omega) | (show _ < 61; omega) | (show _ < 20; omega)) ⟨by first | exact Nat.le_of_ble_eq_true rfl | (simp only [ab_rm]; omega), by first | exact Nat.le_of_ble_eq_true rfl | (simp only [ab_rm]; omega)⟩ ⟨by first | exact Nat.le_of_ble_eq_true rfl | (simp only [ab_rm]; omega), by first | exact Nat.le_of_ble_eq_true rfl | (simp only [ab_rm]; omega)⟩ (Nat.le_of_ble_eq_true rfl) (fun u241 r241 h241 => ?_)
    obtain ⟨⟨L, q241, hb1, hc1⟩, rfl⟩ := h241
    have P241 := q241.1
    exact ab_retv X hr0 hlk d_MO_write_244 ⟨wr.done P10 q241 hb1 hc1, rfl⟩
  ·
    have hk : kd p1 = 5 ∨ kd p1 = 6 := by unfold app at ha; omega
    obtain ⟨x, y, ex, ey, x1, x2, y1, y2, l0, l1, l2, rfl, rfl⟩ := W.two T hp hk
    refine ab_aload_n X 0 d_MO_write_0 rfl rfl ?_
    refine ab_bipush (v := 100) X d_MO_write_1 (by decide) ?_
    refine ab_iload_n X 2 d_MO_write_3 rfl rfl ?_
    refine ab_imul X d_MO_write_4 ?_
    refine ab_top (nI_100m _) ?_
    refine ab_putI X fp_MO_63 d_MO_write_5 (by first | assumption | decide | (show _ < 124; omega) | (show _ < 61; omega) | (show _ < 20; omega)) rfl rfl ?_
    refine ab_gen (fun u5 e5 => ?_)
    have P5 : gP [16, 17] u u5 := by rw [e5]; exact P0.ui rfl (by decide)
    refine ab_aload_n X 0 d_MO_write_8 rfl rfl ?_
    refine ab_iconst (v := 0) X d_MO_write_9 (by decide) ?_
    refine ab_putI X fp_MO_60 d_MO_write_10 (by first | assumption | decide | (show _ < 124; omega) | (show _ < 61; omega) | (show _ < 20; omega)) rfl rfl ?_
    refine ab_gen (fun u10 e10 => ?_)
    have P10 : gP [16, 17] u u10 := by rw [e10]; exact P5.ui rfl (by decide)
    have h10 : wr u10 u10 (100 * (3 * p1 + j)) 0 [] := ⟨gP.rf P10.1, by rw [e10, e5]; simp [ab_up], by rw [e10]; simp [ab_up]; rfl, rfl, fun _ _ => rfl⟩
    have T10 := T.fr P10 (by decide) (by decide) (by decide) (by decide) (by decide)
    have W10 := wl_fr P10 (by decide) p1 (cn p1) 16 (ch p1)
    have G10 : ∀ c, p1 < c → c < P → fG u10 (3 * c) (lf c - 1) ∧ fG u10 (3 * c + 1) (lf c - 1) ∧ fG u10 (3 * c + 2) (lf c - 1) := fun c x y => ⟨(G c x y).1.fr P10 (by decide) (by decide), (G c x y).2.1.fr P10 (by decide) (by decide), (G c x y).2.2.fr P10 (by decide) (by decide)⟩
    rw [← W10] at hK ⊢
    refine ab_aload_n X 0 d_MO_write_13 rfl rfl ?_
    refine ab_gR X fl_MO_45 d_MO_write_14 (by first | assumption | decide | (show _ < 124; omega) | (show _ < 61; omega) | (show _ < 20; omega)) (P10.1.mo11) ?_
    refine ab_iload_n X 2 d_MO_write_17 rfl rfl ?_
    refine ab_iald X (3 * p1 + j) ⟨rfl, rfl⟩ d_MO_write_18 (by first | assumption | decide | (show _ < 124; omega) | (show _ < 61; omega) | (show _ < 20; omega)) (rfl) (show 3 * p1 + j < 72 by omega) (ab_ln_lt _ _) ?_
    refine ab_top (P10.ai (by decide) ew) ?_
    refine ab_istore_n3 X 0 1 2 d_MO_write_19 rfl (by decide) rfl rfl rfl rfl rfl rfl ?_
    refine ab_aload_n X 1 d_MO_write_20 rfl rfl ?_
    refine ab_gR X fl_MO_42 d_MO_write_21 (by first | assumption | decide | (show _ < 124; omega) | (show _ < 61; omega) | (show _ < 20; omega)) (P10.1.mo10) ?_
    refine ab_iconst (v := 4) X d_MO_write_24 (by decide) ?_
    refine ab_iload_n X 2 d_MO_write_25 rfl rfl ?_
    refine ab_imul X d_MO_write_26 ?_
    refine ab_iald X (4 * p1) ⟨rfl, rfl⟩ d_MO_write_27 (by first | assumption | decide | (show _ < 124; omega) | (show _ < 61; omega) | (show _ < 20; omega)) (nI_4m p1) (show 4 * p1 < 160 by omega) (ab_ln_lt _ _) ?_
    refine ab_top (P10.ai (by decide) ex) ?_
    refine ab_istore4 X 0 1 2 3 d_MO_write_28 (by decide) rfl rfl rfl rfl rfl rfl rfl rfl ?_
    refine ab_aload_n X 2 d_MO_write_30 rfl rfl ?_
    refine ab_gR X fl_MO_42 d_MO_write_31 (by first | assumption | decide | (show _ < 124; omega) | (show _ < 61; omega) | (show _ < 20; omega)) (P10.1.mo10) ?_
    refine ab_iconst (v := 4) X d_MO_write_34 (by decide) ?_
    refine ab_iload_n X 3 d_MO_write_35 rfl rfl ?_
    refine ab_imul X d_MO_write_36 ?_
    refine ab_iconst (v := 1) X d_MO_write_37 (by decide) ?_
    refine ab_iadd X d_MO_write_38 ?_
    refine ab_iald X (4 * p1 + 1) ⟨rfl, rfl⟩ d_MO_write_39 (by first | assumption | decide | (show _ < 124; omega) | (show _ < 61; omega) | (show _ < 20; omega)) (nI_4b p1) (show 4 * p1 + 1 < 160 by omega) (ab_ln_lt _ _) ?_
    refine ab_top (P10.ai (by decide) ey) ?_
    obtain ⟨gx0, gx1, gx2⟩ := G10 _ x1 x2
    obtain ⟨gy0, gy1, gy2⟩ := G10 _ y1 y2
    have bx := gx0.2.2
    have bx1 := gx1.2.2
    have bx2 := gx2.2.2
    have by0 := gy0.2.2
    have by1 := gy1.2.2
    have by2 := gy2.2.2
    refine ab_istore5 X 0 1 2 3 4 d_MO_write_40 (by decide) rfl rfl rfl rfl rfl rfl rfl rfl rfl rfl ?_
    refine ab_iload_n X 2 d_MO_write_42 rfl rfl ?_
    refine ab_iconst (v := 1) X d_MO_write_43 (by decide) ?_
    refine ab_icmp_eq X 59 d_MO_write_44 rfl (fun hb => absurd hb ((by decide))) (fun _ => ?_)
    refine ab_iload_n X 2 d_MO_write_47 rfl rfl ?_
    refine ab_bipush (v := 11) X d_MO_write_48 (by decide) ?_
    refine ab_icmp_eq X 59 d_MO_write_50 rfl (fun hb => absurd hb ((by decide))) (fun _ => ?_)
    refine ab_iload_n X 2 d_MO_write_53 rfl rfl ?_
    refine ab_bipush (v := 12) X d_MO_write_54 (by decide) ?_
    refine ab_icmp_ne X 75 d_MO_write_56 rfl (fun _ => ?_) (fun hb => absurd hb ((by decide)))
    refine ab_iload_n X 2 d_MO_write_75 rfl rfl ?_
    refine ab_iconst (v := 2) X d_MO_write_76 (by decide) ?_
    refine ab_icmp_ne X 96 d_MO_write_77 rfl (fun _ => ?_) (fun hb => absurd hb ((by decide)))
    refine ab_iload_n X 2 d_MO_write_96 rfl rfl ?_
    refine ab_iconst (v := 3) X d_MO_write_97 (by decide) ?_
    refine ab_icmp_ne X 117 d_MO_write_98 rfl (fun _ => ?_) (fun hb => absurd hb ((by decide)))
    refine ab_iload_n X 2 d_MO_write_117 rfl rfl ?_
    refine ab_iconst (v := 4) X d_MO_write_118 (by decide) ?_
    refine ab_icmp_ne X 136 d_MO_write_119 rfl (fun _ => ?_) (fun hb => absurd hb ((by decide)))
    refine ab_iload_n X 2 d_MO_write_136 rfl rfl ?_
    refine ab_iconst (v := 5) X d_MO_write_137 (by decide) ?_
    refine ab_icmp_ne X 155 d_MO_write_138 rfl (fun _ => ?_) (fun hb => absurd hb ((by decide)))
    refine ab_iload_n X 2 d_MO_write_155 rfl rfl ?_
    refine ab_bipush (v := 6) X d_MO_write_156 (by decide) ?_
    refine ab_icmp_ne X 175 d_MO_write_158 rfl (fun _ => ?_) (fun hb => absurd hb ((by decide)))
    refine ab_iload_n X 2 d_MO_write_175 rfl rfl ?_
    refine ab_bipush (v := 7) X d_MO_write_176 (by decide) ?_
    refine ab_icmp_ne X 186 d_MO_write_178 rfl (fun _ => ?_) (fun hb => absurd hb ((by decide)))
    refine ab_iload_n X 2 d_MO_write_186 rfl rfl ?_
    refine ab_bipush (v := 8) X d_MO_write_187 (by decide) ?_
    refine ab_icmp_ne X 228 d_MO_write_189 rfl (fun _ => ?_) (fun hb => absurd hb ((by decide)))
    refine ab_iload_n X 2 d_MO_write_228 rfl rfl ?_
    refine ab_bipush (v := 12) X d_MO_write_229 (by decide) ?_
    refine ab_icmp_le X 244 d_MO_write_231 rfl (fun hb => absurd hb ((by decide))) (fun _ => ?_)
    refine ab_aload_n X 3 d_MO_write_234 rfl rfl ?_
    refine ab_iload_n X 4 d_MO_write_235 rfl rfl ?_
    refine ab_iload_n X 2 d_MO_write_236 rfl rfl ?_
    refine ab_iload X 1 d_MO_write_237 rfl ?_
    refine ab_iload X 0 d_MO_write_239 rfl ?_
    refine ab_callV (as := [ab_I (nI p1), ab_I (nI 16), ab_I (nI (ch p1 0)), ab_I (nI (ch p1 1))]) X (fun h => by cases h) (s_MO_writeMore16 u10 u10 p1 j (ch p1 0) (ch p1 1) _ lf (by omega) hj x1 (by omega) y1 (by omega) l0 l1 l2 ⟨gx0, gx1, gx2⟩ ⟨gy0, gy1, gy2⟩ (wl_two (by omega)) hK h10) lk_MO_257 d_MO_write_241 rfl rfl (by first | assumption | decide | (show _ < 124; omega) | (show _ < 61; omega) | (show _ < 20; omega)) ⟨by first | exact Nat.le_of_ble_eq_true rfl | (simp only [ab_rm]; omega), by first | exact Nat.le_of_ble_eq_true rfl | (simp only [ab_rm]; omega)⟩ ⟨by first | exact Nat.le_of_ble_eq_true rfl | (simp only [ab_rm]; omega), by first | exact Nat.le_of_ble_eq_true rfl | (simp only [ab_rm]; omega)⟩ (Nat.le_of_ble_eq_true rfl) (fun u241 r241 h241 => ?_)
    obtain ⟨⟨L, q241, hb1, hc1⟩, rfl⟩ := h241
    have P241 := q241.1
    exact ab_retv X hr0 hlk d_MO_write_244 ⟨wr.done P10 q241 hb1 hc1, rfl⟩
  ·
    have hk : kd p1 = 5 ∨ kd p1 = 6 := by unfold app at ha; omega
    obtain ⟨x, y, ex, ey, x1, x2, y1, y2, l0, l1, l2, rfl, rfl⟩ := W.two T hp hk
    refine ab_aload_n X 0 d_MO_write_0 rfl rfl ?_
    refine ab_bipush (v := 100) X d_MO_write_1 (by decide) ?_
    refine ab_iload_n X 2 d_MO_write_3 rfl rfl ?_
    refine ab_imul X d_MO_write_4 ?_
    refine ab_top (nI_100m _) ?_
    refine ab_putI X fp_MO_63 d_MO_write_5 (by first | assumption | decide | (show _ < 124; omega) | (show _ < 61; omega) | (show _ < 20; omega)) rfl rfl ?_
    refine ab_gen (fun u5 e5 => ?_)
    have P5 : gP [16, 17] u u5 := by rw [e5]; exact P0.ui rfl (by decide)
    refine ab_aload_n X 0 d_MO_write_8 rfl rfl ?_
    refine ab_iconst (v := 0) X d_MO_write_9 (by decide) ?_
    refine ab_putI X fp_MO_60 d_MO_write_10 (by first | assumption | decide | (show _ < 124; omega) | (show _ < 61; omega) | (show _ < 20; omega)) rfl rfl ?_
    refine ab_gen (fun u10 e10 => ?_)
    have P10 : gP [16, 17] u u10 := by rw [e10]; exact P5.ui rfl (by decide)
    have h10 : wr u10 u10 (100 * (3 * p1 + j)) 0 [] := ⟨gP.rf P10.1, by rw [e10, e5]; simp [ab_up], by rw [e10]; simp [ab_up]; rfl, rfl, fun _ _ => rfl⟩
    have T10 := T.fr P10 (by decide) (by decide) (by decide) (by decide) (by decide)
    have W10 := wl_fr P10 (by decide) p1 (cn p1) 17 (ch p1)
    have G10 : ∀ c, p1 < c → c < P → fG u10 (3 * c) (lf c - 1) ∧ fG u10 (3 * c + 1) (lf c - 1) ∧ fG u10 (3 * c + 2) (lf c - 1) := fun c x y => ⟨(G c x y).1.fr P10 (by decide) (by decide), (G c x y).2.1.fr P10 (by decide) (by decide), (G c x y).2.2.fr P10 (by decide) (by decide)⟩
    rw [← W10] at hK ⊢
    refine ab_aload_n X 0 d_MO_write_13 rfl rfl ?_
    refine ab_gR X fl_MO_45 d_MO_write_14 (by first | assumption | decide | (show _ < 124; omega) | (show _ < 61; omega) | (show _ < 20; omega)) (P10.1.mo11) ?_
    refine ab_iload_n X 2 d_MO_write_17 rfl rfl ?_
    refine ab_iald X (3 * p1 + j) ⟨rfl, rfl⟩ d_MO_write_18 (by first | assumption | decide | (show _ < 124; omega) | (show _ < 61; omega) | (show _ < 20; omega)) (rfl) (show 3 * p1 + j < 72 by omega) (ab_ln_lt _ _) ?_
    refine ab_top (P10.ai (by decide) ew) ?_
    refine ab_istore_n3 X 0 1 2 d_MO_write_19 rfl (by decide) rfl rfl rfl rfl rfl rfl ?_
    refine ab_aload_n X 1 d_MO_write_20 rfl rfl ?_
    refine ab_gR X fl_MO_42 d_MO_write_21 (by first | assumption | decide | (show _ < 124; omega) | (show _ < 61; omega) | (show _ < 20; omega)) (P10.1.mo10) ?_
    refine ab_iconst (v := 4) X d_MO_write_24 (by decide) ?_
    refine ab_iload_n X 2 d_MO_write_25 rfl rfl ?_
    refine ab_imul X d_MO_write_26 ?_
    refine ab_iald X (4 * p1) ⟨rfl, rfl⟩ d_MO_write_27 (by first | assumption | decide | (show _ < 124; omega) | (show _ < 61; omega) | (show _ < 20; omega)) (nI_4m p1) (show 4 * p1 < 160 by omega) (ab_ln_lt _ _) ?_
    refine ab_top (P10.ai (by decide) ex) ?_
    refine ab_istore4 X 0 1 2 3 d_MO_write_28 (by decide) rfl rfl rfl rfl rfl rfl rfl rfl ?_
    refine ab_aload_n X 2 d_MO_write_30 rfl rfl ?_
    refine ab_gR X fl_MO_42 d_MO_write_31 (by first | assumption | decide | (show _ < 124; omega) | (show _ < 61; omega) | (show _ < 20; omega)) (P10.1.mo10) ?_
    refine ab_iconst (v := 4) X d_MO_write_34 (by decide) ?_
    refine ab_iload_n X 3 d_MO_write_35 rfl rfl ?_
    refine ab_imul X d_MO_write_36 ?_
    refine ab_iconst (v := 1) X d_MO_write_37 (by decide) ?_
    refine ab_iadd X d_MO_write_38 ?_
    refine ab_iald X (4 * p1 + 1) ⟨rfl, rfl⟩ d_MO_write_39 (by first | assumption | decide | (show _ < 124; omega) | (show _ < 61; omega) | (show _ < 20; omega)) (nI_4b p1) (show 4 * p1 + 1 < 160 by omega) (ab_ln_lt _ _) ?_
    refine ab_top (P10.ai (by decide) ey) ?_
    obtain ⟨gx0, gx1, gx2⟩ := G10 _ x1 x2
    obtain ⟨gy0, gy1, gy2⟩ := G10 _ y1 y2
    have bx := gx0.2.2
    have bx1 := gx1.2.2
    have bx2 := gx2.2.2
    have by0 := gy0.2.2
    have by1 := gy1.2.2
    have by2 := gy2.2.2
    refine ab_istore5 X 0 1 2 3 4 d_MO_write_40 (by decide) rfl rfl rfl rfl rfl rfl rfl rfl rfl rfl ?_
    refine ab_iload_n X 2 d_MO_write_42 rfl rfl ?_
    refine ab_iconst (v := 1) X d_MO_write_43 (by decide) ?_
    refine ab_icmp_eq X 59 d_MO_write_44 rfl (fun hb => absurd hb ((by decide))) (fun _ => ?_)
    refine ab_iload_n X 2 d_MO_write_47 rfl rfl ?_
    refine ab_bipush (v := 11) X d_MO_write_48 (by decide) ?_
    refine ab_icmp_eq X 59 d_MO_write_50 rfl (fun hb => absurd hb ((by decide))) (fun _ => ?_)
    refine ab_iload_n X 2 d_MO_write_53 rfl rfl ?_
    refine ab_bipush (v := 12) X d_MO_write_54 (by decide) ?_
    refine ab_icmp_ne X 75 d_MO_write_56 rfl (fun _ => ?_) (fun hb => absurd hb ((by decide)))
    refine ab_iload_n X 2 d_MO_write_75 rfl rfl ?_
    refine ab_iconst (v := 2) X d_MO_write_76 (by decide) ?_
    refine ab_icmp_ne X 96 d_MO_write_77 rfl (fun _ => ?_) (fun hb => absurd hb ((by decide)))
    refine ab_iload_n X 2 d_MO_write_96 rfl rfl ?_
    refine ab_iconst (v := 3) X d_MO_write_97 (by decide) ?_
    refine ab_icmp_ne X 117 d_MO_write_98 rfl (fun _ => ?_) (fun hb => absurd hb ((by decide)))
    refine ab_iload_n X 2 d_MO_write_117 rfl rfl ?_
    refine ab_iconst (v := 4) X d_MO_write_118 (by decide) ?_
    refine ab_icmp_ne X 136 d_MO_write_119 rfl (fun _ => ?_) (fun hb => absurd hb ((by decide)))
    refine ab_iload_n X 2 d_MO_write_136 rfl rfl ?_
    refine ab_iconst (v := 5) X d_MO_write_137 (by decide) ?_
    refine ab_icmp_ne X 155 d_MO_write_138 rfl (fun _ => ?_) (fun hb => absurd hb ((by decide)))
    refine ab_iload_n X 2 d_MO_write_155 rfl rfl ?_
    refine ab_bipush (v := 6) X d_MO_write_156 (by decide) ?_
    refine ab_icmp_ne X 175 d_MO_write_158 rfl (fun _ => ?_) (fun hb => absurd hb ((by decide)))
    refine ab_iload_n X 2 d_MO_write_175 rfl rfl ?_
    refine ab_bipush (v := 7) X d_MO_write_176 (by decide) ?_
    refine ab_icmp_ne X 186 d_MO_write_178 rfl (fun _ => ?_) (fun hb => absurd hb ((by decide)))
    refine ab_iload_n X 2 d_MO_write_186 rfl rfl ?_
    refine ab_bipush (v := 8) X d_MO_write_187 (by decide) ?_
    refine ab_icmp_ne X 228 d_MO_write_189 rfl (fun _ => ?_) (fun hb => absurd hb ((by decide)))
    refine ab_iload_n X 2 d_MO_write_228 rfl rfl ?_
    refine ab_bipush (v := 12) X d_MO_write_229 (by decide) ?_
    refine ab_icmp_le X 244 d_MO_write_231 rfl (fun hb => absurd hb ((by decide))) (fun _ => ?_)
    refine ab_aload_n X 3 d_MO_write_234 rfl rfl ?_
    refine ab_iload_n X 4 d_MO_write_235 rfl rfl ?_
    refine ab_iload_n X 2 d_MO_write_236 rfl rfl ?_
    refine ab_iload X 1 d_MO_write_237 rfl ?_
    refine ab_iload X 0 d_MO_write_239 rfl ?_
    refine ab_callV (as := [ab_I (nI p1), ab_I (nI 17), ab_I (nI (ch p1 0)), ab_I (nI (ch p1 1))]) X (fun h => by cases h) (s_MO_writeMore17 u10 u10 p1 j (ch p1 0) (ch p1 1) _ lf (by omega) hj x1 (by omega) y1 (by omega) l0 l1 l2 ⟨gx0, gx1, gx2⟩ ⟨gy0, gy1, gy2⟩ (wl_two (by omega)) hK h10) lk_MO_257 d_MO_write_241 rfl rfl (by first | assumption | decide | (show _ < 124; omega) | (show _ < 61; omega) | (show _ < 20; omega)) ⟨by first | exact Nat.le_of_ble_eq_true rfl | (simp only [ab_rm]; omega), by first | exact Nat.le_of_ble_eq_true rfl | (simp only [ab_rm]; omega)⟩ ⟨by first | exact Nat.le_of_ble_eq_true rfl | (simp only [ab_rm]; omega), by first | exact Nat.le_of_ble_eq_true rfl | (simp only [ab_rm]; omega)⟩ (Nat.le_of_ble_eq_true rfl) (fun u241 r241 h241 => ?_)
    obtain ⟨⟨L, q241, hb1, hc1⟩, rfl⟩ := h241
    have P241 := q241.1
    exact ab_retv X hr0 hlk d_MO_write_244 ⟨wr.done P10 q241 hb1 hc1, rfl⟩
  ·
    refine ab_aload_n X 0 d_MO_write_0 rfl rfl ?_
    refine ab_bipush (v := 100) X d_MO_write_1 (by decide) ?_
    refine ab_iload_n X 2 d_MO_write_3 rfl rfl ?_
    refine ab_imul X d_MO_write_4 ?_
    refine ab_top (nI_100m _) ?_
    refine ab_putI X fp_MO_63 d_MO_write_5 (by first | assumption | decide | (show _ < 124; omega) | (show _ < 61; omega) | (show _ < 20; omega)) rfl rfl ?_
    refine ab_gen (fun u5 e5 => ?_)
    have P5 : gP [16, 17] u u5 := by rw [e5]; exact P0.ui rfl (by decide)
    refine ab_aload_n X 0 d_MO_write_8 rfl rfl ?_
    refine ab_iconst (v := 0) X d_MO_write_9 (by decide) ?_
    refine ab_putI X fp_MO_60 d_MO_write_10 (by first | assumption | decide | (show _ < 124; omega) | (show _ < 61; omega) | (show _ < 20; omega)) rfl rfl ?_
    refine ab_gen (fun u10 e10 => ?_)
    have P10 : gP [16, 17] u u10 := by rw [e10]; exact P5.ui rfl (by decide)
    have h10 : wr u10 u10 (100 * (3 * p1 + j)) 0 [] := ⟨gP.rf P10.1, by rw [e10, e5]; simp [ab_up], by rw [e10]; simp [ab_up]; rfl, rfl, fun _ _ => rfl⟩
    have T10 := T.fr P10 (by decide) (by decide) (by decide) (by decide) (by decide)
    have W10 := wl_fr P10 (by decide) p1 (cn p1) 18 (ch p1)
    have G10 : ∀ c, p1 < c → c < P → fG u10 (3 * c) (lf c - 1) ∧ fG u10 (3 * c + 1) (lf c - 1) ∧ fG u10 (3 * c + 2) (lf c - 1) := fun c x y => ⟨(G c x y).1.fr P10 (by decide) (by decide), (G c x y).2.1.fr P10 (by decide) (by decide), (G c x y).2.2.fr P10 (by decide) (by decide)⟩
    rw [← W10] at hK ⊢
    refine ab_aload_n X 0 d_MO_write_13 rfl rfl ?_
    refine ab_gR X fl_MO_45 d_MO_write_14 (by first | assumption | decide | (show _ < 124; omega) | (show _ < 61; omega) | (show _ < 20; omega)) (P10.1.mo11) ?_
    refine ab_iload_n X 2 d_MO_write_17 rfl rfl ?_
    refine ab_iald X (3 * p1 + j) ⟨rfl, rfl⟩ d_MO_write_18 (by first | assumption | decide | (show _ < 124; omega) | (show _ < 61; omega) | (show _ < 20; omega)) (rfl) (show 3 * p1 + j < 72 by omega) (ab_ln_lt _ _) ?_
    refine ab_top (P10.ai (by decide) ew) ?_
    refine ab_istore_n3 X 0 1 2 d_MO_write_19 rfl (by decide) rfl rfl rfl rfl rfl rfl ?_
    refine ab_aload_n X 1 d_MO_write_20 rfl rfl ?_
    refine ab_gR X fl_MO_42 d_MO_write_21 (by first | assumption | decide | (show _ < 124; omega) | (show _ < 61; omega) | (show _ < 20; omega)) (P10.1.mo10) ?_
    refine ab_iconst (v := 4) X d_MO_write_24 (by decide) ?_
    refine ab_iload_n X 2 d_MO_write_25 rfl rfl ?_
    refine ab_imul X d_MO_write_26 ?_
    refine ab_iald X (4 * p1) ⟨rfl, rfl⟩ d_MO_write_27 (by first | assumption | decide | (show _ < 124; omega) | (show _ < 61; omega) | (show _ < 20; omega)) (nI_4m p1) (show 4 * p1 < 160 by omega) (ab_ln_lt _ _) ?_
    refine ab_istore4 X 0 1 2 3 d_MO_write_28 (by decide) rfl rfl rfl rfl rfl rfl rfl rfl ?_
    refine ab_aload_n X 2 d_MO_write_30 rfl rfl ?_
    refine ab_gR X fl_MO_42 d_MO_write_31 (by first | assumption | decide | (show _ < 124; omega) | (show _ < 61; omega) | (show _ < 20; omega)) (P10.1.mo10) ?_
    refine ab_iconst (v := 4) X d_MO_write_34 (by decide) ?_
    refine ab_iload_n X 3 d_MO_write_35 rfl rfl ?_
    refine ab_imul X d_MO_write_36 ?_
    refine ab_iconst (v := 1) X d_MO_write_37 (by decide) ?_
    refine ab_iadd X d_MO_write_38 ?_
    refine ab_iald X (4 * p1 + 1) ⟨rfl, rfl⟩ d_MO_write_39 (by first | assumption | decide | (show _ < 124; omega) | (show _ < 61; omega) | (show _ < 20; omega)) (nI_4b p1) (show 4 * p1 + 1 < 160 by omega) (ab_ln_lt _ _) ?_
    refine ab_istore5 X 0 1 2 3 4 d_MO_write_40 (by decide) rfl rfl rfl rfl rfl rfl rfl rfl rfl rfl ?_
    refine ab_iload_n X 2 d_MO_write_42 rfl rfl ?_
    refine ab_iconst (v := 1) X d_MO_write_43 (by decide) ?_
    refine ab_icmp_eq X 59 d_MO_write_44 rfl (fun hb => absurd hb ((by decide))) (fun _ => ?_)
    refine ab_iload_n X 2 d_MO_write_47 rfl rfl ?_
    refine ab_bipush (v := 11) X d_MO_write_48 (by decide) ?_
    refine ab_icmp_eq X 59 d_MO_write_50 rfl (fun hb => absurd hb ((by decide))) (fun _ => ?_)
    refine ab_iload_n X 2 d_MO_write_53 rfl rfl ?_
    refine ab_bipush (v := 12) X d_MO_write_54 (by decide) ?_
    refine ab_icmp_ne X 75 d_MO_write_56 rfl (fun _ => ?_) (fun hb => absurd hb ((by decide)))
    refine ab_iload_n X 2 d_MO_write_75 rfl rfl ?_
    refine ab_iconst (v := 2) X d_MO_write_76 (by decide) ?_
    refine ab_icmp_ne X 96 d_MO_write_77 rfl (fun _ => ?_) (fun hb => absurd hb ((by decide)))
    refine ab_iload_n X 2 d_MO_write_96 rfl rfl ?_
    refine ab_iconst (v := 3) X d_MO_write_97 (by decide) ?_
    refine ab_icmp_ne X 117 d_MO_write_98 rfl (fun _ => ?_) (fun hb => absurd hb ((by decide)))
    refine ab_iload_n X 2 d_MO_write_117 rfl rfl ?_
    refine ab_iconst (v := 4) X d_MO_write_118 (by decide) ?_
    refine ab_icmp_ne X 136 d_MO_write_119 rfl (fun _ => ?_) (fun hb => absurd hb ((by decide)))
    refine ab_iload_n X 2 d_MO_write_136 rfl rfl ?_
    refine ab_iconst (v := 5) X d_MO_write_137 (by decide) ?_
    refine ab_icmp_ne X 155 d_MO_write_138 rfl (fun _ => ?_) (fun hb => absurd hb ((by decide)))
    refine ab_iload_n X 2 d_MO_write_155 rfl rfl ?_
    refine ab_bipush (v := 6) X d_MO_write_156 (by decide) ?_
    refine ab_icmp_ne X 175 d_MO_write_158 rfl (fun _ => ?_) (fun hb => absurd hb ((by decide)))
    refine ab_iload_n X 2 d_MO_write_175 rfl rfl ?_
    refine ab_bipush (v := 7) X d_MO_write_176 (by decide) ?_
    refine ab_icmp_ne X 186 d_MO_write_178 rfl (fun _ => ?_) (fun hb => absurd hb ((by decide)))
    refine ab_iload_n X 2 d_MO_write_186 rfl rfl ?_
    refine ab_bipush (v := 8) X d_MO_write_187 (by decide) ?_
    refine ab_icmp_ne X 228 d_MO_write_189 rfl (fun _ => ?_) (fun hb => absurd hb ((by decide)))
    refine ab_iload_n X 2 d_MO_write_228 rfl rfl ?_
    refine ab_bipush (v := 12) X d_MO_write_229 (by decide) ?_
    refine ab_icmp_le X 244 d_MO_write_231 rfl (fun hb => absurd hb ((by decide))) (fun _ => ?_)
    refine ab_aload_n X 3 d_MO_write_234 rfl rfl ?_
    refine ab_iload_n X 4 d_MO_write_235 rfl rfl ?_
    refine ab_iload_n X 2 d_MO_write_236 rfl rfl ?_
    refine ab_iload X 1 d_MO_write_237 rfl ?_
    refine ab_iload X 0 d_MO_write_239 rfl ?_
    refine ab_callV (as := [ab_I (nI p1), ab_I (nI 18), ab_I _, ab_I _]) X (fun h => by cases h) (s_MO_writeMore18 u10 u10 P kd ar cn lf ch W T10 p1 j _ _ hp hj (by unfold app at ha; omega) G10 hK h10) lk_MO_257 d_MO_write_241 rfl rfl (by first | assumption | decide | (show _ < 124; omega) | (show _ < 61; omega) | (show _ < 20; omega)) ⟨by first | exact Nat.le_of_ble_eq_true rfl | (simp only [ab_rm]; omega), by first | exact Nat.le_of_ble_eq_true rfl | (simp only [ab_rm]; omega)⟩ ⟨by first | exact Nat.le_of_ble_eq_true rfl | (simp only [ab_rm]; omega), by first | exact Nat.le_of_ble_eq_true rfl | (simp only [ab_rm]; omega)⟩ (Nat.le_of_ble_eq_true rfl) (fun u241 r241 h241 => ?_)
    obtain ⟨⟨L, q241, hb1, hc1⟩, rfl⟩ := h241
    have P241 := q241.1
    exact ab_retv X hr0 hlk d_MO_write_244 ⟨wr.done P10 q241 hb1 hc1, rfl⟩
  ·
    have hk : kd p1 = 5 ∨ kd p1 = 6 := by unfold app at ha; omega
    obtain ⟨x, y, ex, ey, x1, x2, y1, y2, l0, l1, l2, rfl, rfl⟩ := W.two T hp hk
    refine ab_aload_n X 0 d_MO_write_0 rfl rfl ?_
    refine ab_bipush (v := 100) X d_MO_write_1 (by decide) ?_
    refine ab_iload_n X 2 d_MO_write_3 rfl rfl ?_
    refine ab_imul X d_MO_write_4 ?_
    refine ab_top (nI_100m _) ?_
    refine ab_putI X fp_MO_63 d_MO_write_5 (by first | assumption | decide | (show _ < 124; omega) | (show _ < 61; omega) | (show _ < 20; omega)) rfl rfl ?_
    refine ab_gen (fun u5 e5 => ?_)
    have P5 : gP [16, 17] u u5 := by rw [e5]; exact P0.ui rfl (by decide)
    refine ab_aload_n X 0 d_MO_write_8 rfl rfl ?_
    refine ab_iconst (v := 0) X d_MO_write_9 (by decide) ?_
    refine ab_putI X fp_MO_60 d_MO_write_10 (by first | assumption | decide | (show _ < 124; omega) | (show _ < 61; omega) | (show _ < 20; omega)) rfl rfl ?_
    refine ab_gen (fun u10 e10 => ?_)
    have P10 : gP [16, 17] u u10 := by rw [e10]; exact P5.ui rfl (by decide)
    have h10 : wr u10 u10 (100 * (3 * p1 + j)) 0 [] := ⟨gP.rf P10.1, by rw [e10, e5]; simp [ab_up], by rw [e10]; simp [ab_up]; rfl, rfl, fun _ _ => rfl⟩
    have T10 := T.fr P10 (by decide) (by decide) (by decide) (by decide) (by decide)
    have W10 := wl_fr P10 (by decide) p1 (cn p1) 21 (ch p1)
    have G10 : ∀ c, p1 < c → c < P → fG u10 (3 * c) (lf c - 1) ∧ fG u10 (3 * c + 1) (lf c - 1) ∧ fG u10 (3 * c + 2) (lf c - 1) := fun c x y => ⟨(G c x y).1.fr P10 (by decide) (by decide), (G c x y).2.1.fr P10 (by decide) (by decide), (G c x y).2.2.fr P10 (by decide) (by decide)⟩
    rw [← W10] at hK ⊢
    refine ab_aload_n X 0 d_MO_write_13 rfl rfl ?_
    refine ab_gR X fl_MO_45 d_MO_write_14 (by first | assumption | decide | (show _ < 124; omega) | (show _ < 61; omega) | (show _ < 20; omega)) (P10.1.mo11) ?_
    refine ab_iload_n X 2 d_MO_write_17 rfl rfl ?_
    refine ab_iald X (3 * p1 + j) ⟨rfl, rfl⟩ d_MO_write_18 (by first | assumption | decide | (show _ < 124; omega) | (show _ < 61; omega) | (show _ < 20; omega)) (rfl) (show 3 * p1 + j < 72 by omega) (ab_ln_lt _ _) ?_
    refine ab_top (P10.ai (by decide) ew) ?_
    refine ab_istore_n3 X 0 1 2 d_MO_write_19 rfl (by decide) rfl rfl rfl rfl rfl rfl ?_
    refine ab_aload_n X 1 d_MO_write_20 rfl rfl ?_
    refine ab_gR X fl_MO_42 d_MO_write_21 (by first | assumption | decide | (show _ < 124; omega) | (show _ < 61; omega) | (show _ < 20; omega)) (P10.1.mo10) ?_
    refine ab_iconst (v := 4) X d_MO_write_24 (by decide) ?_
    refine ab_iload_n X 2 d_MO_write_25 rfl rfl ?_
    refine ab_imul X d_MO_write_26 ?_
    refine ab_iald X (4 * p1) ⟨rfl, rfl⟩ d_MO_write_27 (by first | assumption | decide | (show _ < 124; omega) | (show _ < 61; omega) | (show _ < 20; omega)) (nI_4m p1) (show 4 * p1 < 160 by omega) (ab_ln_lt _ _) ?_
    refine ab_top (P10.ai (by decide) ex) ?_
    refine ab_istore4 X 0 1 2 3 d_MO_write_28 (by decide) rfl rfl rfl rfl rfl rfl rfl rfl ?_
    refine ab_aload_n X 2 d_MO_write_30 rfl rfl ?_
    refine ab_gR X fl_MO_42 d_MO_write_31 (by first | assumption | decide | (show _ < 124; omega) | (show _ < 61; omega) | (show _ < 20; omega)) (P10.1.mo10) ?_
    refine ab_iconst (v := 4) X d_MO_write_34 (by decide) ?_
    refine ab_iload_n X 3 d_MO_write_35 rfl rfl ?_
    refine ab_imul X d_MO_write_36 ?_
    refine ab_iconst (v := 1) X d_MO_write_37 (by decide) ?_
    refine ab_iadd X d_MO_write_38 ?_
    refine ab_iald X (4 * p1 + 1) ⟨rfl, rfl⟩ d_MO_write_39 (by first | assumption | decide | (show _ < 124; omega) | (show _ < 61; omega) | (show _ < 20; omega)) (nI_4b p1) (show 4 * p1 + 1 < 160 by omega) (ab_ln_lt _ _) ?_
    refine ab_top (P10.ai (by decide) ey) ?_
    obtain ⟨gx0, gx1, gx2⟩ := G10 _ x1 x2
    obtain ⟨gy0, gy1, gy2⟩ := G10 _ y1 y2
    have bx := gx0.2.2
    have bx1 := gx1.2.2
    have bx2 := gx2.2.2
    have by0 := gy0.2.2
    have by1 := gy1.2.2
    have by2 := gy2.2.2
    refine ab_istore5 X 0 1 2 3 4 d_MO_write_40 (by decide) rfl rfl rfl rfl rfl rfl rfl rfl rfl rfl ?_
    refine ab_iload_n X 2 d_MO_write_42 rfl rfl ?_
    refine ab_iconst (v := 1) X d_MO_write_43 (by decide) ?_
    refine ab_icmp_eq X 59 d_MO_write_44 rfl (fun hb => absurd hb ((by decide))) (fun _ => ?_)
    refine ab_iload_n X 2 d_MO_write_47 rfl rfl ?_
    refine ab_bipush (v := 11) X d_MO_write_48 (by decide) ?_
    refine ab_icmp_eq X 59 d_MO_write_50 rfl (fun hb => absurd hb ((by decide))) (fun _ => ?_)
    refine ab_iload_n X 2 d_MO_write_53 rfl rfl ?_
    refine ab_bipush (v := 12) X d_MO_write_54 (by decide) ?_
    refine ab_icmp_ne X 75 d_MO_write_56 rfl (fun _ => ?_) (fun hb => absurd hb ((by decide)))
    refine ab_iload_n X 2 d_MO_write_75 rfl rfl ?_
    refine ab_iconst (v := 2) X d_MO_write_76 (by decide) ?_
    refine ab_icmp_ne X 96 d_MO_write_77 rfl (fun _ => ?_) (fun hb => absurd hb ((by decide)))
    refine ab_iload_n X 2 d_MO_write_96 rfl rfl ?_
    refine ab_iconst (v := 3) X d_MO_write_97 (by decide) ?_
    refine ab_icmp_ne X 117 d_MO_write_98 rfl (fun _ => ?_) (fun hb => absurd hb ((by decide)))
    refine ab_iload_n X 2 d_MO_write_117 rfl rfl ?_
    refine ab_iconst (v := 4) X d_MO_write_118 (by decide) ?_
    refine ab_icmp_ne X 136 d_MO_write_119 rfl (fun _ => ?_) (fun hb => absurd hb ((by decide)))
    refine ab_iload_n X 2 d_MO_write_136 rfl rfl ?_
    refine ab_iconst (v := 5) X d_MO_write_137 (by decide) ?_
    refine ab_icmp_ne X 155 d_MO_write_138 rfl (fun _ => ?_) (fun hb => absurd hb ((by decide)))
    refine ab_iload_n X 2 d_MO_write_155 rfl rfl ?_
    refine ab_bipush (v := 6) X d_MO_write_156 (by decide) ?_
    refine ab_icmp_ne X 175 d_MO_write_158 rfl (fun _ => ?_) (fun hb => absurd hb ((by decide)))
    refine ab_iload_n X 2 d_MO_write_175 rfl rfl ?_
    refine ab_bipush (v := 7) X d_MO_write_176 (by decide) ?_
    refine ab_icmp_ne X 186 d_MO_write_178 rfl (fun _ => ?_) (fun hb => absurd hb ((by decide)))
    refine ab_iload_n X 2 d_MO_write_186 rfl rfl ?_
    refine ab_bipush (v := 8) X d_MO_write_187 (by decide) ?_
    refine ab_icmp_ne X 228 d_MO_write_189 rfl (fun _ => ?_) (fun hb => absurd hb ((by decide)))
    refine ab_iload_n X 2 d_MO_write_228 rfl rfl ?_
    refine ab_bipush (v := 12) X d_MO_write_229 (by decide) ?_
    refine ab_icmp_le X 244 d_MO_write_231 rfl (fun hb => absurd hb ((by decide))) (fun _ => ?_)
    refine ab_aload_n X 3 d_MO_write_234 rfl rfl ?_
    refine ab_iload_n X 4 d_MO_write_235 rfl rfl ?_
    refine ab_iload_n X 2 d_MO_write_236 rfl rfl ?_
    refine ab_iload X 1 d_MO_write_237 rfl ?_
    refine ab_iload X 0 d_MO_write_239 rfl ?_
    refine ab_callV (as := [ab_I (nI p1), ab_I (nI 21), ab_I (nI (ch p1 0)), ab_I (nI (ch p1 1))]) X (fun h => by cases h) (s_MO_writeMore21 u10 u10 p1 j (ch p1 0) (ch p1 1) _ lf (by omega) hj x1 (by omega) y1 (by omega) l0 l1 l2 ⟨gx0, gx1, gx2⟩ ⟨gy0, gy1, gy2⟩ (wl_two (by omega)) hK h10) lk_MO_257 d_MO_write_241 rfl rfl (by first | assumption | decide | (show _ < 124; omega) | (show _ < 61; omega) | (show _ < 20; omega)) ⟨by first | exact Nat.le_of_ble_eq_true rfl | (simp only [ab_rm]; omega), by first | exact Nat.le_of_ble_eq_true rfl | (simp only [ab_rm]; omega)⟩ ⟨by first | exact Nat.le_of_ble_eq_true rfl | (simp only [ab_rm]; omega), by first | exact Nat.le_of_ble_eq_true rfl | (simp only [ab_rm]; omega)⟩ (Nat.le_of_ble_eq_true rfl) (fun u241 r241 h241 => ?_)
    obtain ⟨⟨L, q241, hb1, hc1⟩, rfl⟩ := h241
    have P241 := q241.1
    exact ab_retv X hr0 hlk d_MO_write_244 ⟨wr.done P10 q241 hb1 hc1, rfl⟩
  ·
    have hk : kd p1 = 5 ∨ kd p1 = 6 := by unfold app at ha; omega
    obtain ⟨x, y, ex, ey, x1, x2, y1, y2, l0, l1, l2, rfl, rfl⟩ := W.two T hp hk
    refine ab_aload_n X 0 d_MO_write_0 rfl rfl ?_
    refine ab_bipush (v := 100) X d_MO_write_1 (by decide) ?_
    refine ab_iload_n X 2 d_MO_write_3 rfl rfl ?_
    refine ab_imul X d_MO_write_4 ?_
    refine ab_top (nI_100m _) ?_
    refine ab_putI X fp_MO_63 d_MO_write_5 (by first | assumption | decide | (show _ < 124; omega) | (show _ < 61; omega) | (show _ < 20; omega)) rfl rfl ?_
    refine ab_gen (fun u5 e5 => ?_)
    have P5 : gP [16, 17] u u5 := by rw [e5]; exact P0.ui rfl (by decide)
    refine ab_aload_n X 0 d_MO_write_8 rfl rfl ?_
    refine ab_iconst (v := 0) X d_MO_write_9 (by decide) ?_
    refine ab_putI X fp_MO_60 d_MO_write_10 (by first | assumption | decide | (show _ < 124; omega) | (show _ < 61; omega) | (show _ < 20; omega)) rfl rfl ?_
    refine ab_gen (fun u10 e10 => ?_)
    have P10 : gP [16, 17] u u10 := by rw [e10]; exact P5.ui rfl (by decide)
    have h10 : wr u10 u10 (100 * (3 * p1 + j)) 0 [] := ⟨gP.rf P10.1, by rw [e10, e5]; simp [ab_up], by rw [e10]; simp [ab_up]; rfl, rfl, fun _ _ => rfl⟩
    have T10 := T.fr P10 (by decide) (by decide) (by decide) (by decide) (by decide)
    have W10 := wl_fr P10 (by decide) p1 (cn p1) 22 (ch p1)
    have G10 : ∀ c, p1 < c → c < P → fG u10 (3 * c) (lf c - 1) ∧ fG u10 (3 * c + 1) (lf c - 1) ∧ fG u10 (3 * c + 2) (lf c - 1) := fun c x y => ⟨(G c x y).1.fr P10 (by decide) (by decide), (G c x y).2.1.fr P10 (by decide) (by decide), (G c x y).2.2.fr P10 (by decide) (by decide)⟩
    rw [← W10] at hK ⊢
    refine ab_aload_n X 0 d_MO_write_13 rfl rfl ?_
    refine ab_gR X fl_MO_45 d_MO_write_14 (by first | assumption | decide | (show _ < 124; omega) | (show _ < 61; omega) | (show _ < 20; omega)) (P10.1.mo11) ?_
    refine ab_iload_n X 2 d_MO_write_17 rfl rfl ?_
    refine ab_iald X (3 * p1 + j) ⟨rfl, rfl⟩ d_MO_write_18 (by first | assumption | decide | (show _ < 124; omega) | (show _ < 61; omega) | (show _ < 20; omega)) (rfl) (show 3 * p1 + j < 72 by omega) (ab_ln_lt _ _) ?_
    refine ab_top (P10.ai (by decide) ew) ?_
    refine ab_istore_n3 X 0 1 2 d_MO_write_19 rfl (by decide) rfl rfl rfl rfl rfl rfl ?_
    refine ab_aload_n X 1 d_MO_write_20 rfl rfl ?_
    refine ab_gR X fl_MO_42 d_MO_write_21 (by first | assumption | decide | (show _ < 124; omega) | (show _ < 61; omega) | (show _ < 20; omega)) (P10.1.mo10) ?_
    refine ab_iconst (v := 4) X d_MO_write_24 (by decide) ?_
    refine ab_iload_n X 2 d_MO_write_25 rfl rfl ?_
    refine ab_imul X d_MO_write_26 ?_
    refine ab_iald X (4 * p1) ⟨rfl, rfl⟩ d_MO_write_27 (by first | assumption | decide | (show _ < 124; omega) | (show _ < 61; omega) | (show _ < 20; omega)) (nI_4m p1) (show 4 * p1 < 160 by omega) (ab_ln_lt _ _) ?_
    refine ab_top (P10.ai (by decide) ex) ?_
    refine ab_istore4 X 0 1 2 3 d_MO_write_28 (by decide) rfl rfl rfl rfl rfl rfl rfl rfl ?_
    refine ab_aload_n X 2 d_MO_write_30 rfl rfl ?_
    refine ab_gR X fl_MO_42 d_MO_write_31 (by first | assumption | decide | (show _ < 124; omega) | (show _ < 61; omega) | (show _ < 20; omega)) (P10.1.mo10) ?_
    refine ab_iconst (v := 4) X d_MO_write_34 (by decide) ?_
    refine ab_iload_n X 3 d_MO_write_35 rfl rfl ?_
    refine ab_imul X d_MO_write_36 ?_
    refine ab_iconst (v := 1) X d_MO_write_37 (by decide) ?_
    refine ab_iadd X d_MO_write_38 ?_
    refine ab_iald X (4 * p1 + 1) ⟨rfl, rfl⟩ d_MO_write_39 (by first | assumption | decide | (show _ < 124; omega) | (show _ < 61; omega) | (show _ < 20; omega)) (nI_4b p1) (show 4 * p1 + 1 < 160 by omega) (ab_ln_lt _ _) ?_
    refine ab_top (P10.ai (by decide) ey) ?_
    obtain ⟨gx0, gx1, gx2⟩ := G10 _ x1 x2
    obtain ⟨gy0, gy1, gy2⟩ := G10 _ y1 y2
    have bx := gx0.2.2
    have bx1 := gx1.2.2
    have bx2 := gx2.2.2
    have by0 := gy0.2.2
    have by1 := gy1.2.2
    have by2 := gy2.2.2
    refine ab_istore5 X 0 1 2 3 4 d_MO_write_40 (by decide) rfl rfl rfl rfl rfl rfl rfl rfl rfl rfl ?_
    refine ab_iload_n X 2 d_MO_write_42 rfl rfl ?_
    refine ab_iconst (v := 1) X d_MO_write_43 (by decide) ?_
    refine ab_icmp_eq X 59 d_MO_write_44 rfl (fun hb => absurd hb ((by decide))) (fun _ => ?_)
    refine ab_iload_n X 2 d_MO_write_47 rfl rfl ?_
    refine ab_bipush (v := 11) X d_MO_write_48 (by decide) ?_
    refine ab_icmp_eq X 59 d_MO_write_50 rfl (fun hb => absurd hb ((by decide))) (fun _ => ?_)
    refine ab_iload_n X 2 d_MO_write_53 rfl rfl ?_
    refine ab_bipush (v := 12) X d_MO_write_54 (by decide) ?_
    refine ab_icmp_ne X 75 d_MO_write_56 rfl (fun _ => ?_) (fun hb => absurd hb ((by decide)))
    refine ab_iload_n X 2 d_MO_write_75 rfl rfl ?_
    refine ab_iconst (v := 2) X d_MO_write_76 (by decide) ?_
    refine ab_icmp_ne X 96 d_MO_write_77 rfl (fun _ => ?_) (fun hb => absurd hb ((by decide)))
    refine ab_iload_n X 2 d_MO_write_96 rfl rfl ?_
    refine ab_iconst (v := 3) X d_MO_write_97 (by decide) ?_
    refine ab_icmp_ne X 117 d_MO_write_98 rfl (fun _ => ?_) (fun hb => absurd hb ((by decide)))
    refine ab_iload_n X 2 d_MO_write_117 rfl rfl ?_
    refine ab_iconst (v := 4) X d_MO_write_118 (by decide) ?_
    refine ab_icmp_ne X 136 d_MO_write_119 rfl (fun _ => ?_) (fun hb => absurd hb ((by decide)))
    refine ab_iload_n X 2 d_MO_write_136 rfl rfl ?_
    refine ab_iconst (v := 5) X d_MO_write_137 (by decide) ?_
    refine ab_icmp_ne X 155 d_MO_write_138 rfl (fun _ => ?_) (fun hb => absurd hb ((by decide)))
    refine ab_iload_n X 2 d_MO_write_155 rfl rfl ?_
    refine ab_bipush (v := 6) X d_MO_write_156 (by decide) ?_
    refine ab_icmp_ne X 175 d_MO_write_158 rfl (fun _ => ?_) (fun hb => absurd hb ((by decide)))
    refine ab_iload_n X 2 d_MO_write_175 rfl rfl ?_
    refine ab_bipush (v := 7) X d_MO_write_176 (by decide) ?_
    refine ab_icmp_ne X 186 d_MO_write_178 rfl (fun _ => ?_) (fun hb => absurd hb ((by decide)))
    refine ab_iload_n X 2 d_MO_write_186 rfl rfl ?_
    refine ab_bipush (v := 8) X d_MO_write_187 (by decide) ?_
    refine ab_icmp_ne X 228 d_MO_write_189 rfl (fun _ => ?_) (fun hb => absurd hb ((by decide)))
    refine ab_iload_n X 2 d_MO_write_228 rfl rfl ?_
    refine ab_bipush (v := 12) X d_MO_write_229 (by decide) ?_
    refine ab_icmp_le X 244 d_MO_write_231 rfl (fun hb => absurd hb ((by decide))) (fun _ => ?_)
    refine ab_aload_n X 3 d_MO_write_234 rfl rfl ?_
    refine ab_iload_n X 4 d_MO_write_235 rfl rfl ?_
    refine ab_iload_n X 2 d_MO_write_236 rfl rfl ?_
    refine ab_iload X 1 d_MO_write_237 rfl ?_
    refine ab_iload X 0 d_MO_write_239 rfl ?_
    refine ab_callV (as := [ab_I (nI p1), ab_I (nI 22), ab_I (nI (ch p1 0)), ab_I (nI (ch p1 1))]) X (fun h => by cases h) (s_MO_writeMore22 u10 u10 p1 j (ch p1 0) (ch p1 1) _ lf (by omega) hj x1 (by omega) y1 (by omega) l0 l1 l2 ⟨gx0, gx1, gx2⟩ ⟨gy0, gy1, gy2⟩ (wl_two (by omega)) hK h10) lk_MO_257 d_MO_write_241 rfl rfl (by first | assumption | decide | (show _ < 124; omega) | (show _ < 61; omega) | (show _ < 20; omega)) ⟨by first | exact Nat.le_of_ble_eq_true rfl | (simp only [ab_rm]; omega), by first | exact Nat.le_of_ble_eq_true rfl | (simp only [ab_rm]; omega)⟩ ⟨by first | exact Nat.le_of_ble_eq_true rfl | (simp only [ab_rm]; omega), by first | exact Nat.le_of_ble_eq_true rfl | (simp only [ab_rm]; omega)⟩ (Nat.le_of_ble_eq_true rfl) (fun u241 r241 h241 => ?_)
    obtain ⟨⟨L, q241, hb1, hc1⟩, rfl⟩ := h241
    have P241 := q241.1
    exact ab_retv X hr0 hlk d_MO_write_244 ⟨wr.done P10 q241 hb1 hc1, rfl⟩
  ·
    have hk : kd p1 = 5 ∨ kd p1 = 6 := by unfold app at ha; omega
    obtain ⟨x, y, ex, ey, x1, x2, y1, y2, l0, l1, l2, rfl, rfl⟩ := W.two T hp hk
    refine ab_aload_n X 0 d_MO_write_0 rfl rfl ?_
    refine ab_bipush (v := 100) X d_MO_write_1 (by decide) ?_
    refine ab_iload_n X 2 d_MO_write_3 rfl rfl ?_
    refine ab_imul X d_MO_write_4 ?_
    refine ab_top (nI_100m _) ?_
    refine ab_putI X fp_MO_63 d_MO_write_5 (by first | assumption | decide | (show _ < 124; omega) | (show _ < 61; omega) | (show _ < 20; omega)) rfl rfl ?_
    refine ab_gen (fun u5 e5 => ?_)
    have P5 : gP [16, 17] u u5 := by rw [e5]; exact P0.ui rfl (by decide)
    refine ab_aload_n X 0 d_MO_write_8 rfl rfl ?_
    refine ab_iconst (v := 0) X d_MO_write_9 (by decide) ?_
    refine ab_putI X fp_MO_60 d_MO_write_10 (by first | assumption | decide | (show _ < 124; omega) | (show _ < 61; omega) | (show _ < 20; omega)) rfl rfl ?_
    refine ab_gen (fun u10 e10 => ?_)
    have P10 : gP [16, 17] u u10 := by rw [e10]; exact P5.ui rfl (by decide)
    have h10 : wr u10 u10 (100 * (3 * p1 + j)) 0 [] := ⟨gP.rf P10.1, by rw [e10, e5]; simp [ab_up], by rw [e10]; simp [ab_up]; rfl, rfl, fun _ _ => rfl⟩
    have T10 := T.fr P10 (by decide) (by decide) (by decide) (by decide) (by decide)
    have W10 := wl_fr P10 (by decide) p1 (cn p1) 23 (ch p1)
    have G10 : ∀ c, p1 < c → c < P → fG u10 (3 * c) (lf c - 1) ∧ fG u10 (3 * c + 1) (lf c - 1) ∧ fG u10 (3 * c + 2) (lf c - 1) := fun c x y => ⟨(G c x y).1.fr P10 (by decide) (by decide), (G c x y).2.1.fr P10 (by decide) (by decide), (G c x y).2.2.fr P10 (by decide) (by decide)⟩
    rw [← W10] at hK ⊢
    refine ab_aload_n X 0 d_MO_write_13 rfl rfl ?_
    refine ab_gR X fl_MO_45 d_MO_write_14 (by first | assumption | decide | (show _ < 124; omega) | (show _ < 61; omega) | (show _ < 20; omega)) (P10.1.mo11) ?_
    refine ab_iload_n X 2 d_MO_write_17 rfl rfl ?_
    refine ab_iald X (3 * p1 + j) ⟨rfl, rfl⟩ d_MO_write_18 (by first | assumption | decide | (show _ < 124; omega) | (show _ < 61; omega) | (show _ < 20; omega)) (rfl) (show 3 * p1 + j < 72 by omega) (ab_ln_lt _ _) ?_
    refine ab_top (P10.ai (by decide) ew) ?_
    refine ab_istore_n3 X 0 1 2 d_MO_write_19 rfl (by decide) rfl rfl rfl rfl rfl rfl ?_
    refine ab_aload_n X 1 d_MO_write_20 rfl rfl ?_
    refine ab_gR X fl_MO_42 d_MO_write_21 (by first | assumption | decide | (show _ < 124; omega) | (show _ < 61; omega) | (show _ < 20; omega)) (P10.1.mo10) ?_
    refine ab_iconst (v := 4) X d_MO_write_24 (by decide) ?_
    refine ab_iload_n X 2 d_MO_write_25 rfl rfl ?_
    refine ab_imul X d_MO_write_26 ?_
    refine ab_iald X (4 * p1) ⟨rfl, rfl⟩ d_MO_write_27 (by first | assumption | decide | (show _ < 124; omega) | (show _ < 61; omega) | (show _ < 20; omega)) (nI_4m p1) (show 4 * p1 < 160 by omega) (ab_ln_lt _ _) ?_
    refine ab_top (P10.ai (by decide) ex) ?_
    refine ab_istore4 X 0 1 2 3 d_MO_write_28 (by decide) rfl rfl rfl rfl rfl rfl rfl rfl ?_
    refine ab_aload_n X 2 d_MO_write_30 rfl rfl ?_
    refine ab_gR X fl_MO_42 d_MO_write_31 (by first | assumption | decide | (show _ < 124; omega) | (show _ < 61; omega) | (show _ < 20; omega)) (P10.1.mo10) ?_
    refine ab_iconst (v := 4) X d_MO_write_34 (by decide) ?_
    refine ab_iload_n X 3 d_MO_write_35 rfl rfl ?_
    refine ab_imul X d_MO_write_36 ?_
    refine ab_iconst (v := 1) X d_MO_write_37 (by decide) ?_
    refine ab_iadd X d_MO_write_38 ?_
    refine ab_iald X (4 * p1 + 1) ⟨rfl, rfl⟩ d_MO_write_39 (by first | assumption | decide | (show _ < 124; omega) | (show _ < 61; omega) | (show _ < 20; omega)) (nI_4b p1) (show 4 * p1 + 1 < 160 by omega) (ab_ln_lt _ _) ?_
    refine ab_top (P10.ai (by decide) ey) ?_
    obtain ⟨gx0, gx1, gx2⟩ := G10 _ x1 x2
    obtain ⟨gy0, gy1, gy2⟩ := G10 _ y1 y2
    have bx := gx0.2.2
    have bx1 := gx1.2.2
    have bx2 := gx2.2.2
    have by0 := gy0.2.2
    have by1 := gy1.2.2
    have by2 := gy2.2.2
    refine ab_istore5 X 0 1 2 3 4 d_MO_write_40 (by decide) rfl rfl rfl rfl rfl rfl rfl rfl rfl rfl ?_
    refine ab_iload_n X 2 d_MO_write_42 rfl rfl ?_
    refine ab_iconst (v := 1) X d_MO_write_43 (by decide) ?_
    refine ab_icmp_eq X 59 d_MO_write_44 rfl (fun hb => absurd hb ((by decide))) (fun _ => ?_)
    refine ab_iload_n X 2 d_MO_write_47 rfl rfl ?_
    refine ab_bipush (v := 11) X d_MO_write_48 (by decide) ?_
    refine ab_icmp_eq X 59 d_MO_write_50 rfl (fun hb => absurd hb ((by decide))) (fun _ => ?_)
    refine ab_iload_n X 2 d_MO_write_53 rfl rfl ?_
    refine ab_bipush (v := 12) X d_MO_write_54 (by decide) ?_
    refine ab_icmp_ne X 75 d_MO_write_56 rfl (fun _ => ?_) (fun hb => absurd hb ((by decide)))
    refine ab_iload_n X 2 d_MO_write_75 rfl rfl ?_
    refine ab_iconst (v := 2) X d_MO_write_76 (by decide) ?_
    refine ab_icmp_ne X 96 d_MO_write_77 rfl (fun _ => ?_) (fun hb => absurd hb ((by decide)))
    refine ab_iload_n X 2 d_MO_write_96 rfl rfl ?_
    refine ab_iconst (v := 3) X d_MO_write_97 (by decide) ?_
    refine ab_icmp_ne X 117 d_MO_write_98 rfl (fun _ => ?_) (fun hb => absurd hb ((by decide)))
    refine ab_iload_n X 2 d_MO_write_117 rfl rfl ?_
    refine ab_iconst (v := 4) X d_MO_write_118 (by decide) ?_
    refine ab_icmp_ne X 136 d_MO_write_119 rfl (fun _ => ?_) (fun hb => absurd hb ((by decide)))
    refine ab_iload_n X 2 d_MO_write_136 rfl rfl ?_
    refine ab_iconst (v := 5) X d_MO_write_137 (by decide) ?_
    refine ab_icmp_ne X 155 d_MO_write_138 rfl (fun _ => ?_) (fun hb => absurd hb ((by decide)))
    refine ab_iload_n X 2 d_MO_write_155 rfl rfl ?_
    refine ab_bipush (v := 6) X d_MO_write_156 (by decide) ?_
    refine ab_icmp_ne X 175 d_MO_write_158 rfl (fun _ => ?_) (fun hb => absurd hb ((by decide)))
    refine ab_iload_n X 2 d_MO_write_175 rfl rfl ?_
    refine ab_bipush (v := 7) X d_MO_write_176 (by decide) ?_
    refine ab_icmp_ne X 186 d_MO_write_178 rfl (fun _ => ?_) (fun hb => absurd hb ((by decide)))
    refine ab_iload_n X 2 d_MO_write_186 rfl rfl ?_
    refine ab_bipush (v := 8) X d_MO_write_187 (by decide) ?_
    refine ab_icmp_ne X 228 d_MO_write_189 rfl (fun _ => ?_) (fun hb => absurd hb ((by decide)))
    refine ab_iload_n X 2 d_MO_write_228 rfl rfl ?_
    refine ab_bipush (v := 12) X d_MO_write_229 (by decide) ?_
    refine ab_icmp_le X 244 d_MO_write_231 rfl (fun hb => absurd hb ((by decide))) (fun _ => ?_)
    refine ab_aload_n X 3 d_MO_write_234 rfl rfl ?_
    refine ab_iload_n X 4 d_MO_write_235 rfl rfl ?_
    refine ab_iload_n X 2 d_MO_write_236 rfl rfl ?_
    refine ab_iload X 1 d_MO_write_237 rfl ?_
    refine ab_iload X 0 d_MO_write_239 rfl ?_
    refine ab_callV (as := [ab_I (nI p1), ab_I (nI 23), ab_I (nI (ch p1 0)), ab_I (nI (ch p1 1))]) X (fun h => by cases h) (s_MO_writeMore23 u10 u10 p1 j (ch p1 0) (ch p1 1) _ lf (by omega) hj x1 (by omega) y1 (by omega) l0 l1 l2 ⟨gx0, gx1, gx2⟩ ⟨gy0, gy1, gy2⟩ (wl_two (by omega)) hK h10) lk_MO_257 d_MO_write_241 rfl rfl (by first | assumption | decide | (show _ < 124; omega) | (show _ < 61; omega) | (show _ < 20; omega)) ⟨by first | exact Nat.le_of_ble_eq_true rfl | (simp only [ab_rm]; omega), by first | exact Nat.le_of_ble_eq_true rfl | (simp only [ab_rm]; omega)⟩ ⟨by first | exact Nat.le_of_ble_eq_true rfl | (simp only [ab_rm]; omega), by first | exact Nat.le_of_ble_eq_true rfl | (simp only [ab_rm]; omega)⟩ (Nat.le_of_ble_eq_true rfl) (fun u241 r241 h241 => ?_)
    obtain ⟨⟨L, q241, hb1, hc1⟩, rfl⟩ := h241
    have P241 := q241.1
    exact ab_retv X hr0 hlk d_MO_write_244 ⟨wr.done P10 q241 hb1 hc1, rfl⟩
  ·
    refine ab_aload_n X 0 d_MO_write_0 rfl rfl ?_
    refine ab_bipush (v := 100) X d_MO_write_1 (by decide) ?_
    refine ab_iload_n X 2 d_MO_write_3 rfl rfl ?_
    refine ab_imul X d_MO_write_4 ?_
    refine ab_top (nI_100m _) ?_
    refine ab_putI X fp_MO_63 d_MO_write_5 (by first | assumption | decide | (show _ < 124; omega) | (show _ < 61; omega) | (show _ < 20; omega)) rfl rfl ?_
    refine ab_gen (fun u5 e5 => ?_)
    have P5 : gP [16, 17] u u5 := by rw [e5]; exact P0.ui rfl (by decide)
    refine ab_aload_n X 0 d_MO_write_8 rfl rfl ?_
    refine ab_iconst (v := 0) X d_MO_write_9 (by decide) ?_
    refine ab_putI X fp_MO_60 d_MO_write_10 (by first | assumption | decide | (show _ < 124; omega) | (show _ < 61; omega) | (show _ < 20; omega)) rfl rfl ?_
    refine ab_gen (fun u10 e10 => ?_)
    have P10 : gP [16, 17] u u10 := by rw [e10]; exact P5.ui rfl (by decide)
    have h10 : wr u10 u10 (100 * (3 * p1 + j)) 0 [] := ⟨gP.rf P10.1, by rw [e10, e5]; simp [ab_up], by rw [e10]; simp [ab_up]; rfl, rfl, fun _ _ => rfl⟩
    have T10 := T.fr P10 (by decide) (by decide) (by decide) (by decide) (by decide)
    have W10 := wl_fr P10 (by decide) p1 (cn p1) 24 (ch p1)
    have G10 : ∀ c, p1 < c → c < P → fG u10 (3 * c) (lf c - 1) ∧ fG u10 (3 * c + 1) (lf c - 1) ∧ fG u10 (3 * c + 2) (lf c - 1) := fun c x y => ⟨(G c x y).1.fr P10 (by decide) (by decide), (G c x y).2.1.fr P10 (by decide) (by decide), (G c x y).2.2.fr P10 (by decide) (by decide)⟩
    rw [← W10] at hK ⊢
    refine ab_aload_n X 0 d_MO_write_13 rfl rfl ?_
    refine ab_gR X fl_MO_45 d_MO_write_14 (by first | assumption | decide | (show _ < 124; omega) | (show _ < 61; omega) | (show _ < 20; omega)) (P10.1.mo11) ?_
    refine ab_iload_n X 2 d_MO_write_17 rfl rfl ?_
    refine ab_iald X (3 * p1 + j) ⟨rfl, rfl⟩ d_MO_write_18 (by first | assumption | decide | (show _ < 124; omega) | (show _ < 61; omega) | (show _ < 20; omega)) (rfl) (show 3 * p1 + j < 72 by omega) (ab_ln_lt _ _) ?_
    refine ab_top (P10.ai (by decide) ew) ?_
    refine ab_istore_n3 X 0 1 2 d_MO_write_19 rfl (by decide) rfl rfl rfl rfl rfl rfl ?_
    refine ab_aload_n X 1 d_MO_write_20 rfl rfl ?_
    refine ab_gR X fl_MO_42 d_MO_write_21 (by first | assumption | decide | (show _ < 124; omega) | (show _ < 61; omega) | (show _ < 20; omega)) (P10.1.mo10) ?_
    refine ab_iconst (v := 4) X d_MO_write_24 (by decide) ?_
    refine ab_iload_n X 2 d_MO_write_25 rfl rfl ?_
    refine ab_imul X d_MO_write_26 ?_
    refine ab_iald X (4 * p1) ⟨rfl, rfl⟩ d_MO_write_27 (by first | assumption | decide | (show _ < 124; omega) | (show _ < 61; omega) | (show _ < 20; omega)) (nI_4m p1) (show 4 * p1 < 160 by omega) (ab_ln_lt _ _) ?_
    refine ab_istore4 X 0 1 2 3 d_MO_write_28 (by decide) rfl rfl rfl rfl rfl rfl rfl rfl ?_
    refine ab_aload_n X 2 d_MO_write_30 rfl rfl ?_
    refine ab_gR X fl_MO_42 d_MO_write_31 (by first | assumption | decide | (show _ < 124; omega) | (show _ < 61; omega) | (show _ < 20; omega)) (P10.1.mo10) ?_
    refine ab_iconst (v := 4) X d_MO_write_34 (by decide) ?_
    refine ab_iload_n X 3 d_MO_write_35 rfl rfl ?_
    refine ab_imul X d_MO_write_36 ?_
    refine ab_iconst (v := 1) X d_MO_write_37 (by decide) ?_
    refine ab_iadd X d_MO_write_38 ?_
    refine ab_iald X (4 * p1 + 1) ⟨rfl, rfl⟩ d_MO_write_39 (by first | assumption | decide | (show _ < 124; omega) | (show _ < 61; omega) | (show _ < 20; omega)) (nI_4b p1) (show 4 * p1 + 1 < 160 by omega) (ab_ln_lt _ _) ?_
    obtain ⟨j0, gB⟩ := hB (by omega)
    have gB := gB.fr P10 (by decide) (by decide)
    refine ab_istore5 X 0 1 2 3 4 d_MO_write_40 (by decide) rfl rfl rfl rfl rfl rfl rfl rfl rfl rfl ?_
    refine ab_iload_n X 2 d_MO_write_42 rfl rfl ?_
    refine ab_iconst (v := 1) X d_MO_write_43 (by decide) ?_
    refine ab_icmp_eq X 59 d_MO_write_44 rfl (fun hb => absurd hb ((by decide))) (fun _ => ?_)
    refine ab_iload_n X 2 d_MO_write_47 rfl rfl ?_
    refine ab_bipush (v := 11) X d_MO_write_48 (by decide) ?_
    refine ab_icmp_eq X 59 d_MO_write_50 rfl (fun hb => absurd hb ((by decide))) (fun _ => ?_)
    refine ab_iload_n X 2 d_MO_write_53 rfl rfl ?_
    refine ab_bipush (v := 12) X d_MO_write_54 (by decide) ?_
    refine ab_icmp_ne X 75 d_MO_write_56 rfl (fun _ => ?_) (fun hb => absurd hb ((by decide)))
    refine ab_iload_n X 2 d_MO_write_75 rfl rfl ?_
    refine ab_iconst (v := 2) X d_MO_write_76 (by decide) ?_
    refine ab_icmp_ne X 96 d_MO_write_77 rfl (fun _ => ?_) (fun hb => absurd hb ((by decide)))
    refine ab_iload_n X 2 d_MO_write_96 rfl rfl ?_
    refine ab_iconst (v := 3) X d_MO_write_97 (by decide) ?_
    refine ab_icmp_ne X 117 d_MO_write_98 rfl (fun _ => ?_) (fun hb => absurd hb ((by decide)))
    refine ab_iload_n X 2 d_MO_write_117 rfl rfl ?_
    refine ab_iconst (v := 4) X d_MO_write_118 (by decide) ?_
    refine ab_icmp_ne X 136 d_MO_write_119 rfl (fun _ => ?_) (fun hb => absurd hb ((by decide)))
    refine ab_iload_n X 2 d_MO_write_136 rfl rfl ?_
    refine ab_iconst (v := 5) X d_MO_write_137 (by decide) ?_
    refine ab_icmp_ne X 155 d_MO_write_138 rfl (fun _ => ?_) (fun hb => absurd hb ((by decide)))
    refine ab_iload_n X 2 d_MO_write_155 rfl rfl ?_
    refine ab_bipush (v := 6) X d_MO_write_156 (by decide) ?_
    refine ab_icmp_ne X 175 d_MO_write_158 rfl (fun _ => ?_) (fun hb => absurd hb ((by decide)))
    refine ab_iload_n X 2 d_MO_write_175 rfl rfl ?_
    refine ab_bipush (v := 7) X d_MO_write_176 (by decide) ?_
    refine ab_icmp_ne X 186 d_MO_write_178 rfl (fun _ => ?_) (fun hb => absurd hb ((by decide)))
    refine ab_iload_n X 2 d_MO_write_186 rfl rfl ?_
    refine ab_bipush (v := 8) X d_MO_write_187 (by decide) ?_
    refine ab_icmp_ne X 228 d_MO_write_189 rfl (fun _ => ?_) (fun hb => absurd hb ((by decide)))
    refine ab_iload_n X 2 d_MO_write_228 rfl rfl ?_
    refine ab_bipush (v := 12) X d_MO_write_229 (by decide) ?_
    refine ab_icmp_le X 244 d_MO_write_231 rfl (fun hb => absurd hb ((by decide))) (fun _ => ?_)
    refine ab_aload_n X 3 d_MO_write_234 rfl rfl ?_
    refine ab_iload_n X 4 d_MO_write_235 rfl rfl ?_
    refine ab_iload_n X 2 d_MO_write_236 rfl rfl ?_
    refine ab_iload X 1 d_MO_write_237 rfl ?_
    refine ab_iload X 0 d_MO_write_239 rfl ?_
    refine ab_callV (as := [ab_I (nI p1), ab_I (nI 24), ab_I _, ab_I _]) X (fun h => by cases h) (s_MO_writeMore24 u10 u10 p1 j (lf p1 - 1) _ _ (by omega) hj j0 gB hK h10) lk_MO_257 d_MO_write_241 rfl rfl (by first | assumption | decide | (show _ < 124; omega) | (show _ < 61; omega) | (show _ < 20; omega)) ⟨by first | exact Nat.le_of_ble_eq_true rfl | (simp only [ab_rm]; omega), by first | exact Nat.le_of_ble_eq_true rfl | (simp only [ab_rm]; omega)⟩ ⟨by first | exact Nat.le_of_ble_eq_true rfl | (simp only [ab_rm]; omega), by first | exact Nat.le_of_ble_eq_true rfl | (simp only [ab_rm]; omega)⟩ (Nat.le_of_ble_eq_true rfl) (fun u241 r241 h241 => ?_)
    obtain ⟨⟨L, q241, hb1, hc1⟩, rfl⟩ := h241
    have P241 := q241.1
    exact ab_retv X hr0 hlk d_MO_write_244 ⟨wr.done P10 q241 hb1 hc1, rfl⟩
end SaMWrite2

