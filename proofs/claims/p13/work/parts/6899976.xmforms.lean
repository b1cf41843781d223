/-! The reference's forms of a part: the account's. -/
/-- a part's own three -/
def mO (Y : Nat → Nat → Nat × Nat × Nat) (p : Nat) (u : ab_S) : Prop := ∀ j, j < 3 → u.1 18 5 (3 * p + j) = nI (Y p j).1 ∧ lw u (3 * p + j) (Y p j).2.1 (Y p j).2.2
theorem mO.fr {Y : Nat → Nat → Nat × Nat × Nat} {p : Nat} {u u' : ab_S} {F : List Nat} (h : mO Y p u) (g : gP F u u') (h5 : ¬ 100 + 5 ∈ F) (h6 : ¬ 100 + 6 ∈ F) (h7 : ¬ 100 + 7 ∈ F) : mO Y p u' := fun j hj => ⟨g.ai h5 (h j hj).1, g.ai h6 (h j hj).2.1, g.ai h7 (h j hj).2.2⟩
theorem mX.u8 {P : Nat} {kd ar cn : Nat → Nat} {ch : Nat → Nat → Nat} {Y : Nat → Nat → Nat × Nat × Nat} {R : Nat → List Nat} {p : Nat} {u u' : ab_S} {v : Int32} (h : mX P kd ar cn ch Y R (p + 1) u) (e : u' = ab_ui u 18 8 p v) : mX P kd ar cn ch Y R (p + 1) u' := fun q a b => by
  have k : ∀ z i, ¬ (z = 8 ∧ i = p) → u'.1 18 z i = u.1 18 z i := fun z i y => by rw [e]; exact ui_n _ (by omega)
  obtain ⟨⟨⟨x1, x2, x3⟩, x4⟩, y⟩ := h q a b
  refine ⟨⟨⟨⟨(k _ _ (by omega)).trans x1.1, (k _ _ (by omega)).trans x1.2⟩, ⟨(k _ _ (by omega)).trans x2.1, (k _ _ (by omega)).trans x2.2⟩, (k _ _ (by omega)).trans x3.1, (k _ _ (by omega)).trans x3.2⟩, (k _ _ (by omega)).trans x4⟩, fun j hj => ⟨(k _ _ (by omega)).trans (y j hj).1, (y j hj).2.keep (k _ _ (by omega)) (fun i _ _ => k _ _ (by omega))⟩⟩
theorem mO.u8 {Y : Nat → Nat → Nat × Nat × Nat} {p : Nat} {u u' : ab_S} {i : Nat} {v : Int32} (h : mO Y p u) (e : u' = ab_ui u 18 8 i v) : mO Y p u' := fun j hj => by
  have k : ∀ z i', z ≠ 8 → u'.1 18 z i' = u.1 18 z i' := fun z i' y => by rw [e]; exact ui_n _ (by omega)
  exact ⟨(k _ _ (by decide)).trans (h j hj).1, (k _ _ (by decide)).trans (h j hj).2.1, (k _ _ (by decide)).trans (h j hj).2.2⟩
theorem mX.cg {P : Nat} {kd ar cn : Nat → Nat} {ch : Nat → Nat → Nat} {Y : Nat → Nat → Nat × Nat × Nat} {R : Nat → List Nat} {p j : Nat} {u u' : ab_S} (h : mX P kd ar cn ch Y R (p + 1) u) (g : cG u u' (3 * p + j)) (hj : j < 3) : mX P kd ar cn ch Y R (p + 1) u' := fun q a b => ⟨(h q a b).1.cg g (by omega) (by omega) (by omega), fun i hi => ⟨(g.2 _ (by omega)).2.1.trans ((h q a b).2 i hi).1, ((h q a b).2 i hi).2.keep (g.2 _ (by omega)).1 (fun x _ _ => g.1.ai (by decide) rfl)⟩⟩
section SaXMForms
variable {l : Launch} {D : va_G} {ca : Nat → ClassId}
set_option maxRecDepth 100000 in
set_option maxHeartbeats 20000000 in
theorem x_MO_forms (u : ab_S) (P : Nat) (kd ar cn lf : Nat → Nat) (ch : Nat → Nat → Nat) (Y : Nat → Nat → Nat × Nat × Nat) (R : Nat → List Nat) (W : tW P kd ar cn lf ch) (hB : ∀ q, q < P → xB lf Y R q) (T : tR P kd ar cn ch u) (F : ∀ q, q < P → xF kd ar cn ch Y R q) (p1 : Nat) (h : mR u.2.1) (hp : p1 < P) (V : mX P kd ar cn ch Y R (p1 + 1) u) : ab_C false l D ca y_MO_forms b_MO_forms 6 none 5 ab_nQ u [ab_O 17 0, ab_I (nI p1)] (fun u' v => (gP [16, 17, 18, 19, 105, 106, 107, 108, 109] u u' ∧ mX P kd ar cn ch Y R p1 u') ∧ v = none) := by
  refine ab_C.of (by decide) (Nat.le_of_ble_eq_true rfl) ?_
  intro p e s m args below meth c ad X hZ hr0 hlk
  have P0 : gP [16, 17, 18, 19, 105, 106, 107, 108, 109] u u := gP.rf h
  have hP19 := W.2.1
  obtain ⟨⟨lp, lp10, k1, k7, ar9⟩, k5, kk5⟩ := W.2.2 p1 hp
  obtain ⟨ek, ea, ec, ech⟩ := T.2 p1 hp
  have k17 : 1 ≤ kd p1 ∧ kd p1 ≤ 7 := ⟨k1, k7⟩
  have hwj : ∀ j, j < 3 → wok (kd p1) (ar p1) (cn p1) j (Y p1 j).1 := fun j hj => ((F p1 hp).way W hp hj).2.1
  have hwl : ∀ j, j < 3 → ((Wd kd ar cn ch Y) p1 j).length = (Y p1 j).2.1 ∧ ((Wd kd ar cn ch Y) p1 j).length ≤ 90 := fun j hj => by
    have a := (Wd_len W F _ p1 j (Nat.le_refl _) hp hj).1
    have b := ((hB p1 hp).1 j hj).2.1
    have : (if j = 2 then 1 else 0) ≤ 1 := by split <;> decide
    exact ⟨a, by omega⟩
  have rest : ∀ (k j : Nat) (u1 : ab_S), k + j = 3 → gP [16, 17, 18, 19, 105, 106, 107, 108, 109] u u1 → mX P kd ar cn ch Y R (p1 + 1) u1 → mO Y p1 u1 → u1.1 18 8 p1 = nI (R p1).length → (∀ i, i < j → rg u1 (3 * p1 + i) ((Wd kd ar cn ch Y) p1 i)) → ab_J p l e (ab_rm 5 0 0) s m args below meth c (MQ below (ab_Q D ca ad ab_nQ s.heap.size (fun u' v => (gP [16, 17, 18, 19, 105, 106, 107, 108, 109] u u' ∧ mX P kd ar cn ch Y R p1 u') ∧ v = none)) args s 0 0 (ab_A ad ab_nQ s.heap.size)) D ca (ab_A ad ab_nQ s.heap.size) s.heap 6 0 0 ad ab_nQ u1 195 [(5, ab_I (nI j)), (0, ab_O 17 0), (1, ab_I (nI p1))] [] := by
    intro k
    induction k with
    | zero =>
      intro j u1 hj Q1 M1 O1 E1 G1
      obtain rfl : j = 3 := by omega
      refine ab_iload X 0 d_MO_forms_195 rfl ?_
      refine ab_iconst (v := 3) X d_MO_forms_197 (by decide) ?_
      refine ab_icmp_ge X 218 d_MO_forms_198 rfl (fun _ => ?_) (fun hb => absurd ((by decide)) hb)
      exact ab_retv X hr0 hlk d_MO_forms_218 ⟨⟨Q1, fun q a b => by
        by_cases z : q = p1
        · subst z; exact ⟨⟨⟨(O1 0 (by decide)).2, (O1 1 (by decide)).2, (O1 2 (by decide)).2⟩, E1⟩, fun i hi => ⟨(O1 i hi).1, G1 i hi⟩⟩
        · exact M1 q (by omega) b⟩, rfl⟩
    | succ k ih =>
      intro j u1 hj Q1 M1 O1 E1 G1
      have hj3 : j < 3 := by omega
      have hW := hwl j hj3
      have eW := Wd_fix W F hp hj3
      refine ab_iload X 0 d_MO_forms_195 rfl ?_
      refine ab_iconst (v := 3) X d_MO_forms_197 (by decide) ?_
      refine ab_icmp_ge X 218 d_MO_forms_198 rfl (fun hb => absurd hb ((nI_ge (b := 3) (by omega) (by omega)))) (fun _ => ?_)
      refine ab_aload_n X 1 d_MO_forms_201 rfl rfl ?_
      refine ab_iload_n X 2 d_MO_forms_202 rfl rfl ?_
      refine ab_iconst (v := 3) X d_MO_forms_203 (by decide) ?_
      refine ab_iload_n X 2 d_MO_forms_204 rfl rfl ?_
      refine ab_imul X d_MO_forms_205 ?_
      refine ab_top (nI_3m _) ?_
      refine ab_iload X 0 d_MO_forms_206 rfl ?_
      refine ab_iadd X d_MO_forms_208 ?_
      refine ab_top (nI_add (3 * p1) j) ?_
      refine ab_callV (as := [ab_I (nI p1), ab_I (nI (3 * p1 + j))]) X (fun h => by cases h) (x_MO_write u1 P kd ar cn lf ch W (T.fr Q1 (by decide) (by decide) (by decide) (by decide) (by decide)) p1 j (Y p1 j).1 (Wd kd ar cn ch Y) Q1.1 hp hj3 (hwj j hj3) (O1 j hj3).1 (fun z a b => ⟨((M1 z (by omega) b).2 0 (by decide)).2, ((M1 z (by omega) b).2 1 (by decide)).2, ((M1 z (by omega) b).2 2 (by decide)).2⟩) (fun z => G1 0 (by have := hwj j hj3; unfold wok at this; omega)) (by rw [← eW]; omega)) lk_MO_236 d_MO_forms_209 rfl rfl (by first | assumption | decide | (show _ < 124; omega) | (show _ < 61; omega) | (show _ < 20; omega)) ⟨by first | exact Nat.le_of_ble_eq_true rfl | (simp only [ab_rm]; omega), by first | exact Nat.le_of_ble_eq_true rfl | (simp only [ab_rm]; omega)⟩ ⟨by first | exact Nat.le_of_ble_eq_true rfl | (simp only [ab_rm]; omega), by first | exact Nat.le_of_ble_eq_true rfl | (simp only [ab_rm]; omega)⟩ (Nat.le_of_ble_eq_true rfl) (fun u209 r209 h209 => ?_)
      obtain ⟨⟨q209, s209, c209⟩, rfl⟩ := h209
      have P209 := Q1.trans q209 (by decide)
      refine ab_iinc2 X 0 1 2 d_MO_forms_212 rfl (by decide) rfl rfl rfl rfl ?_
      refine ab_goto X 195 d_MO_forms_215 rfl ?_
      rw [show nI j + Int32.ofInt 1 = nI (j + 1) from nI_1 j]
      rw [← eW] at c209
      refine ih (j + 1) _ (by omega) P209 (fun q a b => ⟨(M1 q a b).1.fr q209 (by decide) (by decide) (by decide), fun i hi => ⟨q209.ai (by decide) ((M1 q a b).2 i hi).1, ((M1 q a b).2 i hi).2.keep (q209.ai (by decide) rfl) (fun x _ _ => s209 x (by omega))⟩⟩) (O1.fr q209 (by decide) (by decide) (by decide)) (q209.ai (by decide) E1) (fun i hi => ?_)
      by_cases z : i = j
      · subst z; exact ⟨(q209.ai (by decide) (O1 i hj3).2.1).trans (by rw [hW.1]), by omega, c209⟩
      · exact (G1 i (by omega)).keep (q209.ai (by decide) rfl) (fun x _ _ => s209 x (by omega))
  have hwD := hwj 1 (by decide)
  have w8 : 1 ≤ (Y p1 1).1 ∧ (Y p1 1).1 ≤ 8 := ⟨by have z := hwD; unfold wok at z; omega, (wok_wv hwD).2 rfl⟩
  have eR : R p1 = rfS cn ch R p1 (Y p1 1).1 := (F p1 hp).2
  have rl2 : ∀ c, c < P → (R c).length ≤ 20 := fun c hc => by
    have := (hB c hc).2.1
    have := (W.2.2 c hc).1.2.1
    omega
  have K135a : ∀ (k i : Nat) (u1 : ab_S), ((Y p1 1).1 < 5 ∨ (Y p1 1).1 = 7) → k + i = cn p1 → gP [16, 17, 18, 19, 105, 106, 107, 108, 109] u u1 → mX P kd ar cn ch Y R (p1 + 1) u1 → mO Y p1 u1 → u1.1 18 8 p1 = nI ((if (Y p1 1).1 = 1 then 1 else 0) + sm (fun i => (R (ch p1 i)).length) i) → ab_J p l e (ab_rm 5 0 0) s m args below meth c (MQ below (ab_Q D ca ad ab_nQ s.heap.size (fun u' v => (gP [16, 17, 18, 19, 105, 106, 107, 108, 109] u u' ∧ mX P kd ar cn ch Y R p1 u') ∧ v = none)) args s 0 0 (ab_A ad ab_nQ s.heap.size)) D ca (ab_A ad ab_nQ s.heap.size) s.heap 6 0 0 ad ab_nQ u1 135 [(5, ab_I (nI i)), (2, ab_I (nI (Y p1 1).1)), (0, ab_O 17 0), (1, ab_I (nI p1))] [] := by
    intro k
    induction k with
    | zero =>
      intro i u1 hl hi Q1 M1 O1 E1
      obtain rfl : i = cn p1 := by omega
      have eN : (if (Y p1 1).1 = 1 then 1 else 0) + sm (fun i => (R (ch p1 i)).length) (cn p1) = (R p1).length := by
        rw [eR]
        by_cases z : (Y p1 1).1 = 1
        · have c0 : cn p1 = 0 := k5 (by have := hwD; unfold wok at this; omega)
          rw [if_pos z, z, c0]; rfl
        · have e : rfS cn ch R p1 (Y p1 1).1 = cat (fun i => R (ch p1 i)) (cn p1) := (if_neg (by omega)).trans ((if_neg (by omega)).trans (if_neg (by omega)))
          rw [if_neg z, e, cat_len, Nat.zero_add]
      have c4 : cn p1 ≤ 4 := by
        by_cases z : kd p1 < 5
        · rw [k5 z]; decide
        · exact (kk5 (by omega)).2.1
      refine ab_iload X 0 d_MO_forms_135 rfl ?_
      refine ab_aload_n X 2 d_MO_forms_137 rfl rfl ?_
      refine ab_gR X fl_MO_39 d_MO_forms_138 (by first | assumption | decide | (show _ < 124; omega) | (show _ < 61; omega) | (show _ < 20; omega)) (Q1.1.mo9) ?_
      refine ab_iload_n X 3 d_MO_forms_141 rfl rfl ?_
      refine ab_iald X (p1) ⟨rfl, rfl⟩ d_MO_forms_142 (by first | assumption | decide | (show _ < 124; omega) | (show _ < 61; omega) | (show _ < 20; omega)) (rfl) (show p1 < 40 by omega) (ab_ln_lt _ _) ?_
      refine ab_top (Q1.ai (by decide) ec) ?_
      refine ab_icmp_ge X 192 d_MO_forms_143 rfl (fun _ => ?_) (fun hb => absurd ((nI_le (by omega) (by omega))) hb)
      refine ab_iconst (v := 0) X d_MO_forms_192 (by decide) ?_
      refine ab_istore3 X 1 2 3 d_MO_forms_193 (by decide) rfl rfl rfl rfl rfl rfl ?_
      refine ab_lv (List.forall_mem_cons.mpr ⟨List.mem_of_getElem? (i := 0) rfl, List.forall_mem_cons.mpr ⟨List.mem_of_getElem? (i := 2) rfl, List.forall_mem_cons.mpr ⟨List.mem_of_getElem? (i := 3) rfl, fun _ h => absurd h List.not_mem_nil⟩⟩⟩) ?_
      exact rest 3 0 _ rfl Q1 M1 O1 (by rw [← eN]; exact E1) (fun i hi => absurd hi (by omega))
    | succ k ih =>
      intro i u1 hl hi Q1 M1 O1 E1
      have k5' : 5 ≤ kd p1 := Nat.le_of_not_lt (fun q => by have := k5 q; omega)
      obtain ⟨n2, n4, -, -, b5, -⟩ := kk5 k5'
      obtain ⟨c1, c2⟩ := b5 i (by omega)
      have e8 := (M1 _ (by omega) c2).1.2
      have go : ab_J p l e (ab_rm 5 0 0) s m args below meth c (MQ below (ab_Q D ca ad ab_nQ s.heap.size (fun u' v => (gP [16, 17, 18, 19, 105, 106, 107, 108, 109] u u' ∧ mX P kd ar cn ch Y R p1 u') ∧ v = none)) args s 0 0 (ab_A ad ab_nQ s.heap.size)) D ca (ab_A ad ab_nQ s.heap.size) s.heap 6 0 0 ad ab_nQ u1 157 [(5, ab_I (nI i)), (2, ab_I (nI (Y p1 1).1)), (0, ab_O 17 0), (1, ab_I (nI p1))] [] := by
        refine ab_aload_n X 2 d_MO_forms_157 rfl rfl ?_
        refine ab_gR X fl_MO_54 d_MO_forms_158 (by first | assumption | decide | (show _ < 124; omega) | (show _ < 61; omega) | (show _ < 20; omega)) (Q1.1.mo14) ?_
        refine ab_iload_n X 3 d_MO_forms_161 rfl rfl ?_
        refine ab_aload_n X 2 d_MO_forms_162 rfl rfl ?_
        refine ab_gR X fl_MO_54 d_MO_forms_163 (by first | assumption | decide | (show _ < 124; omega) | (show _ < 61; omega) | (show _ < 20; omega)) (Q1.1.mo14) ?_
        refine ab_iload_n X 3 d_MO_forms_166 rfl rfl ?_
        refine ab_iald X (p1) ⟨rfl, rfl⟩ d_MO_forms_167 (by first | assumption | decide | (show _ < 124; omega) | (show _ < 61; omega) | (show _ < 20; omega)) (rfl) (show p1 < 24 by omega) (ab_ln_lt _ _) ?_
        refine ab_top E1 ?_
        refine ab_aload_n X 2 d_MO_forms_168 rfl rfl ?_
        refine ab_gR X fl_MO_54 d_MO_forms_169 (by first | assumption | decide | (show _ < 124; omega) | (show _ < 61; omega) | (show _ < 20; omega)) (Q1.1.mo14) ?_
        refine ab_aload_n X 2 d_MO_forms_172 rfl rfl ?_
        refine ab_gR X fl_MO_42 d_MO_forms_173 (by first | assumption | decide | (show _ < 124; omega) | (show _ < 61; omega) | (show _ < 20; omega)) (Q1.1.mo10) ?_
        refine ab_iconst (v := 4) X d_MO_forms_176 (by decide) ?_
        refine ab_iload_n X 3 d_MO_forms_177 rfl rfl ?_
        refine ab_imul X d_MO_forms_178 ?_
        refine ab_iload X 0 d_MO_forms_179 rfl ?_
        refine ab_iadd X d_MO_forms_181 ?_
        refine ab_iald X (4 * p1 + i) ⟨rfl, rfl⟩ d_MO_forms_182 (by first | assumption | decide | (show _ < 124; omega) | (show _ < 61; omega) | (show _ < 20; omega)) (nI_4a p1 i) (show 4 * p1 + i < 160 by omega) (ab_ln_lt _ _) ?_
        refine ab_top (Q1.ai (by decide) (ech i (by omega))) ?_
        refine ab_iald X (ch p1 i) ⟨rfl, rfl⟩ d_MO_forms_183 (by first | assumption | decide | (show _ < 124; omega) | (show _ < 61; omega) | (show _ < 20; omega)) (rfl) (show ch p1 i < 24 by omega) (ab_ln_lt _ _) ?_
        refine ab_top e8 ?_
        refine ab_iadd X d_MO_forms_184 ?_
        refine ab_top (nI_add _ _) ?_
        refine ab_iast X (p1) ⟨rfl, rfl⟩ d_MO_forms_185 (by first | assumption | decide | (show _ < 124; omega) | (show _ < 61; omega) | (show _ < 20; omega)) (rfl) (show p1 < 24 by omega) (ab_ln_lt _ _) ?_
        refine ab_gen (fun u185 e185 => ?_)
        have P185 : gP [16, 17, 18, 19, 105, 106, 107, 108, 109] u u185 := by rw [e185]; exact Q1.ui rfl (by decide)
        refine ab_iinc3 X 0 1 2 3 d_MO_forms_186 rfl (by decide) rfl rfl rfl rfl rfl rfl ?_
        refine ab_goto X 135 d_MO_forms_189 rfl ?_
        rw [show nI i + Int32.ofInt 1 = nI (i + 1) from nI_1 i]
        exact ih (i + 1) _ hl (by omega) P185 (M1.u8 e185) (O1.u8 e185) (by rw [e185]; exact (ui_s _).trans (congrArg nI (Nat.add_assoc _ _ _)))
      by_cases z : (Y p1 1).1 < 5
      ·
        refine ab_iload X 0 d_MO_forms_135 rfl ?_
        refine ab_aload_n X 2 d_MO_forms_137 rfl rfl ?_
        refine ab_gR X fl_MO_39 d_MO_forms_138 (by first | assumption | decide | (show _ < 124; omega) | (show _ < 61; omega) | (show _ < 20; omega)) (Q1.1.mo9) ?_
        refine ab_iload_n X 3 d_MO_forms_141 rfl rfl ?_
        refine ab_iald X (p1) ⟨rfl, rfl⟩ d_MO_forms_142 (by first | assumption | decide | (show _ < 124; omega) | (show _ < 61; omega) | (show _ < 20; omega)) (rfl) (show p1 < 40 by omega) (ab_ln_lt _ _) ?_
        refine ab_top (Q1.ai (by decide) ec) ?_
        refine ab_icmp_ge X 192 d_MO_forms_143 rfl (fun hb => absurd hb ((nI_ge (by omega) (by omega)))) (fun _ => ?_)
        refine ab_iload_n X 1 d_MO_forms_146 rfl rfl ?_
        refine ab_iconst (v := 5) X d_MO_forms_147 (by decide) ?_
        refine ab_icmp_lt X 157 d_MO_forms_148 rfl (fun _ => ?_) (fun hb => absurd ((nI_lt (b := 5) z (by decide))) hb)
        exact go
      ·
        refine ab_iload X 0 d_MO_forms_135 rfl ?_
        refine ab_aload_n X 2 d_MO_forms_137 rfl rfl ?_
        refine ab_gR X fl_MO_39 d_MO_forms_138 (by first | assumption | decide | (show _ < 124; omega) | (show _ < 61; omega) | (show _ < 20; omega)) (Q1.1.mo9) ?_
        refine ab_iload_n X 3 d_MO_forms_141 rfl rfl ?_
        refine ab_iald X (p1) ⟨rfl, rfl⟩ d_MO_forms_142 (by first | assumption | decide | (show _ < 124; omega) | (show _ < 61; omega) | (show _ < 20; omega)) (rfl) (show p1 < 40 by omega) (ab_ln_lt _ _) ?_
        refine ab_top (Q1.ai (by decide) ec) ?_
        refine ab_icmp_ge X 192 d_MO_forms_143 rfl (fun hb => absurd hb ((nI_ge (by omega) (by omega)))) (fun _ => ?_)
        refine ab_iload_n X 1 d_MO_forms_146 rfl rfl ?_
        refine ab_iconst (v := 5) X d_MO_forms_147 (by decide) ?_
        refine ab_icmp_lt X 157 d_MO_forms_148 rfl (fun hb => absurd hb ((nI_nlt (b := 5) (by omega) (by omega)))) (fun _ => ?_)
        refine ab_iload_n X 1 d_MO_forms_151 rfl rfl ?_
        refine ab_bipush (v := 7) X d_MO_forms_152 (by decide) ?_
        refine ab_icmp_ne X 192 d_MO_forms_154 rfl (fun hb => absurd ((by rw [show (Y p1 1).1 = 7 by omega]; rfl)) hb) (fun _ => ?_)
        exact go
  have K135b : ∀ (u1 : ab_S), ¬ ((Y p1 1).1 < 5 ∨ (Y p1 1).1 = 7) → gP [16, 17, 18, 19, 105, 106, 107, 108, 109] u u1 → mX P kd ar cn ch Y R (p1 + 1) u1 → mO Y p1 u1 → u1.1 18 8 p1 = nI (R p1).length → ab_J p l e (ab_rm 5 0 0) s m args below meth c (MQ below (ab_Q D ca ad ab_nQ s.heap.size (fun u' v => (gP [16, 17, 18, 19, 105, 106, 107, 108, 109] u u' ∧ mX P kd ar cn ch Y R p1 u') ∧ v = none)) args s 0 0 (ab_A ad ab_nQ s.heap.size)) D ca (ab_A ad ab_nQ s.heap.size) s.heap 6 0 0 ad ab_nQ u1 135 [(5, ab_I (nI 0)), (2, ab_I (nI (Y p1 1).1)), (0, ab_O 17 0), (1, ab_I (nI p1))] [] := by
    intro u1 hl Q1 M1 O1 E1
    refine ab_iload X 0 d_MO_forms_135 rfl ?_
    refine ab_aload_n X 2 d_MO_forms_137 rfl rfl ?_
    refine ab_gR X fl_MO_39 d_MO_forms_138 (by first | assumption | decide | (show _ < 124; omega) | (show _ < 61; omega) | (show _ < 20; omega)) (Q1.1.mo9) ?_
    refine ab_iload_n X 3 d_MO_forms_141 rfl rfl ?_
    refine ab_iald X (p1) ⟨rfl, rfl⟩ d_MO_forms_142 (by first | assumption | decide | (show _ < 124; omega) | (show _ < 61; omega) | (show _ < 20; omega)) (rfl) (show p1 < 40 by omega) (ab_ln_lt _ _) ?_
    refine ab_top (Q1.ai (by decide) ec) ?_
    refine ab_icmp_ge X 192 d_MO_forms_143 rfl (fun h143 => ?_) (fun h143 => ?_)
    ·
      refine ab_iconst (v := 0) X d_MO_forms_192 (by decide) ?_
      refine ab_istore3 X 1 2 3 d_MO_forms_193 (by decide) rfl rfl rfl rfl rfl rfl ?_
      refine ab_lv (List.forall_mem_cons.mpr ⟨List.mem_of_getElem? (i := 0) rfl, List.forall_mem_cons.mpr ⟨List.mem_of_getElem? (i := 2) rfl, List.forall_mem_cons.mpr ⟨List.mem_of_getElem? (i := 3) rfl, fun _ h => absurd h List.not_mem_nil⟩⟩⟩) ?_
      exact rest 3 0 _ rfl Q1 M1 O1 E1 (fun i hi => absurd hi (by omega))
    ·
      refine ab_iload_n X 1 d_MO_forms_146 rfl rfl ?_
      refine ab_iconst (v := 5) X d_MO_forms_147 (by decide) ?_
      refine ab_icmp_lt X 157 d_MO_forms_148 rfl (fun hb => absurd hb ((nI_nlt (b := 5) (by omega) (by omega)))) (fun _ => ?_)
      refine ab_iload_n X 1 d_MO_forms_151 rfl rfl ?_
      refine ab_bipush (v := 7) X d_MO_forms_152 (by decide) ?_
      refine ab_icmp_ne X 192 d_MO_forms_154 rfl (fun _ => ?_) (fun hb => absurd hb ((fun z => hl (Or.inr ((nI_eq (b := 7) (by omega) (by decide)).mp z)))))
      refine ab_iconst (v := 0) X d_MO_forms_192 (by decide) ?_
      refine ab_istore3 X 1 2 3 d_MO_forms_193 (by decide) rfl rfl rfl rfl rfl rfl ?_
      refine ab_lv (List.forall_mem_cons.mpr ⟨List.mem_of_getElem? (i := 0) rfl, List.forall_mem_cons.mpr ⟨List.mem_of_getElem? (i := 2) rfl, List.forall_mem_cons.mpr ⟨List.mem_of_getElem? (i := 3) rfl, fun _ h => absurd h List.not_mem_nil⟩⟩⟩) ?_
      exact rest 3 0 _ rfl Q1 M1 O1 E1 (fun i hi => absurd hi (by omega))
  have K131 : ∀ (u1 : ab_S) (z : Nat), ((((Y p1 1).1 < 5 ∨ (Y p1 1).1 = 7) ∧ z = (if (Y p1 1).1 = 1 then 1 else 0)) ∨ (¬ ((Y p1 1).1 < 5 ∨ (Y p1 1).1 = 7) ∧ z = (R p1).length)) → gP [16, 17, 18, 19, 105, 106, 107, 108, 109] u u1 → mX P kd ar cn ch Y R (p1 + 1) u1 → mO Y p1 u1 → ab_J p l e (ab_rm 5 0 0) s m args below meth c (MQ below (ab_Q D ca ad ab_nQ s.heap.size (fun u' v => (gP [16, 17, 18, 19, 105, 106, 107, 108, 109] u u' ∧ mX P kd ar cn ch Y R p1 u') ∧ v = none)) args s 0 0 (ab_A ad ab_nQ s.heap.size)) D ca (ab_A ad ab_nQ s.heap.size) s.heap 6 0 0 ad ab_nQ u1 131 [(2, ab_I (nI (Y p1 1).1)), (0, ab_O 17 0), (1, ab_I (nI p1))] [ab_I (nI z), ab_I (nI p1), ab_O 18 8] := by
    intro u1 z hz Q1 M1 O1
    rcases hz with ⟨hl, hz⟩ | ⟨hl, hz⟩
    ·
      refine ab_iast X (p1) ⟨rfl, rfl⟩ d_MO_forms_131 (by first | assumption | decide | (show _ < 124; omega) | (show _ < 61; omega) | (show _ < 20; omega)) (rfl) (show p1 < 24 by omega) (ab_ln_lt _ _) ?_
      refine ab_gen (fun u131 e131 => ?_)
      have P131 : gP [16, 17, 18, 19, 105, 106, 107, 108, 109] u u131 := by rw [e131]; exact Q1.ui rfl (by decide)
      refine ab_iconst (v := 0) X d_MO_forms_132 (by decide) ?_
      refine ab_istore3 X 0 1 2 d_MO_forms_133 (by decide) rfl rfl rfl rfl rfl rfl ?_
      exact K135a (cn p1) 0 _ hl (by omega) P131 (M1.u8 e131) (O1.u8 e131) (by rw [e131, ← hz]; exact ui_s _)
    ·
      refine ab_iast X (p1) ⟨rfl, rfl⟩ d_MO_forms_131 (by first | assumption | decide | (show _ < 124; omega) | (show _ < 61; omega) | (show _ < 20; omega)) (rfl) (show p1 < 24 by omega) (ab_ln_lt _ _) ?_
      refine ab_gen (fun u131 e131 => ?_)
      have P131 : gP [16, 17, 18, 19, 105, 106, 107, 108, 109] u u131 := by rw [e131]; exact Q1.ui rfl (by decide)
      refine ab_iconst (v := 0) X d_MO_forms_132 (by decide) ?_
      refine ab_istore3 X 0 1 2 d_MO_forms_133 (by decide) rfl rfl rfl rfl rfl rfl ?_
      exact K135b _ hl P131 (M1.u8 e131) (O1.u8 e131) (by rw [e131, ← hz]; exact ui_s _)
  have K45 : ∀ (u1 : ab_S), gP [16, 17, 18, 19, 105, 106, 107, 108, 109] u u1 → mX P kd ar cn ch Y R (p1 + 1) u1 → mO Y p1 u1 → ab_J p l e (ab_rm 5 0 0) s m args below meth c (MQ below (ab_Q D ca ad ab_nQ s.heap.size (fun u' v => (gP [16, 17, 18, 19, 105, 106, 107, 108, 109] u u' ∧ mX P kd ar cn ch Y R p1 u') ∧ v = none)) args s 0 0 (ab_A ad ab_nQ s.heap.size)) D ca (ab_A ad ab_nQ s.heap.size) s.heap 6 0 0 ad ab_nQ u1 45 [(0, ab_O 17 0), (1, ab_I (nI p1))] [] := by
    intro u1 Q1 M1 O1
    have a1 : u1.1 18 5 (3 * p1 + 1) = nI (Y p1 1).1 := (O1 1 (by decide)).1
    have wn : ∀ {a : Nat}, nI (Y p1 1).1 = nI a → a ≤ 8 → (Y p1 1).1 = a := fun z ha => (nI_eq (by omega) (by omega)).mp z
    by_cases q56 : (Y p1 1).1 = 5 ∨ (Y p1 1).1 = 6
    · have hk : kd p1 = 5 ∨ kd p1 = 6 := by have := hwD; unfold wok at this; omega
      obtain ⟨x, y, ex, ey, x1, x2, y1, y2, -, -, -, hx, hy⟩ := W.two T hp hk
      have ex8 := (M1 x (by omega) x2).1.2
      have ey8 := (M1 y (by omega) y2).1.2
      rcases q56 with q5 | q6
      · have eN : (R p1).length = 1 + (R x).length := by
          have e : rfS cn ch R p1 (Y p1 1).1 = 1 :: R (ch p1 0) := (if_neg (by omega)).trans (if_pos q5)
          rw [eR, e, hx, List.length_cons, Nat.add_comm]
        refine ab_aload_n X 0 d_MO_forms_45 rfl rfl ?_
        refine ab_gR X fl_MO_45 d_MO_forms_46 (by first | assumption | decide | (show _ < 124; omega) | (show _ < 61; omega) | (show _ < 20; omega)) (Q1.1.mo11) ?_
        refine ab_iload_n X 1 d_MO_forms_49 rfl rfl ?_
        refine ab_callS (as := [ab_I (nI p1)]) X (fun h => by cases h) (t_MO_d u1 p1) ls_MO_195 d_MO_forms_50 rfl rfl ⟨by first | exact Nat.le_of_ble_eq_true rfl | (simp only [ab_rm]; omega), by first | exact Nat.le_of_ble_eq_true rfl | (simp only [ab_rm]; omega)⟩ ⟨by first | exact Nat.le_of_ble_eq_true rfl | (simp only [ab_rm]; omega), by first | exact Nat.le_of_ble_eq_true rfl | (simp only [ab_rm]; omega)⟩ (Nat.le_of_ble_eq_true rfl) (fun u50 r50 h50 => ?_)
        obtain ⟨e50, rfl⟩ := h50
        subst u50
        refine ab_iald X (3 * p1 + 1) ⟨rfl, rfl⟩ d_MO_forms_53 (by first | assumption | decide | (show _ < 124; omega) | (show _ < 61; omega) | (show _ < 20; omega)) (rfl) (show 3 * p1 + 1 < 72 by omega) (ab_ln_lt _ _) ?_
        refine ab_top a1 ?_
        refine ab_istore_n2 X 0 1 d_MO_forms_54 rfl (by decide) rfl rfl rfl rfl ?_
        refine ab_aload_n X 1 d_MO_forms_55 rfl rfl ?_
        refine ab_gR X fl_MO_42 d_MO_forms_56 (by first | assumption | decide | (show _ < 124; omega) | (show _ < 61; omega) | (show _ < 20; omega)) (Q1.1.mo10) ?_
        refine ab_iconst (v := 4) X d_MO_forms_59 (by decide) ?_
        refine ab_iload_n X 2 d_MO_forms_60 rfl rfl ?_
        refine ab_imul X d_MO_forms_61 ?_
        refine ab_iald X (4 * p1) ⟨rfl, rfl⟩ d_MO_forms_62 (by first | assumption | decide | (show _ < 124; omega) | (show _ < 61; omega) | (show _ < 20; omega)) (nI_4m p1) (show 4 * p1 < 160 by omega) (ab_ln_lt _ _) ?_
        refine ab_top (Q1.ai (by decide) ex) ?_
        refine ab_istore_n3 X 0 1 2 d_MO_forms_63 rfl (by decide) rfl rfl rfl rfl rfl rfl ?_
        refine ab_aload_n X 2 d_MO_forms_64 rfl rfl ?_
        refine ab_gR X fl_MO_42 d_MO_forms_65 (by first | assumption | decide | (show _ < 124; omega) | (show _ < 61; omega) | (show _ < 20; omega)) (Q1.1.mo10) ?_
        refine ab_iconst (v := 4) X d_MO_forms_68 (by decide) ?_
        refine ab_iload_n X 3 d_MO_forms_69 rfl rfl ?_
        refine ab_imul X d_MO_forms_70 ?_
        refine ab_iconst (v := 1) X d_MO_forms_71 (by decide) ?_
        refine ab_iadd X d_MO_forms_72 ?_
        refine ab_iald X (4 * p1 + 1) ⟨rfl, rfl⟩ d_MO_forms_73 (by first | assumption | decide | (show _ < 124; omega) | (show _ < 61; omega) | (show _ < 20; omega)) (nI_4b p1) (show 4 * p1 + 1 < 160 by omega) (ab_ln_lt _ _) ?_
        refine ab_top (Q1.ai (by decide) ey) ?_
        refine ab_istore4 X 0 1 2 3 d_MO_forms_74 (by decide) rfl rfl rfl rfl rfl rfl rfl rfl ?_
        refine ab_aload_n X 3 d_MO_forms_76 rfl rfl ?_
        refine ab_gR X fl_MO_54 d_MO_forms_77 (by first | assumption | decide | (show _ < 124; omega) | (show _ < 61; omega) | (show _ < 20; omega)) (Q1.1.mo14) ?_
        refine ab_iload_n X 4 d_MO_forms_80 rfl rfl ?_
        refine ab_iload_n X 2 d_MO_forms_81 rfl rfl ?_
        refine ab_iconst (v := 1) X d_MO_forms_82 (by decide) ?_
        refine ab_icmp_eq X 92 d_MO_forms_83 rfl (fun hb => absurd hb ((fun z => absurd (wn (a := 1) z (by decide)) (by omega)))) (fun _ => ?_)
        refine ab_iload_n X 2 d_MO_forms_86 rfl rfl ?_
        refine ab_bipush (v := 8) X d_MO_forms_87 (by decide) ?_
        refine ab_icmp_ne X 96 d_MO_forms_89 rfl (fun _ => ?_) (fun hb => absurd hb ((fun z => absurd (wn (a := 8) z (by decide)) (by omega))))
        refine ab_iload_n X 2 d_MO_forms_96 rfl rfl ?_
        refine ab_iconst (v := 5) X d_MO_forms_97 (by decide) ?_
        refine ab_icmp_ne X 112 d_MO_forms_98 rfl (fun hb => absurd ((by rw [q5]; rfl)) hb) (fun _ => ?_)
        refine ab_iconst (v := 1) X d_MO_forms_101 (by decide) ?_
        refine ab_aload_n X 3 d_MO_forms_102 rfl rfl ?_
        refine ab_gR X fl_MO_54 d_MO_forms_103 (by first | assumption | decide | (show _ < 124; omega) | (show _ < 61; omega) | (show _ < 20; omega)) (Q1.1.mo14) ?_
        refine ab_iload_n X 1 d_MO_forms_106 rfl rfl ?_
        refine ab_iald X (x) ⟨rfl, rfl⟩ d_MO_forms_107 (by first | assumption | decide | (show _ < 124; omega) | (show _ < 61; omega) | (show _ < 20; omega)) (rfl) (show x < 24 by omega) (ab_ln_lt _ _) ?_
        refine ab_top ex8 ?_
        refine ab_iadd X d_MO_forms_108 ?_
        refine ab_top (nI_add 1 _) ?_
        refine ab_goto X 131 d_MO_forms_109 rfl ?_
        refine ab_lv (List.forall_mem_cons.mpr ⟨List.mem_of_getElem? (i := 2) rfl, List.forall_mem_cons.mpr ⟨List.mem_of_getElem? (i := 3) rfl, List.forall_mem_cons.mpr ⟨List.mem_of_getElem? (i := 4) rfl, fun _ h => absurd h List.not_mem_nil⟩⟩⟩) ?_
        exact K131 _ _ (Or.inr ⟨by omega, eN.symm⟩) Q1 M1 O1
      · have eN : (R p1).length = 1 + (R y).length := by
          have e : rfS cn ch R p1 (Y p1 1).1 = 0 :: R (ch p1 1) := (if_neg (by omega)).trans ((if_neg (by omega)).trans (if_pos q6))
          rw [eR, e, hy, List.length_cons, Nat.add_comm]
        refine ab_aload_n X 0 d_MO_forms_45 rfl rfl ?_
        refine ab_gR X fl_MO_45 d_MO_forms_46 (by first | assumption | decide | (show _ < 124; omega) | (show _ < 61; omega) | (show _ < 20; omega)) (Q1.1.mo11) ?_
        refine ab_iload_n X 1 d_MO_forms_49 rfl rfl ?_
        refine ab_callS (as := [ab_I (nI p1)]) X (fun h => by cases h) (t_MO_d u1 p1) ls_MO_195 d_MO_forms_50 rfl rfl ⟨by first | exact Nat.le_of_ble_eq_true rfl | (simp only [ab_rm]; omega), by first | exact Nat.le_of_ble_eq_true rfl | (simp only [ab_rm]; omega)⟩ ⟨by first | exact Nat.le_of_ble_eq_true rfl | (simp only [ab_rm]; omega), by first | exact Nat.le_of_ble_eq_true rfl | (simp only [ab_rm]; omega)⟩ (Nat.le_of_ble_eq_true rfl) (fun u50 r50 h50 => ?_)
        obtain ⟨e50, rfl⟩ := h50
        subst u50
        refine ab_iald X (3 * p1 + 1) ⟨rfl, rfl⟩ d_MO_forms_53 (by first | assumption | decide | (show _ < 124; omega) | (show _ < 61; omega) | (show _ < 20; omega)) (rfl) (show 3 * p1 + 1 < 72 by omega) (ab_ln_lt _ _) ?_
        refine ab_top a1 ?_
        refine ab_istore_n2 X 0 1 d_MO_forms_54 rfl (by decide) rfl rfl rfl rfl ?_
        refine ab_aload_n X 1 d_MO_forms_55 rfl rfl ?_
        refine ab_gR X fl_MO_42 d_MO_forms_56 (by first | assumption | decide | (show _ < 124; omega) | (show _ < 61; omega) | (show _ < 20; omega)) (Q1.1.mo10) ?_
        refine ab_iconst (v := 4) X d_MO_forms_59 (by decide) ?_
        refine ab_iload_n X 2 d_MO_forms_60 rfl rfl ?_
        refine ab_imul X d_MO_forms_61 ?_
        refine ab_iald X (4 * p1) ⟨rfl, rfl⟩ d_MO_forms_62 (by first | assumption | decide | (show _ < 124; omega) | (show _ < 61; omega) | (show _ < 20; omega)) (nI_4m p1) (show 4 * p1 < 160 by omega) (ab_ln_lt _ _) ?_
        refine ab_top (Q1.ai (by decide) ex) ?_
        refine ab_istore_n3 X 0 1 2 d_MO_forms_63 rfl (by decide) rfl rfl rfl rfl rfl rfl ?_
        refine ab_aload_n X 2 d_MO_forms_64 rfl rfl ?_
        refine ab_gR X fl_MO_42 d_MO_forms_65 (by first | assumption | decide | (show _ < 124; omega) | (show _ < 61; omega) | (show _ < 20; omega)) (Q1.1.mo10) ?_
        refine ab_iconst (v := 4) X d_MO_forms_68 (by decide) ?_
        refine ab_iload_n X 3 d_MO_forms_69 rfl rfl ?_
        refine ab_imul X d_MO_forms_70 ?_
        refine ab_iconst (v := 1) X d_MO_forms_71 (by decide) ?_
        refine ab_iadd X d_MO_forms_72 ?_
        refine ab_iald X (4 * p1 + 1) ⟨rfl, rfl⟩ d_MO_forms_73 (by first | assumption | decide | (show _ < 124; omega) | (show _ < 61; omega) | (show _ < 20; omega)) (nI_4b p1) (show 4 * p1 + 1 < 160 by omega) (ab_ln_lt _ _) ?_
        refine ab_top (Q1.ai (by decide) ey) ?_
        refine ab_istore4 X 0 1 2 3 d_MO_forms_74 (by decide) rfl rfl rfl rfl rfl rfl rfl rfl ?_
        refine ab_aload_n X 3 d_MO_forms_76 rfl rfl ?_
        refine ab_gR X fl_MO_54 d_MO_forms_77 (by first | assumption | decide | (show _ < 124; omega) | (show _ < 61; omega) | (show _ < 20; omega)) (Q1.1.mo14) ?_
        refine ab_iload_n X 4 d_MO_forms_80 rfl rfl ?_
        refine ab_iload_n X 2 d_MO_forms_81 rfl rfl ?_
        refine ab_iconst (v := 1) X d_MO_forms_82 (by decide) ?_
        refine ab_icmp_eq X 92 d_MO_forms_83 rfl (fun hb => absurd hb ((fun z => absurd (wn (a := 1) z (by decide)) (by omega)))) (fun _ => ?_)
        refine ab_iload_n X 2 d_MO_forms_86 rfl rfl ?_
        refine ab_bipush (v := 8) X d_MO_forms_87 (by decide) ?_
        refine ab_icmp_ne X 96 d_MO_forms_89 rfl (fun _ => ?_) (fun hb => absurd hb ((fun z => absurd (wn (a := 8) z (by decide)) (by omega))))
        refine ab_iload_n X 2 d_MO_forms_96 rfl rfl ?_
        refine ab_iconst (v := 5) X d_MO_forms_97 (by decide) ?_
        refine ab_icmp_ne X 112 d_MO_forms_98 rfl (fun _ => ?_) (fun hb => absurd hb ((fun z => absurd (wn (a := 5) z (by decide)) (by omega))))
        refine ab_iload_n X 2 d_MO_forms_112 rfl rfl ?_
        refine ab_bipush (v := 6) X d_MO_forms_113 (by decide) ?_
        refine ab_icmp_ne X 130 d_MO_forms_115 rfl (fun hb => absurd ((by rw [q6]; rfl)) hb) (fun _ => ?_)
        refine ab_iconst (v := 1) X d_MO_forms_118 (by decide) ?_
        refine ab_aload_n X 3 d_MO_forms_119 rfl rfl ?_
        refine ab_gR X fl_MO_54 d_MO_forms_120 (by first | assumption | decide | (show _ < 124; omega) | (show _ < 61; omega) | (show _ < 20; omega)) (Q1.1.mo14) ?_
        refine ab_iload X 0 d_MO_forms_123 rfl ?_
        refine ab_iald X (y) ⟨rfl, rfl⟩ d_MO_forms_125 (by first | assumption | decide | (show _ < 124; omega) | (show _ < 61; omega) | (show _ < 20; omega)) (rfl) (show y < 24 by omega) (ab_ln_lt _ _) ?_
        refine ab_top ey8 ?_
        refine ab_iadd X d_MO_forms_126 ?_
        refine ab_top (nI_add 1 _) ?_
        refine ab_goto X 131 d_MO_forms_127 rfl ?_
        refine ab_lv (List.forall_mem_cons.mpr ⟨List.mem_of_getElem? (i := 2) rfl, List.forall_mem_cons.mpr ⟨List.mem_of_getElem? (i := 3) rfl, List.forall_mem_cons.mpr ⟨List.mem_of_getElem? (i := 4) rfl, fun _ h => absurd h List.not_mem_nil⟩⟩⟩) ?_
        exact K131 _ _ (Or.inr ⟨by omega, eN.symm⟩) Q1 M1 O1
    · by_cases q1 : (Y p1 1).1 = 1
      ·
        refine ab_aload_n X 0 d_MO_forms_45 rfl rfl ?_
        refine ab_gR X fl_MO_45 d_MO_forms_46 (by first | assumption | decide | (show _ < 124; omega) | (show _ < 61; omega) | (show _ < 20; omega)) (Q1.1.mo11) ?_
        refine ab_iload_n X 1 d_MO_forms_49 rfl rfl ?_
        refine ab_callS (as := [ab_I (nI p1)]) X (fun h => by cases h) (t_MO_d u1 p1) ls_MO_195 d_MO_forms_50 rfl rfl ⟨by first | exact Nat.le_of_ble_eq_true rfl | (simp only [ab_rm]; omega), by first | exact Nat.le_of_ble_eq_true rfl | (simp only [ab_rm]; omega)⟩ ⟨by first | exact Nat.le_of_ble_eq_true rfl | (simp only [ab_rm]; omega), by first | exact Nat.le_of_ble_eq_true rfl | (simp only [ab_rm]; omega)⟩ (Nat.le_of_ble_eq_true rfl) (fun u50 r50 h50 => ?_)
        obtain ⟨e50, rfl⟩ := h50
        subst u50
        refine ab_iald X (3 * p1 + 1) ⟨rfl, rfl⟩ d_MO_forms_53 (by first | assumption | decide | (show _ < 124; omega) | (show _ < 61; omega) | (show _ < 20; omega)) (rfl) (show 3 * p1 + 1 < 72 by omega) (ab_ln_lt _ _) ?_
        refine ab_top a1 ?_
        refine ab_istore_n2 X 0 1 d_MO_forms_54 rfl (by decide) rfl rfl rfl rfl ?_
        refine ab_aload_n X 1 d_MO_forms_55 rfl rfl ?_
        refine ab_gR X fl_MO_42 d_MO_forms_56 (by first | assumption | decide | (show _ < 124; omega) | (show _ < 61; omega) | (show _ < 20; omega)) (Q1.1.mo10) ?_
        refine ab_iconst (v := 4) X d_MO_forms_59 (by decide) ?_
        refine ab_iload_n X 2 d_MO_forms_60 rfl rfl ?_
        refine ab_imul X d_MO_forms_61 ?_
        refine ab_iald X (4 * p1) ⟨rfl, rfl⟩ d_MO_forms_62 (by first | assumption | decide | (show _ < 124; omega) | (show _ < 61; omega) | (show _ < 20; omega)) (nI_4m p1) (show 4 * p1 < 160 by omega) (ab_ln_lt _ _) ?_
        refine ab_istore_n3 X 0 1 2 d_MO_forms_63 rfl (by decide) rfl rfl rfl rfl rfl rfl ?_
        refine ab_aload_n X 2 d_MO_forms_64 rfl rfl ?_
        refine ab_gR X fl_MO_42 d_MO_forms_65 (by first | assumption | decide | (show _ < 124; omega) | (show _ < 61; omega) | (show _ < 20; omega)) (Q1.1.mo10) ?_
        refine ab_iconst (v := 4) X d_MO_forms_68 (by decide) ?_
        refine ab_iload_n X 3 d_MO_forms_69 rfl rfl ?_
        refine ab_imul X d_MO_forms_70 ?_
        refine ab_iconst (v := 1) X d_MO_forms_71 (by decide) ?_
        refine ab_iadd X d_MO_forms_72 ?_
        refine ab_iald X (4 * p1 + 1) ⟨rfl, rfl⟩ d_MO_forms_73 (by first | assumption | decide | (show _ < 124; omega) | (show _ < 61; omega) | (show _ < 20; omega)) (nI_4b p1) (show 4 * p1 + 1 < 160 by omega) (ab_ln_lt _ _) ?_
        refine ab_istore4 X 0 1 2 3 d_MO_forms_74 (by decide) rfl rfl rfl rfl rfl rfl rfl rfl ?_
        refine ab_aload_n X 3 d_MO_forms_76 rfl rfl ?_
        refine ab_gR X fl_MO_54 d_MO_forms_77 (by first | assumption | decide | (show _ < 124; omega) | (show _ < 61; omega) | (show _ < 20; omega)) (Q1.1.mo14) ?_
        refine ab_iload_n X 4 d_MO_forms_80 rfl rfl ?_
        refine ab_iload_n X 2 d_MO_forms_81 rfl rfl ?_
        refine ab_iconst (v := 1) X d_MO_forms_82 (by decide) ?_
        refine ab_icmp_eq X 92 d_MO_forms_83 rfl (fun _ => ?_) (fun hb => absurd ((by rw [q1]; rfl)) hb)
        refine ab_iconst (v := 1) X d_MO_forms_92 (by decide) ?_
        refine ab_goto X 131 d_MO_forms_93 rfl ?_
        refine ab_lv (List.forall_mem_cons.mpr ⟨List.mem_of_getElem? (i := 2) rfl, List.forall_mem_cons.mpr ⟨List.mem_of_getElem? (i := 3) rfl, List.forall_mem_cons.mpr ⟨List.mem_of_getElem? (i := 4) rfl, fun _ h => absurd h List.not_mem_nil⟩⟩⟩) ?_
        exact K131 _ 1 (Or.inl ⟨by omega, (if_pos q1).symm⟩) Q1 M1 O1
      · by_cases q8 : (Y p1 1).1 = 8
        · have eN : (R p1).length = 1 := by
            have e : rfS cn ch R p1 (Y p1 1).1 = [0] := if_pos (Or.inr q8)
            rw [eR, e]; rfl
          refine ab_aload_n X 0 d_MO_forms_45 rfl rfl ?_
          refine ab_gR X fl_MO_45 d_MO_forms_46 (by first | assumption | decide | (show _ < 124; omega) | (show _ < 61; omega) | (show _ < 20; omega)) (Q1.1.mo11) ?_
          refine ab_iload_n X 1 d_MO_forms_49 rfl rfl ?_
          refine ab_callS (as := [ab_I (nI p1)]) X (fun h => by cases h) (t_MO_d u1 p1) ls_MO_195 d_MO_forms_50 rfl rfl ⟨by first | exact Nat.le_of_ble_eq_true rfl | (simp only [ab_rm]; omega), by first | exact Nat.le_of_ble_eq_true rfl | (simp only [ab_rm]; omega)⟩ ⟨by first | exact Nat.le_of_ble_eq_true rfl | (simp only [ab_rm]; omega), by first | exact Nat.le_of_ble_eq_true rfl | (simp only [ab_rm]; omega)⟩ (Nat.le_of_ble_eq_true rfl) (fun u50 r50 h50 => ?_)
          obtain ⟨e50, rfl⟩ := h50
          subst u50
          refine ab_iald X (3 * p1 + 1) ⟨rfl, rfl⟩ d_MO_forms_53 (by first | assumption | decide | (show _ < 124; omega) | (show _ < 61; omega) | (show _ < 20; omega)) (rfl) (show 3 * p1 + 1 < 72 by omega) (ab_ln_lt _ _) ?_
          refine ab_top a1 ?_
          refine ab_istore_n2 X 0 1 d_MO_forms_54 rfl (by decide) rfl rfl rfl rfl ?_
          refine ab_aload_n X 1 d_MO_forms_55 rfl rfl ?_
          refine ab_gR X fl_MO_42 d_MO_forms_56 (by first | assumption | decide | (show _ < 124; omega) | (show _ < 61; omega) | (show _ < 20; omega)) (Q1.1.mo10) ?_
          refine ab_iconst (v := 4) X d_MO_forms_59 (by decide) ?_
          refine ab_iload_n X 2 d_MO_forms_60 rfl rfl ?_
          refine ab_imul X d_MO_forms_61 ?_
          refine ab_iald X (4 * p1) ⟨rfl, rfl⟩ d_MO_forms_62 (by first | assumption | decide | (show _ < 124; omega) | (show _ < 61; omega) | (show _ < 20; omega)) (nI_4m p1) (show 4 * p1 < 160 by omega) (ab_ln_lt _ _) ?_
          refine ab_istore_n3 X 0 1 2 d_MO_forms_63 rfl (by decide) rfl rfl rfl rfl rfl rfl ?_
          refine ab_aload_n X 2 d_MO_forms_64 rfl rfl ?_
          refine ab_gR X fl_MO_42 d_MO_forms_65 (by first | assumption | decide | (show _ < 124; omega) | (show _ < 61; omega) | (show _ < 20; omega)) (Q1.1.mo10) ?_
          refine ab_iconst (v := 4) X d_MO_forms_68 (by decide) ?_
          refine ab_iload_n X 3 d_MO_forms_69 rfl rfl ?_
          refine ab_imul X d_MO_forms_70 ?_
          refine ab_iconst (v := 1) X d_MO_forms_71 (by decide) ?_
          refine ab_iadd X d_MO_forms_72 ?_
          refine ab_iald X (4 * p1 + 1) ⟨rfl, rfl⟩ d_MO_forms_73 (by first | assumption | decide | (show _ < 124; omega) | (show _ < 61; omega) | (show _ < 20; omega)) (nI_4b p1) (show 4 * p1 + 1 < 160 by omega) (ab_ln_lt _ _) ?_
          refine ab_istore4 X 0 1 2 3 d_MO_forms_74 (by decide) rfl rfl rfl rfl rfl rfl rfl rfl ?_
          refine ab_aload_n X 3 d_MO_forms_76 rfl rfl ?_
          refine ab_gR X fl_MO_54 d_MO_forms_77 (by first | assumption | decide | (show _ < 124; omega) | (show _ < 61; omega) | (show _ < 20; omega)) (Q1.1.mo14) ?_
          refine ab_iload_n X 4 d_MO_forms_80 rfl rfl ?_
          refine ab_iload_n X 2 d_MO_forms_81 rfl rfl ?_
          refine ab_iconst (v := 1) X d_MO_forms_82 (by decide) ?_
          refine ab_icmp_eq X 92 d_MO_forms_83 rfl (fun hb => absurd hb ((fun z => absurd (wn (a := 1) z (by decide)) (by omega)))) (fun _ => ?_)
          refine ab_iload_n X 2 d_MO_forms_86 rfl rfl ?_
          refine ab_bipush (v := 8) X d_MO_forms_87 (by decide) ?_
          refine ab_icmp_ne X 96 d_MO_forms_89 rfl (fun hb => absurd ((by rw [q8]; rfl)) hb) (fun _ => ?_)
          refine ab_iconst (v := 1) X d_MO_forms_92 (by decide) ?_
          refine ab_goto X 131 d_MO_forms_93 rfl ?_
          refine ab_lv (List.forall_mem_cons.mpr ⟨List.mem_of_getElem? (i := 2) rfl, List.forall_mem_cons.mpr ⟨List.mem_of_getElem? (i := 3) rfl, List.forall_mem_cons.mpr ⟨List.mem_of_getElem? (i := 4) rfl, fun _ h => absurd h List.not_mem_nil⟩⟩⟩) ?_
          exact K131 _ 1 (Or.inr ⟨by omega, eN.symm⟩) Q1 M1 O1
        ·
          refine ab_aload_n X 0 d_MO_forms_45 rfl rfl ?_
          refine ab_gR X fl_MO_45 d_MO_forms_46 (by first | assumption | decide | (show _ < 124; omega) | (show _ < 61; omega) | (show _ < 20; omega)) (Q1.1.mo11) ?_
          refine ab_iload_n X 1 d_MO_forms_49 rfl rfl ?_
          refine ab_callS (as := [ab_I (nI p1)]) X (fun h => by cases h) (t_MO_d u1 p1) ls_MO_195 d_MO_forms_50 rfl rfl ⟨by first | exact Nat.le_of_ble_eq_true rfl | (simp only [ab_rm]; omega), by first | exact Nat.le_of_ble_eq_true rfl | (simp only [ab_rm]; omega)⟩ ⟨by first | exact Nat.le_of_ble_eq_true rfl | (simp only [ab_rm]; omega), by first | exact Nat.le_of_ble_eq_true rfl | (simp only [ab_rm]; omega)⟩ (Nat.le_of_ble_eq_true rfl) (fun u50 r50 h50 => ?_)
          obtain ⟨e50, rfl⟩ := h50
          subst u50
          refine ab_iald X (3 * p1 + 1) ⟨rfl, rfl⟩ d_MO_forms_53 (by first | assumption | decide | (show _ < 124; omega) | (show _ < 61; omega) | (show _ < 20; omega)) (rfl) (show 3 * p1 + 1 < 72 by omega) (ab_ln_lt _ _) ?_
          refine ab_top a1 ?_
          refine ab_istore_n2 X 0 1 d_MO_forms_54 rfl (by decide) rfl rfl rfl rfl ?_
          refine ab_aload_n X 1 d_MO_forms_55 rfl rfl ?_
          refine ab_gR X fl_MO_42 d_MO_forms_56 (by first | assumption | decide | (show _ < 124; omega) | (show _ < 61; omega) | (show _ < 20; omega)) (Q1.1.mo10) ?_
          refine ab_iconst (v := 4) X d_MO_forms_59 (by decide) ?_
          refine ab_iload_n X 2 d_MO_forms_60 rfl rfl ?_
          refine ab_imul X d_MO_forms_61 ?_
          refine ab_iald X (4 * p1) ⟨rfl, rfl⟩ d_MO_forms_62 (by first | assumption | decide | (show _ < 124; omega) | (show _ < 61; omega) | (show _ < 20; omega)) (nI_4m p1) (show 4 * p1 < 160 by omega) (ab_ln_lt _ _) ?_
          refine ab_istore_n3 X 0 1 2 d_MO_forms_63 rfl (by decide) rfl rfl rfl rfl rfl rfl ?_
          refine ab_aload_n X 2 d_MO_forms_64 rfl rfl ?_
          refine ab_gR X fl_MO_42 d_MO_forms_65 (by first | assumption | decide | (show _ < 124; omega) | (show _ < 61; omega) | (show _ < 20; omega)) (Q1.1.mo10) ?_
          refine ab_iconst (v := 4) X d_MO_forms_68 (by decide) ?_
          refine ab_iload_n X 3 d_MO_forms_69 rfl rfl ?_
          refine ab_imul X d_MO_forms_70 ?_
          refine ab_iconst (v := 1) X d_MO_forms_71 (by decide) ?_
          refine ab_iadd X d_MO_forms_72 ?_
          refine ab_iald X (4 * p1 + 1) ⟨rfl, rfl⟩ d_MO_forms_73 (by first | assumption | decide | (show _ < 124; omega) | (show _ < 61; omega) | (show _ < 20; omega)) (nI_4b p1) (show 4 * p1 + 1 < 160 by omega) (ab_ln_lt _ _) ?_
          refine ab_istore4 X 0 1 2 3 d_MO_forms_74 (by decide) rfl rfl rfl rfl rfl rfl rfl rfl ?_
          refine ab_aload_n X 3 d_MO_forms_76 rfl rfl ?_
          refine ab_gR X fl_MO_54 d_MO_forms_77 (by first | assumption | decide | (show _ < 124; omega) | (show _ < 61; omega) | (show _ < 20; omega)) (Q1.1.mo14) ?_
          refine ab_iload_n X 4 d_MO_forms_80 rfl rfl ?_
          refine ab_iload_n X 2 d_MO_forms_81 rfl rfl ?_
          refine ab_iconst (v := 1) X d_MO_forms_82 (by decide) ?_
          refine ab_icmp_eq X 92 d_MO_forms_83 rfl (fun hb => absurd hb ((fun z => q1 (wn (a := 1) z (by decide))))) (fun _ => ?_)
          refine ab_iload_n X 2 d_MO_forms_86 rfl rfl ?_
          refine ab_bipush (v := 8) X d_MO_forms_87 (by decide) ?_
          refine ab_icmp_ne X 96 d_MO_forms_89 rfl (fun _ => ?_) (fun hb => absurd hb ((fun z => q8 (wn (a := 8) z (by decide)))))
          refine ab_iload_n X 2 d_MO_forms_96 rfl rfl ?_
          refine ab_iconst (v := 5) X d_MO_forms_97 (by decide) ?_
          refine ab_icmp_ne X 112 d_MO_forms_98 rfl (fun _ => ?_) (fun hb => absurd hb ((fun z => q56 (Or.inl (wn (a := 5) z (by decide))))))
          refine ab_iload_n X 2 d_MO_forms_112 rfl rfl ?_
          refine ab_bipush (v := 6) X d_MO_forms_113 (by decide) ?_
          refine ab_icmp_ne X 130 d_MO_forms_115 rfl (fun _ => ?_) (fun hb => absurd hb ((fun z => q56 (Or.inr (wn (a := 6) z (by decide))))))
          refine ab_iconst (v := 0) X d_MO_forms_130 (by decide) ?_
          refine ab_lv (List.forall_mem_cons.mpr ⟨List.mem_of_getElem? (i := 2) rfl, List.forall_mem_cons.mpr ⟨List.mem_of_getElem? (i := 3) rfl, List.forall_mem_cons.mpr ⟨List.mem_of_getElem? (i := 4) rfl, fun _ h => absurd h List.not_mem_nil⟩⟩⟩) ?_
          exact K131 _ 0 (Or.inl ⟨by omega, (if_neg q1).symm⟩) Q1 M1 O1
  have sB : pks (tL cn ch (xL Y) p1) (tG kd ar cn ch (xG Y) R p1) none (fit (kd p1) (ar p1) (cn p1) 11 (18 + 1 - 11) ++ fit (kd p1) (ar p1) (cn p1) 1 (7 + 1 - 1)) = some (Y p1 0) := by
    rw [show 18 + 1 - 11 = 8 from rfl, show 7 + 1 - 1 = 7 from rfl, fit_0 k17]; exact ((F p1 hp).1 0 (by decide)).symm
  have sD : pks (tL cn ch (xL Y) p1) (tG kd ar cn ch (xG Y) R p1) none (fit (kd p1) (ar p1) (cn p1) 1 (8 + 1 - 1) ++ fit (kd p1) (ar p1) (cn p1) 1 (0 + 1 - 1)) = some (Y p1 1) := by
    rw [show 8 + 1 - 1 = 8 from rfl, show 0 + 1 - 1 = 0 from rfl, fit_1 k17, show fit (kd p1) (ar p1) (cn p1) 1 0 = [] from rfl, List.append_nil]; exact ((F p1 hp).1 1 (by decide)).symm
  have sV : pks (tL cn ch (xL Y) p1) (tG kd ar cn ch (xG Y) R p1) none (fit (kd p1) (ar p1) (cn p1) 21 (24 + 1 - 21) ++ fit (kd p1) (ar p1) (cn p1) 1 (0 + 1 - 1)) = some (Y p1 2) := by
    rw [show 24 + 1 - 21 = 4 from rfl, show 0 + 1 - 1 = 0 from rfl, fit_2 k17, show fit (kd p1) (ar p1) (cn p1) 1 0 = [] from rfl, List.append_nil]; exact ((F p1 hp).1 2 (by decide)).symm
  refine ab_aload_n X 0 d_MO_forms_0 rfl rfl ?_
  refine ab_iload_n X 1 d_MO_forms_1 rfl rfl ?_
  refine ab_iload_n X 1 d_MO_forms_2 rfl rfl ?_
  refine ab_callS (as := [ab_I (nI p1)]) X (fun h => by cases h) (t_MO_b u p1) ls_MO_204 d_MO_forms_3 rfl rfl ⟨by first | exact Nat.le_of_ble_eq_true rfl | (simp only [ab_rm]; omega), by first | exact Nat.le_of_ble_eq_true rfl | (simp only [ab_rm]; omega)⟩ ⟨by first | exact Nat.le_of_ble_eq_true rfl | (simp only [ab_rm]; omega), by first | exact Nat.le_of_ble_eq_true rfl | (simp only [ab_rm]; omega)⟩ (Nat.le_of_ble_eq_true rfl) (fun u3 r3 h3 => ?_)
  obtain ⟨e3, rfl⟩ := h3
  subst u3
  refine ab_bipush (v := 11) X d_MO_forms_6 (by decide) ?_
  refine ab_bipush (v := 18) X d_MO_forms_8 (by decide) ?_
  refine ab_iconst (v := 1) X d_MO_forms_10 (by decide) ?_
  refine ab_bipush (v := 7) X d_MO_forms_11 (by decide) ?_
  refine ab_callV (as := [ab_I (nI p1), ab_I (nI (3 * p1 + 0)), ab_I (nI 11), ab_I (nI 18), ab_I (nI 1), ab_I (nI 7)]) X (fun h => by cases h) (x_MO_choose u P kd ar cn lf ch Y R W hB T p1 0 11 18 1 7 h hp (by decide) (fun z a b => (V z (by omega) b).1) (fun w hw => ⟨ways_in w (by omega) (by omega), fun z => by omega⟩) (by decide) (by decide)) lk_MO_232 d_MO_forms_13 rfl rfl (by first | assumption | decide | (show _ < 124; omega) | (show _ < 61; omega) | (show _ < 20; omega)) ⟨by first | exact Nat.le_of_ble_eq_true rfl | (simp only [ab_rm]; omega), by first | exact Nat.le_of_ble_eq_true rfl | (simp only [ab_rm]; omega)⟩ ⟨by first | exact Nat.le_of_ble_eq_true rfl | (simp only [ab_rm]; omega), by first | exact Nat.le_of_ble_eq_true rfl | (simp only [ab_rm]; omega)⟩ (Nat.le_of_ble_eq_true rfl) (fun u13 r13 h13 => ?_)
  obtain ⟨⟨F13, I13⟩, rfl⟩ := h13
  have q13 := F13.1
  have P13 := P0.trans q13 (by decide)
  rw [sB] at I13
  have V13 := V.cg F13 (by decide)
  have T13 := T.fr F13.1 (by decide) (by decide) (by decide) (by decide) (by decide)
  have lB : lw u13 (3 * p1) (Y p1 0).2.1 (Y p1 0).2.2 := ⟨I13.2.1, I13.2.2.1⟩
  refine ab_aload_n X 0 d_MO_forms_16 rfl rfl ?_
  refine ab_iload_n X 1 d_MO_forms_17 rfl rfl ?_
  refine ab_iload_n X 1 d_MO_forms_18 rfl rfl ?_
  refine ab_callS (as := [ab_I (nI p1)]) X (fun h => by cases h) (t_MO_d u13 p1) ls_MO_195 d_MO_forms_19 rfl rfl ⟨by first | exact Nat.le_of_ble_eq_true rfl | (simp only [ab_rm]; omega), by first | exact Nat.le_of_ble_eq_true rfl | (simp only [ab_rm]; omega)⟩ ⟨by first | exact Nat.le_of_ble_eq_true rfl | (simp only [ab_rm]; omega), by first | exact Nat.le_of_ble_eq_true rfl | (simp only [ab_rm]; omega)⟩ (Nat.le_of_ble_eq_true rfl) (fun u19 r19 h19 => ?_)
  obtain ⟨e19, rfl⟩ := h19
  subst u19
  refine ab_iconst (v := 1) X d_MO_forms_22 (by decide) ?_
  refine ab_bipush (v := 8) X d_MO_forms_23 (by decide) ?_
  refine ab_iconst (v := 1) X d_MO_forms_25 (by decide) ?_
  refine ab_iconst (v := 0) X d_MO_forms_26 (by decide) ?_
  refine ab_callV (as := [ab_I (nI p1), ab_I (nI (3 * p1 + 1)), ab_I (nI 1), ab_I (nI 8), ab_I (nI 1), ab_I (nI 0)]) X (fun h => by cases h) (x_MO_choose u13 P kd ar cn lf ch Y R W hB T13 p1 1 1 8 1 0 F13.1.1 hp (by decide) (fun z a b => (V13 z (by omega) b).1) (fun w hw => ⟨ways_in w (by omega) (by omega), fun _ => ⟨by decide, lB⟩⟩) (by decide) (by decide)) lk_MO_232 d_MO_forms_27 rfl rfl (by first | assumption | decide | (show _ < 124; omega) | (show _ < 61; omega) | (show _ < 20; omega)) ⟨by first | exact Nat.le_of_ble_eq_true rfl | (simp only [ab_rm]; omega), by first | exact Nat.le_of_ble_eq_true rfl | (simp only [ab_rm]; omega)⟩ ⟨by first | exact Nat.le_of_ble_eq_true rfl | (simp only [ab_rm]; omega), by first | exact Nat.le_of_ble_eq_true rfl | (simp only [ab_rm]; omega)⟩ (Nat.le_of_ble_eq_true rfl) (fun u27 r27 h27 => ?_)
  obtain ⟨⟨F27, I27⟩, rfl⟩ := h27
  have q27 := F27.1
  have P27 := P13.trans q27 (by decide)
  rw [sD] at I27
  have V27 := V13.cg F27 (by decide)
  have T27 := T13.fr F27.1 (by decide) (by decide) (by decide) (by decide) (by decide)
  have lB27 : lw u27 (3 * p1) (Y p1 0).2.1 (Y p1 0).2.2 := ⟨(F27.2 _ (by omega)).1.trans lB.1, (F27.2 _ (by omega)).2.2.trans lB.2⟩
  refine ab_aload_n X 0 d_MO_forms_30 rfl rfl ?_
  refine ab_iload_n X 1 d_MO_forms_31 rfl rfl ?_
  refine ab_iload_n X 1 d_MO_forms_32 rfl rfl ?_
  refine ab_callS (as := [ab_I (nI p1)]) X (fun h => by cases h) (t_MO_v u27 p1) ls_MO_201 d_MO_forms_33 rfl rfl ⟨by first | exact Nat.le_of_ble_eq_true rfl | (simp only [ab_rm]; omega), by first | exact Nat.le_of_ble_eq_true rfl | (simp only [ab_rm]; omega)⟩ ⟨by first | exact Nat.le_of_ble_eq_true rfl | (simp only [ab_rm]; omega), by first | exact Nat.le_of_ble_eq_true rfl | (simp only [ab_rm]; omega)⟩ (Nat.le_of_ble_eq_true rfl) (fun u33 r33 h33 => ?_)
  obtain ⟨e33, rfl⟩ := h33
  subst u33
  refine ab_bipush (v := 21) X d_MO_forms_36 (by decide) ?_
  refine ab_bipush (v := 24) X d_MO_forms_38 (by decide) ?_
  refine ab_iconst (v := 1) X d_MO_forms_40 (by decide) ?_
  refine ab_iconst (v := 0) X d_MO_forms_41 (by decide) ?_
  refine ab_callV (as := [ab_I (nI p1), ab_I (nI (3 * p1 + 2)), ab_I (nI 21), ab_I (nI 24), ab_I (nI 1), ab_I (nI 0)]) X (fun h => by cases h) (x_MO_choose u27 P kd ar cn lf ch Y R W hB T27 p1 2 21 24 1 0 F27.1.1 hp (by decide) (fun z a b => (V27 z (by omega) b).1) (fun w hw => ⟨ways_in w (by omega) (by omega), fun _ => ⟨by decide, lB27⟩⟩) (by decide) (by decide)) lk_MO_232 d_MO_forms_42 rfl rfl (by first | assumption | decide | (show _ < 124; omega) | (show _ < 61; omega) | (show _ < 20; omega)) ⟨by first | exact Nat.le_of_ble_eq_true rfl | (simp only [ab_rm]; omega), by first | exact Nat.le_of_ble_eq_true rfl | (simp only [ab_rm]; omega)⟩ ⟨by first | exact Nat.le_of_ble_eq_true rfl | (simp only [ab_rm]; omega), by first | exact Nat.le_of_ble_eq_true rfl | (simp only [ab_rm]; omega)⟩ (Nat.le_of_ble_eq_true rfl) (fun u42 r42 h42 => ?_)
  obtain ⟨⟨F42, I42⟩, rfl⟩ := h42
  have q42 := F42.1
  have P42 := P27.trans q42 (by decide)
  rw [sV] at I42
  refine K45 _ P42 (V27.cg F42 (by decide)) (fun j hj => ?_)
  have j3 : j = 0 ∨ j = 1 ∨ j = 2 := by omega
  rcases j3 with rfl | rfl | rfl
  · exact ⟨(F42.2 _ (by omega)).2.1.trans ((F27.2 _ (by omega)).2.1.trans I13.1), (F42.2 _ (by omega)).1.trans lB27.1, (F42.2 _ (by omega)).2.2.trans lB27.2⟩
  · exact ⟨(F42.2 _ (by omega)).2.1.trans I27.1, (F42.2 _ (by omega)).1.trans I27.2.1, (F42.2 _ (by omega)).2.2.trans I27.2.2.1⟩
  · exact ⟨I42.1, I42.2.1, I42.2.2.1⟩
end SaXMForms

