/-! Forms: what is offered, and what is taken. -/
/-- a form'sz way: rule, mark, need, and the forms in it -/
def FD (u : ab_S) (f r : Nat) (mk nd : Int32) (nc : Nat) (g : Nat → Nat) : Prop := u.1 3 f 4 = nI r ∧ u.1 3 f 5 = mk ∧ u.1 3 f 6 = nd ∧ u.1 3 f 7 = nI nc ∧ ∀ i, i < nc → u.2.1 9 f i = some (3, g i)
/-- only these forms have changed -/
def fO (A : Nat → Prop) (u u' : ab_S) : Prop := (∀ nc i k, ¬ (nc = 3 ∧ A i ∧ 4 ≤ k) → u'.1 nc i k = u.1 nc i k) ∧ ∀ nc i k, ¬ (nc = 9 ∧ A i) → u'.2.1 nc i k = u.2.1 nc i k
theorem fO.rf {A : Nat → Prop} {u : ab_S} : fO A u u := ⟨fun _ _ _ _ => rfl, fun _ _ _ _ => rfl⟩
theorem fO.trans {A : Nat → Prop} {u u1 u2 : ab_S} (h : fO A u u1) (g : fO A u1 u2) : fO A u u2 := ⟨fun nc i k z => (g.1 nc i k z).trans (h.1 nc i k z), fun nc i k z => (g.2 nc i k z).trans (h.2 nc i k z)⟩
theorem fO.wk {A B : Nat → Prop} {u u1 : ab_S} (h : fO A u u1) (g : ∀ i, A i → B i) : fO B u u1 := ⟨fun nc i k z => h.1 nc i k (fun y => z ⟨y.1, g i y.2.1, y.2.2⟩), fun nc i k z => h.2 nc i k (fun y => z ⟨y.1, g i y.2⟩)⟩
theorem FD.fr {A : Nat → Prop} {u u' : ab_S} {f r : Nat} {mk nd : Int32} {nc : Nat} {g : Nat → Nat} (h : FD u f r mk nd nc g) (o : fO A u u') (hf : ¬ A f) : FD u' f r mk nd nc g := by
  obtain ⟨a1, a2, a3, a4, a5⟩ := h
  exact ⟨(o.1 _ _ _ (fun z => hf z.2.1)).trans a1, (o.1 _ _ _ (fun z => hf z.2.1)).trans a2, (o.1 _ _ _ (fun z => hf z.2.1)).trans a3, (o.1 _ _ _ (fun z => hf z.2.1)).trans a4, fun i hi => (o.2 _ _ _ (fun z => hf z.2)).trans (a5 i hi)⟩
def cwn (r : Nat) (mk : Int32) (nc sz : Nat) : Nat := if r = 1 then 1 else if r = 3 then sz + 1 else if r = 4 then sz + 3 * (nc - 1) + (if mk = 8 then 1 else 0) else if r = 5 then sz + 3 else if r = 6 then sz + 4 else if r = 7 then sz + 3 else if r = 8 then sz + 2 else sz
/-- the trial is better than what there is -/
def bt (r0 W w0 : Nat) (G g0 : Int32) : Prop := r0 = 0 ∨ W < w0 ∨ (W = w0 ∧ G < g0)
section SaFormF
variable {l : Launch} {D : va_G} {ca : Nat → ClassId}
set_option maxRecDepth 100000 in
set_option maxHeartbeats 1000000 in
theorem f_FM_start (u : ab_S) (f r : Nat) (b nc' : Int32) (g : Nat → Nat) (h : CIx f u) (hf : f < 61) : ab_C false l D ca y_FM_start b_FM_start 4 (some (FieldType.object "PolicyForge$Form")) 0 ab_nQ u [ab_O 3 f, ab_I (nI r), ab_I b, ab_I nc'] (fun u' v => (cQ f [3, 9] u u' ∧ fO (fun i => i = f) u u' ∧ FD u' f r b nc' 0 g ∧ u'.1 3 f 8 = u.1 3 f 8 ∧ u'.1 3 f 9 = u.1 3 f 9) ∧ v = some (ab_O 3 f)) := by
  refine ab_C.of (by decide) (Nat.le_of_ble_eq_true rfl) ?_
  intro p e s m args below meth c ad X hZ hr0 hlk
  have P0 : cQ f [3, 9] u u := cQ.rf h
  refine ab_aload_n X 0 d_FM_start_0 rfl rfl ?_
  refine ab_iload_n X 1 d_FM_start_1 rfl rfl ?_
  refine ab_putI X fp_FM_24 d_FM_start_2 (by first | assumption | decide | (show _ < 124; omega) | (show _ < 61; omega) | (show _ < 20; omega)) rfl rfl ?_
  refine ab_gen (fun u2 e2 => ?_)
  have P2 : cQ f [3, 9] u u2 := by rw [e2]; exact P0.rule (by decide)
  refine ab_aload_n X 0 d_FM_start_5 rfl rfl ?_
  refine ab_iload_n X 2 d_FM_start_6 rfl rfl ?_
  refine ab_putI X fp_FM_28 d_FM_start_7 (by first | assumption | decide | (show _ < 124; omega) | (show _ < 61; omega) | (show _ < 20; omega)) rfl rfl ?_
  refine ab_gen (fun u7 e7 => ?_)
  have P7 : cQ f [3, 9] u u7 := by rw [e7]; exact P2.ui rfl (by decide)
  refine ab_aload_n X 0 d_FM_start_10 rfl rfl ?_
  refine ab_iload_n X 3 d_FM_start_11 rfl rfl ?_
  refine ab_putI X fp_FM_31 d_FM_start_12 (by first | assumption | decide | (show _ < 124; omega) | (show _ < 61; omega) | (show _ < 20; omega)) rfl rfl ?_
  refine ab_gen (fun u12 e12 => ?_)
  have P12 : cQ f [3, 9] u u12 := by rw [e12]; exact P7.ui rfl (by decide)
  refine ab_aload_n X 0 d_FM_start_15 rfl rfl ?_
  refine ab_iconst (v := 0) X d_FM_start_16 (by decide) ?_
  refine ab_putI X fp_FM_34 d_FM_start_17 (by first | assumption | decide | (show _ < 124; omega) | (show _ < 61; omega) | (show _ < 20; omega)) rfl rfl ?_
  refine ab_gen (fun u17 e17 => ?_)
  have P17 : cQ f [3, 9] u u17 := by rw [e17]; exact P12.fc (by decide) (n := 0) (by omega) (fun j hj => absurd hj (by omega))
  refine ab_aload_n X 0 d_FM_start_20 rfl rfl ?_
  exact ab_retr X hr0 hlk d_FM_start_21 ⟨⟨P17, ⟨fun nc i k z => by rw [e17, e12, e7, e2]; exact (ui_n _ (by omega)).trans ((ui_n _ (by omega)).trans ((ui_n _ (by omega)).trans (ui_n _ (by omega)))), fun nc i k _ => by rw [e17, e12, e7, e2]⟩, ⟨by rw [e17, e12, e7, e2]; simp [ab_up], by rw [e17, e12, e7]; simp [ab_up], by rw [e17, e12]; simp [ab_up], by rw [e17]; simp [ab_up]; rfl, fun i hi => absurd hi (Nat.not_lt_zero i)⟩, by rw [e17, e12, e7, e2]; simp [ab_up], by rw [e17, e12, e7, e2]; simp [ab_up]⟩, rfl⟩
set_option maxRecDepth 100000 in
set_option maxHeartbeats 1000000 in
theorem f_FM_with (u : ab_S) (f r k x : Nat) (mk nd : Int32) (g : Nat → Nat) (h : CIx f u) (hf : f < 61) (hx : x < 61) (F : FD u f r mk nd k g) (hg : g k = x) (hk : k < 4) : ab_C false l D ca y_FM_with b_FM_with 2 (some (FieldType.object "PolicyForge$Form")) 0 ab_nQ u [ab_O 3 f, ab_O 3 x] (fun u' v => (cQ f [3, 9] u u' ∧ fO (fun i => i = f) u u' ∧ FD u' f r mk nd (k + 1) g ∧ u'.1 3 f 8 = u.1 3 f 8 ∧ u'.1 3 f 9 = u.1 3 f 9) ∧ v = some (ab_O 3 f)) := by
  refine ab_C.of (by decide) (Nat.le_of_ble_eq_true rfl) ?_
  intro p e s m args below meth c ad X hZ hr0 hlk
  have P0 : cQ f [3, 9] u u := cQ.rf h
  obtain ⟨F1, F2, F3, ek, F5⟩ := F
  have he : ∀ j, j < k → ∃ g, g < 61 ∧ u.2.1 9 f j = some (3, g) := by
    obtain ⟨n, a1, a2, a3, -⟩ := h.form hf
    have : n = k := (nI_eq (by omega) (by omega)).mp (a2.symm.trans ek)
    subst this
    exact a3
  refine ab_aload_n X 0 d_FM_with_0 rfl rfl ?_
  refine ab_gI X fl_FM_34 d_FM_with_1 (by first | assumption | decide | (show _ < 124; omega) | (show _ < 61; omega) | (show _ < 20; omega)) (ek) ?_
  refine ab_iconst (v := 4) X d_FM_with_4 (by decide) ?_
  refine ab_icmp_ge X 28 d_FM_with_5 rfl (fun hb => absurd hb ((nI_ge (b := 4) hk (by decide)))) (fun _ => ?_)
  refine ab_aload_n X 0 d_FM_with_8 rfl rfl ?_
  refine ab_gR X fl_FM_11 d_FM_with_9 (by first | assumption | decide | (show _ < 124; omega) | (show _ < 61; omega) | (show _ < 20; omega)) (P0.1.fm0 (by first | assumption | decide | omega)) ?_
  refine ab_aload_n X 0 d_FM_with_12 rfl rfl ?_
  refine ab_gI X fl_FM_34 d_FM_with_13 (by first | assumption | decide | (show _ < 124; omega) | (show _ < 61; omega) | (show _ < 20; omega)) (ek) ?_
  refine ab_aload_n X 1 d_FM_with_16 rfl rfl ?_
  refine ab_aast X (k) ⟨rfl, rfl, _, rfl, fun _ => rfl⟩ d_FM_with_17 (by first | assumption | decide | (show _ < 124; omega) | (show _ < 61; omega) | (show _ < 20; omega)) (by first | assumption | decide | (show _ < 124; omega) | (show _ < 61; omega) | (show _ < 20; omega)) (rfl) (hk) (ab_ln_lt _ _) ?_
  refine ab_gen (fun u17 e17 => ?_)
  have P17 : cQ f [3, 9] u u17 := by rw [e17]; exact P0.tk (by decide) hx
  refine ab_aload_n X 0 d_FM_with_18 rfl rfl ?_
  refine ab_dup X d_FM_with_19 rfl ?_
  refine ab_gI X fl_FM_34 d_FM_with_20 (by first | assumption | decide | (show _ < 124; omega) | (show _ < 61; omega) | (show _ < 20; omega)) ((show _ = nI k by rw [e17]; exact ek)) ?_
  refine ab_iconst (v := 1) X d_FM_with_23 (by decide) ?_
  refine ab_iadd X d_FM_with_24 ?_
  refine ab_top (nI_1 _) ?_
  refine ab_putI X fp_FM_34 d_FM_with_25 (by first | assumption | decide | (show _ < 124; omega) | (show _ < 61; omega) | (show _ < 20; omega)) rfl rfl ?_
  refine ab_gen (fun u25 e25 => ?_)
  have P25 : cQ f [3, 9] u u25 := by rw [e25]; exact P17.fc (by decide) (by omega) (fun j hj => by
      by_cases q : j = k
      · subst q; rw [e17]; exact ⟨x, hx, ab_up_s _ _ _ _ _⟩
      · obtain ⟨g', g1, g2⟩ := he j (by omega)
        refine ⟨g', g1, ?_⟩
        rw [e17]
        exact (ab_up_n _ _ (by omega)).trans g2)
  refine ab_aload_n X 0 d_FM_with_28 rfl rfl ?_
  exact ab_retr X hr0 hlk d_FM_with_29 ⟨⟨P25, ⟨fun nc i k z => by rw [e25, e17]; exact ui_n _ (by omega), fun nc i k z => by rw [e25, e17]; exact ab_up_n _ _ (by omega)⟩, ⟨by rw [e25, e17]; exact (ui_n _ (by omega)).trans F1, by rw [e25, e17]; exact (ui_n _ (by omega)).trans F2, by rw [e25, e17]; exact (ui_n _ (by omega)).trans F3, by rw [e25]; exact ui_s _, fun i hi => by
      rw [e25, e17]
      by_cases q : i = k
      · rw [q, hg]; exact ab_up_s _ _ _ _ _
      · exact (ab_up_n _ _ (by omega)).trans (F5 i (by omega))⟩, by rw [e25, e17]; exact ui_n _ (by omega), by rw [e25, e17]; exact ui_n _ (by omega)⟩, rfl⟩
set_option maxRecDepth 100000 in
set_option maxHeartbeats 1000000 in
theorem t_FM_cw (u : ab_S) (f r nc : Nat) (mk nd : Int32) (g ws : Nat → Nat) (F : FD u f r mk nd nc g) (hc4 : nc ≤ 4) (hw : ∀ i, i < nc → u.1 3 (g i) 8 = nI (ws i)) (hs : sm ws nc ≤ 1000) (hr4 : r = 4 → 1 ≤ nc) (hg : ∀ i, i < nc → g i < 61) (h : CI u) (hf : f < 61) (hr : r ≤ 8) : ab_C false l D ca y_FM_countWords b_FM_countWords 3 (some FieldType.int) 0 ab_nQ u [ab_O 3 f] (fun u' v => u' = u ∧ v = some (ab_I (nI (cwn r mk nc (sm ws nc))))) := by
  refine ab_C.of (by decide) (Nat.le_of_ble_eq_true rfl) ?_
  intro p e s m args below meth c ad X hZ hr0 hlk
  have P0 : cP [] u u := cQ.rf h
  obtain ⟨F1, F2, F3, en, F5⟩ := F
  have rr : ∀ (j : Nat), r = j → (cwn r mk nc (sm ws nc) = cwn j mk nc (sm ws nc)) := fun j e => by rw [e]
  have nn : ∀ {j : Nat} {x : Int32}, u.1 3 f 4 = x → x = nI j → j ≤ 8 → r = j := fun a b hj => (nI_eq (by omega) (by omega)).mp (F1.symm.trans (a.trans b))
  have loop : ∀ (k j : Nat), k + j = nc → ab_J p l e (ab_rm 0 0 0) s m args below meth c (MQ below (ab_Q D ca ad ab_nQ s.heap.size (fun u' v => u' = u ∧ v = some (ab_I (nI (cwn r mk nc (sm ws nc)))))) args s 0 0 (ab_A ad ab_nQ s.heap.size)) D ca (ab_A ad ab_nQ s.heap.size) s.heap 3 0 0 ad ab_nQ u 4 [(2, ab_I (nI j)), (1, ab_I (nI (sm ws j))), (0, ab_O 3 f)] [] := by
    intro k
    induction k with
    | zero =>
      intro j hj
      obtain rfl : j = nc := by omega
      refine ab_iload_n X 0 d_FM_countWords_4 rfl rfl ?_
      refine ab_aload_n X 2 d_FM_countWords_5 rfl rfl ?_
      refine ab_gI X fl_FM_34 d_FM_countWords_6 (by first | assumption | decide | (show _ < 124; omega) | (show _ < 61; omega) | (show _ < 20; omega)) (en) ?_
      refine ab_icmp_ge X 30 d_FM_countWords_9 rfl (fun _ => ?_) (fun hb => absurd ((nI_le (by omega) (by omega))) hb)
      refine ab_aload_n X 2 d_FM_countWords_30 rfl rfl ?_
      refine ab_gI X fl_FM_24 d_FM_countWords_31 (by first | assumption | decide | (show _ < 124; omega) | (show _ < 61; omega) | (show _ < 20; omega)) (F1) ?_
      refine ab_tsw X [(1, 80), (3, 82), (4, 86), (5, 112), (6, 116), (7, 120), (8, 124)] 128 d_FM_countWords_34 (by decide +kernel) rfl (List.forall_mem_cons.mpr ⟨fun h34_1 => ?_, List.forall_mem_cons.mpr ⟨fun h34_3 => ?_, List.forall_mem_cons.mpr ⟨fun h34_4 => ?_, List.forall_mem_cons.mpr ⟨fun h34_5 => ?_, List.forall_mem_cons.mpr ⟨fun h34_6 => ?_, List.forall_mem_cons.mpr ⟨fun h34_7 => ?_, List.forall_mem_cons.mpr ⟨fun h34_8 => ?_, fun _ h => absurd h List.not_mem_nil⟩⟩⟩⟩⟩⟩⟩) (fun h34 => ?_)
      ·
        have e1 := rr 1 ((nI_eq (b := 1) (by omega) (by omega)).mp h34_1)
        refine ab_iconst (v := 1) X d_FM_countWords_80 (by decide) ?_
        exact ab_reti X hr0 hlk d_FM_countWords_81 ⟨rfl, by first | (rw [e1]; done) | (rw [e1]; first | rfl | exact congrArg (fun z => some (ab_I z)) (nI_1 _) | exact congrArg (fun z => some (ab_I z)) (nI_add _ 3) | exact congrArg (fun z => some (ab_I z)) (nI_add _ 4) | exact congrArg (fun z => some (ab_I z)) (nI_add _ 2) | (show some (ab_I _) = some (ab_I (nI (sm ws j + 3 * (j - 1) + (if mk = 8 then 1 else 0)))); rw [if_neg h102]; exact congrArg (fun z => some (ab_I z)) (Int32.add_zero _)) | (show some (ab_I _) = some (ab_I (nI (sm ws j + 3 * (j - 1) + (if mk = 8 then 1 else 0)))); rw [if_pos h102]; exact congrArg (fun z => some (ab_I z)) (nI_1 _)))⟩
      ·
        have e1 := rr 3 ((nI_eq (b := 3) (by omega) (by omega)).mp h34_3)
        refine ab_iload_n X 1 d_FM_countWords_82 rfl rfl ?_
        refine ab_iconst (v := 1) X d_FM_countWords_83 (by decide) ?_
        refine ab_iadd X d_FM_countWords_84 ?_
        exact ab_reti X hr0 hlk d_FM_countWords_85 ⟨rfl, by first | (rw [e1]; done) | (rw [e1]; first | rfl | exact congrArg (fun z => some (ab_I z)) (nI_1 _) | exact congrArg (fun z => some (ab_I z)) (nI_add _ 3) | exact congrArg (fun z => some (ab_I z)) (nI_add _ 4) | exact congrArg (fun z => some (ab_I z)) (nI_add _ 2) | (show some (ab_I _) = some (ab_I (nI (sm ws j + 3 * (j - 1) + (if mk = 8 then 1 else 0)))); rw [if_neg h102]; exact congrArg (fun z => some (ab_I z)) (Int32.add_zero _)) | (show some (ab_I _) = some (ab_I (nI (sm ws j + 3 * (j - 1) + (if mk = 8 then 1 else 0)))); rw [if_pos h102]; exact congrArg (fun z => some (ab_I z)) (nI_1 _)))⟩
      ·
        have r4 : r = 4 := (nI_eq (b := 4) (by omega) (by omega)).mp h34_4
        have e1 := rr 4 r4
        have c1 := hr4 r4
        refine ab_iload_n X 1 d_FM_countWords_86 rfl rfl ?_
        refine ab_iconst (v := 3) X d_FM_countWords_87 (by decide) ?_
        refine ab_aload_n X 2 d_FM_countWords_88 rfl rfl ?_
        refine ab_gI X fl_FM_34 d_FM_countWords_89 (by first | assumption | decide | (show _ < 124; omega) | (show _ < 61; omega) | (show _ < 20; omega)) (en) ?_
        refine ab_iconst (v := 1) X d_FM_countWords_92 (by decide) ?_
        refine ab_isub X d_FM_countWords_93 ?_
        refine ab_top (nI_m1 c1) ?_
        refine ab_imul X d_FM_countWords_94 ?_
        refine ab_top (nI_3m (j - 1)) ?_
        refine ab_iadd X d_FM_countWords_95 ?_
        refine ab_top (nI_add (sm ws j) (3 * (j - 1))) ?_
        refine ab_aload_n X 2 d_FM_countWords_96 rfl rfl ?_
        refine ab_gI X fl_FM_28 d_FM_countWords_97 (by first | assumption | decide | (show _ < 124; omega) | (show _ < 61; omega) | (show _ < 20; omega)) (F2) ?_
        refine ab_bipush (v := 8) X d_FM_countWords_100 (by decide) ?_
        refine ab_icmp_ne X 109 d_FM_countWords_102 rfl (fun h102 => ?_) (fun h102 => ?_)
        ·
          refine ab_iconst (v := 0) X d_FM_countWords_109 (by decide) ?_
          refine ab_iadd X d_FM_countWords_110 ?_
          exact ab_reti X hr0 hlk d_FM_countWords_111 ⟨rfl, by first | (rw [e1]; done) | (rw [e1]; first | rfl | exact congrArg (fun z => some (ab_I z)) (nI_1 _) | exact congrArg (fun z => some (ab_I z)) (nI_add _ 3) | exact congrArg (fun z => some (ab_I z)) (nI_add _ 4) | exact congrArg (fun z => some (ab_I z)) (nI_add _ 2) | (show some (ab_I _) = some (ab_I (nI (sm ws j + 3 * (j - 1) + (if mk = 8 then 1 else 0)))); rw [if_neg h102]; exact congrArg (fun z => some (ab_I z)) (Int32.add_zero _)) | (show some (ab_I _) = some (ab_I (nI (sm ws j + 3 * (j - 1) + (if mk = 8 then 1 else 0)))); rw [if_pos h102]; exact congrArg (fun z => some (ab_I z)) (nI_1 _)))⟩
        ·
          refine ab_iconst (v := 1) X d_FM_countWords_105 (by decide) ?_
          refine ab_goto X 110 d_FM_countWords_106 rfl ?_
          refine ab_iadd X d_FM_countWords_110 ?_
          exact ab_reti X hr0 hlk d_FM_countWords_111 ⟨rfl, by first | (rw [e1]; done) | (rw [e1]; first | rfl | exact congrArg (fun z => some (ab_I z)) (nI_1 _) | exact congrArg (fun z => some (ab_I z)) (nI_add _ 3) | exact congrArg (fun z => some (ab_I z)) (nI_add _ 4) | exact congrArg (fun z => some (ab_I z)) (nI_add _ 2) | (show some (ab_I _) = some (ab_I (nI (sm ws j + 3 * (j - 1) + (if mk = 8 then 1 else 0)))); rw [if_neg h102]; exact congrArg (fun z => some (ab_I z)) (Int32.add_zero _)) | (show some (ab_I _) = some (ab_I (nI (sm ws j + 3 * (j - 1) + (if mk = 8 then 1 else 0)))); rw [if_pos h102]; exact congrArg (fun z => some (ab_I z)) (nI_1 _)))⟩
      ·
        have e1 := rr 5 ((nI_eq (b := 5) (by omega) (by omega)).mp h34_5)
        refine ab_iload_n X 1 d_FM_countWords_112 rfl rfl ?_
        refine ab_iconst (v := 3) X d_FM_countWords_113 (by decide) ?_
        refine ab_iadd X d_FM_countWords_114 ?_
        exact ab_reti X hr0 hlk d_FM_countWords_115 ⟨rfl, by first | (rw [e1]; done) | (rw [e1]; first | rfl | exact congrArg (fun z => some (ab_I z)) (nI_1 _) | exact congrArg (fun z => some (ab_I z)) (nI_add _ 3) | exact congrArg (fun z => some (ab_I z)) (nI_add _ 4) | exact congrArg (fun z => some (ab_I z)) (nI_add _ 2) | (show some (ab_I _) = some (ab_I (nI (sm ws j + 3 * (j - 1) + (if mk = 8 then 1 else 0)))); rw [if_neg h102]; exact congrArg (fun z => some (ab_I z)) (Int32.add_zero _)) | (show some (ab_I _) = some (ab_I (nI (sm ws j + 3 * (j - 1) + (if mk = 8 then 1 else 0)))); rw [if_pos h102]; exact congrArg (fun z => some (ab_I z)) (nI_1 _)))⟩
      ·
        have e1 := rr 6 ((nI_eq (b := 6) (by omega) (by omega)).mp h34_6)
        refine ab_iload_n X 1 d_FM_countWords_116 rfl rfl ?_
        refine ab_iconst (v := 4) X d_FM_countWords_117 (by decide) ?_
        refine ab_iadd X d_FM_countWords_118 ?_
        exact ab_reti X hr0 hlk d_FM_countWords_119 ⟨rfl, by first | (rw [e1]; done) | (rw [e1]; first | rfl | exact congrArg (fun z => some (ab_I z)) (nI_1 _) | exact congrArg (fun z => some (ab_I z)) (nI_add _ 3) | exact congrArg (fun z => some (ab_I z)) (nI_add _ 4) | exact congrArg (fun z => some (ab_I z)) (nI_add _ 2) | (show some (ab_I _) = some (ab_I (nI (sm ws j + 3 * (j - 1) + (if mk = 8 then 1 else 0)))); rw [if_neg h102]; exact congrArg (fun z => some (ab_I z)) (Int32.add_zero _)) | (show some (ab_I _) = some (ab_I (nI (sm ws j + 3 * (j - 1) + (if mk = 8 then 1 else 0)))); rw [if_pos h102]; exact congrArg (fun z => some (ab_I z)) (nI_1 _)))⟩
      ·
        have e1 := rr 7 ((nI_eq (b := 7) (by omega) (by omega)).mp h34_7)
        refine ab_iload_n X 1 d_FM_countWords_120 rfl rfl ?_
        refine ab_iconst (v := 3) X d_FM_countWords_121 (by decide) ?_
        refine ab_iadd X d_FM_countWords_122 ?_
        exact ab_reti X hr0 hlk d_FM_countWords_123 ⟨rfl, by first | (rw [e1]; done) | (rw [e1]; first | rfl | exact congrArg (fun z => some (ab_I z)) (nI_1 _) | exact congrArg (fun z => some (ab_I z)) (nI_add _ 3) | exact congrArg (fun z => some (ab_I z)) (nI_add _ 4) | exact congrArg (fun z => some (ab_I z)) (nI_add _ 2) | (show some (ab_I _) = some (ab_I (nI (sm ws j + 3 * (j - 1) + (if mk = 8 then 1 else 0)))); rw [if_neg h102]; exact congrArg (fun z => some (ab_I z)) (Int32.add_zero _)) | (show some (ab_I _) = some (ab_I (nI (sm ws j + 3 * (j - 1) + (if mk = 8 then 1 else 0)))); rw [if_pos h102]; exact congrArg (fun z => some (ab_I z)) (nI_1 _)))⟩
      ·
        have e1 := rr 8 ((nI_eq (b := 8) (by omega) (by omega)).mp h34_8)
        refine ab_iload_n X 1 d_FM_countWords_124 rfl rfl ?_
        refine ab_iconst (v := 2) X d_FM_countWords_125 (by decide) ?_
        refine ab_iadd X d_FM_countWords_126 ?_
        exact ab_reti X hr0 hlk d_FM_countWords_127 ⟨rfl, by first | (rw [e1]; done) | (rw [e1]; first | rfl | exact congrArg (fun z => some (ab_I z)) (nI_1 _) | exact congrArg (fun z => some (ab_I z)) (nI_add _ 3) | exact congrArg (fun z => some (ab_I z)) (nI_add _ 4) | exact congrArg (fun z => some (ab_I z)) (nI_add _ 2) | (show some (ab_I _) = some (ab_I (nI (sm ws j + 3 * (j - 1) + (if mk = 8 then 1 else 0)))); rw [if_neg h102]; exact congrArg (fun z => some (ab_I z)) (Int32.add_zero _)) | (show some (ab_I _) = some (ab_I (nI (sm ws j + 3 * (j - 1) + (if mk = 8 then 1 else 0)))); rw [if_pos h102]; exact congrArg (fun z => some (ab_I z)) (nI_1 _)))⟩
      ·
        have e1 : cwn r mk j (sm ws j) = sm ws j := by
          have z : r = 0 ∨ r = 2 := by
            have q : ∀ (a : Nat) (pc : Nat), (nI a, pc) ∈ [((1 : Int32), 80), (3, 82), (4, 86), (5, 112), (6, 116), (7, 120), (8, 124)] → ¬ r = a := fun a pc hm e => h34 _ hm (by rw [e])
            have q1 := q 1 80 (by decide)
            have q3 := q 3 82 (by decide)
            have q4 := q 4 86 (by decide)
            have q5 := q 5 112 (by decide)
            have q6 := q 6 116 (by decide)
            have q7 := q 7 120 (by decide)
            have q8 := q 8 124 (by decide)
            omega
          rcases z with z | z <;> rw [z] <;> rfl
        refine ab_iload_n X 1 d_FM_countWords_128 rfl rfl ?_
        exact ab_reti X hr0 hlk d_FM_countWords_129 ⟨rfl, by first | (rw [e1]; done) | (rw [e1]; first | rfl | exact congrArg (fun z => some (ab_I z)) (nI_1 _) | exact congrArg (fun z => some (ab_I z)) (nI_add _ 3) | exact congrArg (fun z => some (ab_I z)) (nI_add _ 4) | exact congrArg (fun z => some (ab_I z)) (nI_add _ 2) | (show some (ab_I _) = some (ab_I (nI (sm ws j + 3 * (j - 1) + (if mk = 8 then 1 else 0)))); rw [if_neg h102]; exact congrArg (fun z => some (ab_I z)) (Int32.add_zero _)) | (show some (ab_I _) = some (ab_I (nI (sm ws j + 3 * (j - 1) + (if mk = 8 then 1 else 0)))); rw [if_pos h102]; exact congrArg (fun z => some (ab_I z)) (nI_1 _)))⟩
    | succ k ih =>
      intro j hj
      have gj := hg j (by omega)
      refine ab_iload_n X 0 d_FM_countWords_4 rfl rfl ?_
      refine ab_aload_n X 2 d_FM_countWords_5 rfl rfl ?_
      refine ab_gI X fl_FM_34 d_FM_countWords_6 (by first | assumption | decide | (show _ < 124; omega) | (show _ < 61; omega) | (show _ < 20; omega)) (en) ?_
      refine ab_icmp_ge X 30 d_FM_countWords_9 rfl (fun hb => absurd hb ((nI_ge (by omega) (by omega)))) (fun _ => ?_)
      refine ab_iload_n X 1 d_FM_countWords_12 rfl rfl ?_
      refine ab_aload_n X 2 d_FM_countWords_13 rfl rfl ?_
      refine ab_gR X fl_FM_11 d_FM_countWords_14 (by first | assumption | decide | (show _ < 124; omega) | (show _ < 61; omega) | (show _ < 20; omega)) (P0.1.fm0 (by first | assumption | decide | omega)) ?_
      refine ab_iload_n X 0 d_FM_countWords_17 rfl rfl ?_
      refine ab_aalv X (j) ⟨rfl, _, fun _ => rfl⟩ d_FM_countWords_18 (by first | assumption | decide | (show _ < 124; omega) | (show _ < 61; omega) | (show _ < 20; omega)) (rfl) (show j < 4 by omega) (ab_ln_lt _ _) (F5 j (by omega)) ?_
      refine ab_gI X fl_FM_37 d_FM_countWords_19 (by first | assumption | decide | (show _ < 124; omega) | (show _ < 61; omega) | (show _ < 20; omega)) (hw j (by omega)) ?_
      refine ab_iadd X d_FM_countWords_22 ?_
      refine ab_top (nI_add (sm ws j) (ws j)) ?_
      refine ab_istore_n2 X 0 2 d_FM_countWords_23 rfl (by decide) rfl rfl rfl rfl ?_
      refine ab_iinc2 X 1 0 2 d_FM_countWords_24 rfl (by decide) rfl rfl rfl rfl ?_
      refine ab_goto X 4 d_FM_countWords_27 rfl ?_
      rw [show nI j + Int32.ofInt 1 = nI (j + 1) from nI_1 j]
      exact ih (j + 1) (by omega)
  refine ab_iconst (v := 0) X d_FM_countWords_0 (by decide) ?_
  refine ab_istore_n1 X 0 d_FM_countWords_1 rfl (by decide) rfl rfl ?_
  refine ab_iconst (v := 0) X d_FM_countWords_2 (by decide) ?_
  refine ab_istore_n2 X 0 1 d_FM_countWords_3 rfl (by decide) rfl rfl rfl rfl ?_
  exact loop nc 0 (by omega)
set_option maxRecDepth 100000 in
set_option maxHeartbeats 1000000 in
theorem f_FM_offer (u : ab_S) (f o r nc : Nat) (mk nd : Int32) (g ws : Nat → Nat) (F : FD u o r mk nd nc g) (hc4 : nc ≤ 4) (hw : ∀ i, i < nc → u.1 3 (g i) 8 = nI (ws i)) (hs : sm ws nc ≤ 900) (hr4 : r = 4 → 1 ≤ nc) (hr : r ≤ 8) (hg : ∀ i, i < nc → g i < 61) (r0 w0 : Nat) (hr0' : r0 ≤ 8) (hw0 : w0 ≤ 1000) (e0 : u.1 3 f 4 = nI r0) (ew : r0 ≠ 0 → u.1 3 f 8 = nI w0) (h : CI u) (hf : f < 61) (ho : o < 61) (hfo : o ≠ f) (Gp : Int32 → Prop) (t_G : ab_C false l D ca y_FM_greatestWeight b_FM_greatestWeight 1 (some .int) 2 ab_nQ u [ab_O 3 o] (fun u' v => u' = u ∧ ∃ x : Int32, Gp x ∧ v = some (ab_I x))) : ab_C false l D ca y_FM_offer b_FM_offer 6 none 3 ab_nQ u [ab_O 3 f, ab_O 3 o] (fun u' v => (cP [3, 9] u u' ∧ fO (fun i => i = f) u u' ∧ ∃ G : Int32, Gp G ∧ (((bt r0 (cwn r mk nc (sm ws nc)) w0 G (u.1 3 f 9)) ∧ FD u' f r mk nd nc g ∧ u'.1 3 f 8 = nI (cwn r mk nc (sm ws nc)) ∧ u'.1 3 f 9 = G) ∨ (¬ (bt r0 (cwn r mk nc (sm ws nc)) w0 G (u.1 3 f 9)) ∧ u' = u))) ∧ v = none) := by
  refine ab_C.of (by decide) (Nat.le_of_ble_eq_true rfl) ?_
  intro p e s m args below meth c ad X hZ hr0 hlk
  have P0 : cP [3, 9] u u := cQ.rf h
  have hW : (cwn r mk nc (sm ws nc)) ≤ 920 := by
    unfold cwn
    repeat' split
    all_goals omega
  obtain ⟨F1, F2, F3, F4, F5⟩ := F
  obtain ⟨n, hn, en, he, hc⟩ := h.form ho
  have hc := hc (by omega)
  obtain rfl : nc = n := (nI_eq (by omega) (by omega)).mp (F4.symm.trans en)
  have loop : ∀ (k j : Nat) (u1 : ab_S) (y G : Int32), k + j = nc → cQ f [3, 9] u u1 → fO (fun i => i = f) u u1 → Gp G → (bt r0 (cwn r mk nc (sm ws nc)) w0 G (u.1 3 f 9)) → FD u1 f r mk nd j g → ab_J p l e (ab_rm 3 0 0) s m args below meth c (MQ below (ab_Q D ca ad ab_nQ s.heap.size (fun u' v => (cP [3, 9] u u' ∧ fO (fun i => i = f) u u' ∧ ∃ G : Int32, Gp G ∧ (((bt r0 (cwn r mk nc (sm ws nc)) w0 G (u.1 3 f 9)) ∧ FD u' f r mk nd nc g ∧ u'.1 3 f 8 = nI (cwn r mk nc (sm ws nc)) ∧ u'.1 3 f 9 = G) ∨ (¬ (bt r0 (cwn r mk nc (sm ws nc)) w0 G (u.1 3 f 9)) ∧ u' = u))) ∧ v = none)) args s 0 0 (ab_A ad ab_nQ s.heap.size)) D ca (ab_A ad ab_nQ s.heap.size) s.heap 6 0 0 ad ab_nQ u1 73 [(5, ab_I (nI j)), (4, ab_I y), (3, ab_I G), (2, ab_I (nI (cwn r mk nc (sm ws nc)))), (0, ab_O 3 f), (1, ab_O 3 o)] [] := by
    intro k
    induction k with
    | zero =>
      intro j u1 y G hj P1 O1 hGp hbt D1
      obtain rfl : nc = j := by omega
      have a1 : u1.1 3 o 7 = nI nc := (O1.1 _ _ _ (fun z => hfo z.2.1)).trans en
      have P2 : cP [3, 9] u u1 := P1.un (fun mk' hm em => by
        obtain rfl : mk' = nc := (nI_eq (by omega) (by omega)).mp (em.symm.trans D1.2.2.2.1)
        rw [D1.1, ← F1]; exact hc)
      refine ab_iload X 0 d_FM_offer_73 rfl ?_
      refine ab_aload_n X 5 d_FM_offer_75 rfl rfl ?_
      refine ab_gI X fl_FM_34 d_FM_offer_76 (by first | assumption | decide | (show _ < 124; omega) | (show _ < 61; omega) | (show _ < 20; omega)) (a1) ?_
      refine ab_icmp_ge X 100 d_FM_offer_79 rfl (fun _ => ?_) (fun hb => absurd ((nI_le (by omega) (by omega))) hb)
      refine ab_aload_n X 4 d_FM_offer_100 rfl rfl ?_
      refine ab_iload_n X 3 d_FM_offer_101 rfl rfl ?_
      refine ab_putI X fp_FM_37 d_FM_offer_102 (by first | assumption | decide | (show _ < 124; omega) | (show _ < 61; omega) | (show _ < 20; omega)) rfl rfl ?_
      refine ab_gen (fun u102 e102 => ?_)
      have P102 : cP [3, 9] u u102 := by rw [e102]; exact P2.ui rfl (by decide)
      refine ab_aload_n X 4 d_FM_offer_105 rfl rfl ?_
      refine ab_iload_n X 2 d_FM_offer_106 rfl rfl ?_
      refine ab_putI X fp_FM_40 d_FM_offer_107 (by first | assumption | decide | (show _ < 124; omega) | (show _ < 61; omega) | (show _ < 20; omega)) rfl rfl ?_
      refine ab_gen (fun u107 e107 => ?_)
      have P107 : cP [3, 9] u u107 := by rw [e107]; exact P102.ui rfl (by decide)
      exact ab_retv X hr0 hlk d_FM_offer_110 ⟨⟨P107, O1.trans ⟨fun nc i k z => by rw [e107, e102]; exact (ui_n _ (by omega)).trans (ui_n _ (by omega)), fun nc i k _ => by rw [e107, e102]⟩, G, hGp, Or.inl ⟨hbt, ⟨by rw [e107, e102]; exact (ui_n _ (by omega)).trans ((ui_n _ (by omega)).trans D1.1), by rw [e107, e102]; exact (ui_n _ (by omega)).trans ((ui_n _ (by omega)).trans D1.2.1), by rw [e107, e102]; exact (ui_n _ (by omega)).trans ((ui_n _ (by omega)).trans D1.2.2.1), by rw [e107, e102]; exact (ui_n _ (by omega)).trans ((ui_n _ (by omega)).trans D1.2.2.2.1), fun i hi => by rw [e107, e102]; exact D1.2.2.2.2 i hi⟩, by rw [e107, e102]; exact (ui_n _ (by omega)).trans (ui_s _), by rw [e107]; exact ui_s _⟩⟩, rfl⟩
    | succ k ih =>
      intro j u1 y G hj P1 O1 hGp hbt D1
      have a1 : u1.1 3 o 7 = nI nc := (O1.1 _ _ _ (fun z => hfo z.2.1)).trans en
      have eg : u1.2.1 9 o j = some (3, g j) := (O1.2 _ _ _ (fun z => hfo z.2)).trans (F5 j (by omega))
      refine ab_iload X 0 d_FM_offer_73 rfl ?_
      refine ab_aload_n X 5 d_FM_offer_75 rfl rfl ?_
      refine ab_gI X fl_FM_34 d_FM_offer_76 (by first | assumption | decide | (show _ < 124; omega) | (show _ < 61; omega) | (show _ < 20; omega)) (a1) ?_
      refine ab_icmp_ge X 100 d_FM_offer_79 rfl (fun hb => absurd hb ((nI_ge (by omega) (by omega)))) (fun _ => ?_)
      refine ab_aload_n X 4 d_FM_offer_82 rfl rfl ?_
      refine ab_aload_n X 5 d_FM_offer_83 rfl rfl ?_
      refine ab_gR X fl_FM_11 d_FM_offer_84 (by first | assumption | decide | (show _ < 124; omega) | (show _ < 61; omega) | (show _ < 20; omega)) (P1.1.fm0 (by first | assumption | decide | omega)) ?_
      refine ab_iload X 0 d_FM_offer_87 rfl ?_
      refine ab_aalv X (j) ⟨rfl, _, fun _ => rfl⟩ d_FM_offer_89 (by first | assumption | decide | (show _ < 124; omega) | (show _ < 61; omega) | (show _ < 20; omega)) (rfl) (show j < 4 by omega) (ab_ln_lt _ _) (eg) ?_
      refine ab_callV (as := [ab_O 3 (g j)]) X (fun h => by cases h) (f_FM_with u1 f r j (g j) mk nd g P1.1 hf (hg j (by omega)) D1 rfl (by omega)) lk_FM_61 d_FM_offer_90 rfl rfl (by first | assumption | decide | (show _ < 124; omega) | (show _ < 61; omega) | (show _ < 20; omega)) ⟨by first | exact Nat.le_of_ble_eq_true rfl | (simp only [ab_rm]; omega), by first | exact Nat.le_of_ble_eq_true rfl | (simp only [ab_rm]; omega)⟩ ⟨by first | exact Nat.le_of_ble_eq_true rfl | (simp only [ab_rm]; omega), by first | exact Nat.le_of_ble_eq_true rfl | (simp only [ab_rm]; omega)⟩ (Nat.le_of_ble_eq_true rfl) (fun u90 r90 h90 => ?_)
      obtain ⟨⟨q90, o90, d90, w90, x90⟩, rfl⟩ := h90
      have P90 := P1.trans q90 (by decide)
      refine ab_pop X d_FM_offer_93 rfl ?_
      refine ab_iinc5 X 0 1 2 3 4 5 d_FM_offer_94 rfl (by decide) rfl rfl rfl rfl rfl rfl rfl rfl rfl rfl ?_
      refine ab_goto X 73 d_FM_offer_97 rfl ?_
      rw [show nI j + Int32.ofInt 1 = nI (j + 1) from nI_1 j]
      exact ih (j + 1) _ _ _ (by omega) P90 (O1.trans o90) hGp hbt d90
  refine ab_aload_n X 1 d_FM_offer_0 rfl rfl ?_
  refine ab_callV (as := []) X (fun h => by cases h) (t_FM_cw u o r nc mk nd g ws ⟨F1, F2, F3, F4, F5⟩ hc4 hw (by omega) hr4 hg h ho hr) lk_FM_50 d_FM_offer_1 rfl rfl (by first | assumption | decide | (show _ < 124; omega) | (show _ < 61; omega) | (show _ < 20; omega)) ⟨by first | exact Nat.le_of_ble_eq_true rfl | (simp only [ab_rm]; omega), by first | exact Nat.le_of_ble_eq_true rfl | (simp only [ab_rm]; omega)⟩ ⟨by first | exact Nat.le_of_ble_eq_true rfl | (simp only [ab_rm]; omega), by first | exact Nat.le_of_ble_eq_true rfl | (simp only [ab_rm]; omega)⟩ (Nat.le_of_ble_eq_true rfl) (fun u1 r1 h1 => ?_)
  obtain ⟨e1, rfl⟩ := h1
  subst u1
  refine ab_istore_n2 X 0 1 d_FM_offer_4 rfl (by decide) rfl rfl rfl rfl ?_
  refine ab_aload_n X 2 d_FM_offer_5 rfl rfl ?_
  refine ab_callV (as := []) X (fun h => by cases h) (t_G) lk_FM_54 d_FM_offer_6 rfl rfl (by first | assumption | decide | (show _ < 124; omega) | (show _ < 61; omega) | (show _ < 20; omega)) ⟨by first | exact Nat.le_of_ble_eq_true rfl | (simp only [ab_rm]; omega), by first | exact Nat.le_of_ble_eq_true rfl | (simp only [ab_rm]; omega)⟩ ⟨by first | exact Nat.le_of_ble_eq_true rfl | (simp only [ab_rm]; omega), by first | exact Nat.le_of_ble_eq_true rfl | (simp only [ab_rm]; omega)⟩ (Nat.le_of_ble_eq_true rfl) (fun u6 r6 h6 => ?_)
  obtain ⟨e6, G, hGp, rfl⟩ := h6
  subst u6
  refine ab_istore_n3 X 0 1 2 d_FM_offer_9 rfl (by decide) rfl rfl rfl rfl rfl rfl ?_
  refine ab_aload_n X 2 d_FM_offer_10 rfl rfl ?_
  refine ab_gI X fl_FM_24 d_FM_offer_11 (by first | assumption | decide | (show _ < 124; omega) | (show _ < 61; omega) | (show _ < 20; omega)) (e0) ?_
  refine ab_if_eq X 41 d_FM_offer_14 rfl (fun h14 => ?_) (fun h14 => ?_)
  ·
    have hbt : (bt r0 (cwn r mk nc (sm ws nc)) w0 G (u.1 3 f 9)) := Or.inl ((nI_eq (b := 0) (by omega) (by omega)).mp h14)
    refine ab_iconst (v := 1) X d_FM_offer_41 (by decide) ?_
    refine ab_goto X 46 d_FM_offer_42 rfl ?_
    refine ab_istore4 X 0 1 2 3 d_FM_offer_46 (by decide) rfl rfl rfl rfl rfl rfl rfl rfl ?_
    refine ab_iload X 0 d_FM_offer_48 rfl ?_
    refine ab_if_eq X 110 d_FM_offer_50 rfl (fun hb => absurd hb ((by decide))) (fun _ => ?_)
    refine ab_aload_n X 3 d_FM_offer_53 rfl rfl ?_
    refine ab_aload_n X 4 d_FM_offer_54 rfl rfl ?_
    refine ab_gI X fl_FM_24 d_FM_offer_55 (by first | assumption | decide | (show _ < 124; omega) | (show _ < 61; omega) | (show _ < 20; omega)) (F1) ?_
    refine ab_aload_n X 4 d_FM_offer_58 rfl rfl ?_
    refine ab_gI X fl_FM_28 d_FM_offer_59 (by first | assumption | decide | (show _ < 124; omega) | (show _ < 61; omega) | (show _ < 20; omega)) (rfl) ?_
    refine ab_aload_n X 4 d_FM_offer_62 rfl rfl ?_
    refine ab_gI X fl_FM_31 d_FM_offer_63 (by first | assumption | decide | (show _ < 124; omega) | (show _ < 61; omega) | (show _ < 20; omega)) (rfl) ?_
    refine ab_callV (as := [ab_I (nI r), ab_I (u.1 3 o 5), ab_I (u.1 3 o 6)]) X (fun h => by cases h) (f_FM_start u f r _ _ g (P0.ex f).1 hf) lk_FM_57 d_FM_offer_66 rfl rfl (by first | assumption | decide | (show _ < 124; omega) | (show _ < 61; omega) | (show _ < 20; omega)) ⟨by first | exact Nat.le_of_ble_eq_true rfl | (simp only [ab_rm]; omega), by first | exact Nat.le_of_ble_eq_true rfl | (simp only [ab_rm]; omega)⟩ ⟨by first | exact Nat.le_of_ble_eq_true rfl | (simp only [ab_rm]; omega), by first | exact Nat.le_of_ble_eq_true rfl | (simp only [ab_rm]; omega)⟩ (Nat.le_of_ble_eq_true rfl) (fun u66 r66 h66 => ?_)
    obtain ⟨⟨q66, o66, d66, w66, x66⟩, rfl⟩ := h66
    have P66 := P0.trans q66 (by decide)
    refine ab_pop X d_FM_offer_69 rfl ?_
    refine ab_iconst (v := 0) X d_FM_offer_70 (by decide) ?_
    refine ab_istore5 X 0 1 2 3 4 d_FM_offer_71 (by decide) rfl rfl rfl rfl rfl rfl rfl rfl rfl rfl ?_
    exact loop nc 0 _ _ _ (by omega) q66 o66 hGp hbt (by rw [F2, F3] at d66; exact d66)
  ·
    have r0n : r0 ≠ 0 := fun z => h14 (by rw [z]; rfl)
    refine ab_iload_n X 1 d_FM_offer_17 rfl rfl ?_
    refine ab_aload_n X 2 d_FM_offer_18 rfl rfl ?_
    refine ab_gI X fl_FM_37 d_FM_offer_19 (by first | assumption | decide | (show _ < 124; omega) | (show _ < 61; omega) | (show _ < 20; omega)) (ew r0n) ?_
    refine ab_icmp_lt X 41 d_FM_offer_22 rfl (fun h22 => ?_) (fun h22 => ?_)
    ·
      have hbt : (bt r0 (cwn r mk nc (sm ws nc)) w0 G (u.1 3 f 9)) := Or.inr (Or.inl (nI_ltl h22 (by omega)))
      refine ab_iconst (v := 1) X d_FM_offer_41 (by decide) ?_
      refine ab_goto X 46 d_FM_offer_42 rfl ?_
      refine ab_istore4 X 0 1 2 3 d_FM_offer_46 (by decide) rfl rfl rfl rfl rfl rfl rfl rfl ?_
      refine ab_iload X 0 d_FM_offer_48 rfl ?_
      refine ab_if_eq X 110 d_FM_offer_50 rfl (fun hb => absurd hb ((by decide))) (fun _ => ?_)
      refine ab_aload_n X 3 d_FM_offer_53 rfl rfl ?_
      refine ab_aload_n X 4 d_FM_offer_54 rfl rfl ?_
      refine ab_gI X fl_FM_24 d_FM_offer_55 (by first | assumption | decide | (show _ < 124; omega) | (show _ < 61; omega) | (show _ < 20; omega)) (F1) ?_
      refine ab_aload_n X 4 d_FM_offer_58 rfl rfl ?_
      refine ab_gI X fl_FM_28 d_FM_offer_59 (by first | assumption | decide | (show _ < 124; omega) | (show _ < 61; omega) | (show _ < 20; omega)) (rfl) ?_
      refine ab_aload_n X 4 d_FM_offer_62 rfl rfl ?_
      refine ab_gI X fl_FM_31 d_FM_offer_63 (by first | assumption | decide | (show _ < 124; omega) | (show _ < 61; omega) | (show _ < 20; omega)) (rfl) ?_
      refine ab_callV (as := [ab_I (nI r), ab_I (u.1 3 o 5), ab_I (u.1 3 o 6)]) X (fun h => by cases h) (f_FM_start u f r _ _ g (P0.ex f).1 hf) lk_FM_57 d_FM_offer_66 rfl rfl (by first | assumption | decide | (show _ < 124; omega) | (show _ < 61; omega) | (show _ < 20; omega)) ⟨by first | exact Nat.le_of_ble_eq_true rfl | (simp only [ab_rm]; omega), by first | exact Nat.le_of_ble_eq_true rfl | (simp only [ab_rm]; omega)⟩ ⟨by first | exact Nat.le_of_ble_eq_true rfl | (simp only [ab_rm]; omega), by first | exact Nat.le_of_ble_eq_true rfl | (simp only [ab_rm]; omega)⟩ (Nat.le_of_ble_eq_true rfl) (fun u66 r66 h66 => ?_)
      obtain ⟨⟨q66, o66, d66, w66, x66⟩, rfl⟩ := h66
      have P66 := P0.trans q66 (by decide)
      refine ab_pop X d_FM_offer_69 rfl ?_
      refine ab_iconst (v := 0) X d_FM_offer_70 (by decide) ?_
      refine ab_istore5 X 0 1 2 3 4 d_FM_offer_71 (by decide) rfl rfl rfl rfl rfl rfl rfl rfl rfl rfl ?_
      exact loop nc 0 _ _ _ (by omega) q66 o66 hGp hbt (by rw [F2, F3] at d66; exact d66)
    ·
      have w1 : ¬ (cwn r mk nc (sm ws nc)) < w0 := fun z => h22 (nI_lt z (by omega))
      refine ab_iload_n X 1 d_FM_offer_25 rfl rfl ?_
      refine ab_aload_n X 2 d_FM_offer_26 rfl rfl ?_
      refine ab_gI X fl_FM_37 d_FM_offer_27 (by first | assumption | decide | (show _ < 124; omega) | (show _ < 61; omega) | (show _ < 20; omega)) (ew r0n) ?_
      refine ab_icmp_ne X 45 d_FM_offer_30 rfl (fun h30 => ?_) (fun h30 => ?_)
      ·
        have nbt : ¬ (bt r0 (cwn r mk nc (sm ws nc)) w0 G (u.1 3 f 9)) := fun z => by
          rcases z with z | z | z
          · exact r0n z
          · exact w1 z
          · exact h30 (by rw [z.1])
        refine ab_iconst (v := 0) X d_FM_offer_45 (by decide) ?_
        refine ab_istore4 X 0 1 2 3 d_FM_offer_46 (by decide) rfl rfl rfl rfl rfl rfl rfl rfl ?_
        refine ab_iload X 0 d_FM_offer_48 rfl ?_
        refine ab_if_eq X 110 d_FM_offer_50 rfl (fun _ => ?_) (fun hb => absurd ((by decide)) hb)
        exact ab_retv X hr0 hlk d_FM_offer_110 ⟨⟨P0, fO.rf, G, hGp, Or.inr ⟨nbt, rfl⟩⟩, rfl⟩
      ·
        have w2 : (cwn r mk nc (sm ws nc)) = w0 := (nI_eq (by omega) (by omega)).mp h30
        refine ab_iload_n X 0 d_FM_offer_33 rfl rfl ?_
        refine ab_aload_n X 2 d_FM_offer_34 rfl rfl ?_
        refine ab_gI X fl_FM_40 d_FM_offer_35 (by first | assumption | decide | (show _ < 124; omega) | (show _ < 61; omega) | (show _ < 20; omega)) (rfl) ?_
        refine ab_icmp_ge X 45 d_FM_offer_38 rfl (fun h38 => ?_) (fun h38 => ?_)
        ·
          have nbt : ¬ (bt r0 (cwn r mk nc (sm ws nc)) w0 G (u.1 3 f 9)) := fun z => by
            rcases z with z | z | z
            · exact r0n z
            · exact w1 z
            · exact Int32.not_lt.mpr h38 z.2
          refine ab_iconst (v := 0) X d_FM_offer_45 (by decide) ?_
          refine ab_istore4 X 0 1 2 3 d_FM_offer_46 (by decide) rfl rfl rfl rfl rfl rfl rfl rfl ?_
          refine ab_iload X 0 d_FM_offer_48 rfl ?_
          refine ab_if_eq X 110 d_FM_offer_50 rfl (fun _ => ?_) (fun hb => absurd ((by decide)) hb)
          exact ab_retv X hr0 hlk d_FM_offer_110 ⟨⟨P0, fO.rf, G, hGp, Or.inr ⟨nbt, rfl⟩⟩, rfl⟩
        ·
          have hbt : (bt r0 (cwn r mk nc (sm ws nc)) w0 G (u.1 3 f 9)) := Or.inr (Or.inr ⟨w2, Int32.not_le.mp h38⟩)
          refine ab_iconst (v := 1) X d_FM_offer_41 (by decide) ?_
          refine ab_goto X 46 d_FM_offer_42 rfl ?_
          refine ab_istore4 X 0 1 2 3 d_FM_offer_46 (by decide) rfl rfl rfl rfl rfl rfl rfl rfl ?_
          refine ab_iload X 0 d_FM_offer_48 rfl ?_
          refine ab_if_eq X 110 d_FM_offer_50 rfl (fun hb => absurd hb ((by decide))) (fun _ => ?_)
          refine ab_aload_n X 3 d_FM_offer_53 rfl rfl ?_
          refine ab_aload_n X 4 d_FM_offer_54 rfl rfl ?_
          refine ab_gI X fl_FM_24 d_FM_offer_55 (by first | assumption | decide | (show _ < 124; omega) | (show _ < 61; omega) | (show _ < 20; omega)) (F1) ?_
          refine ab_aload_n X 4 d_FM_offer_58 rfl rfl ?_
          refine ab_gI X fl_FM_28 d_FM_offer_59 (by first | assumption | decide | (show _ < 124; omega) | (show _ < 61; omega) | (show _ < 20; omega)) (rfl) ?_
          refine ab_aload_n X 4 d_FM_offer_62 rfl rfl ?_
          refine ab_gI X fl_FM_31 d_FM_offer_63 (by first | assumption | decide | (show _ < 124; omega) | (show _ < 61; omega) | (show _ < 20; omega)) (rfl) ?_
          refine ab_callV (as := [ab_I (nI r), ab_I (u.1 3 o 5), ab_I (u.1 3 o 6)]) X (fun h => by cases h) (f_FM_start u f r _ _ g (P0.ex f).1 hf) lk_FM_57 d_FM_offer_66 rfl rfl (by first | assumption | decide | (show _ < 124; omega) | (show _ < 61; omega) | (show _ < 20; omega)) ⟨by first | exact Nat.le_of_ble_eq_true rfl | (simp only [ab_rm]; omega), by first | exact Nat.le_of_ble_eq_true rfl | (simp only [ab_rm]; omega)⟩ ⟨by first | exact Nat.le_of_ble_eq_true rfl | (simp only [ab_rm]; omega), by first | exact Nat.le_of_ble_eq_true rfl | (simp only [ab_rm]; omega)⟩ (Nat.le_of_ble_eq_true rfl) (fun u66 r66 h66 => ?_)
          obtain ⟨⟨q66, o66, d66, w66, x66⟩, rfl⟩ := h66
          have P66 := P0.trans q66 (by decide)
          refine ab_pop X d_FM_offer_69 rfl ?_
          refine ab_iconst (v := 0) X d_FM_offer_70 (by decide) ?_
          refine ab_istore5 X 0 1 2 3 4 d_FM_offer_71 (by decide) rfl rfl rfl rfl rfl rfl rfl rfl rfl rfl ?_
          exact loop nc 0 _ _ _ (by omega) q66 o66 hGp hbt (by rw [F2, F3] at d66; exact d66)
end SaFormF

