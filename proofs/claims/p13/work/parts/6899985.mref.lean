/-! The reference's machine, exactly. -/
/-- the reference's machine: its stack and what lies aside -/
def rM (u : ab_S) (st sd : List Nat) : Prop := (u.1 17 0 35 = nI st.length ∧ stk u 18 18 st) ∧ u.1 17 0 37 = nI sd.length ∧ stk u 18 19 sd
theorem rM.ui {u : ab_S} {st sd : List Nat} {k : Nat} {v : Int32} (h : rM u st sd) (hk : k ≠ 35 ∧ k ≠ 37) : rM (ab_ui u 17 0 k v) st sd := ⟨⟨(ui_n _ (by omega)).trans h.1.1, h.1.2.cong (fun i _ => ui_n _ (by omega))⟩, (ui_n _ (by omega)).trans h.2.1, h.2.2.cong (fun i _ => ui_n _ (by omega))⟩
theorem rM.push {u : ab_S} {st sd : List Nat} {v : Nat} (h : rM u st sd) (hv : v < 2000) : rM (ab_ui (ab_ui u 18 18 st.length (nI v)) 17 0 35 (nI (st.length + 1))) (v :: st) sd := ⟨⟨ui_s _, ⟨(ui_n _ (by omega)).trans (ui_s _), hv⟩, h.1.2.cong (fun i hi => (ui_n _ (by omega)).trans (ui_n _ (by omega)))⟩, (ui_n _ (by omega)).trans ((ui_n _ (by omega)).trans h.2.1), h.2.2.cong (fun i hi => (ui_n _ (by omega)).trans (ui_n _ (by omega)))⟩
theorem rM.aside {u : ab_S} {st sd : List Nat} {v : Nat} (h : rM u st sd) (hv : v < 2000) : rM (ab_ui (ab_ui u 18 19 sd.length (nI v)) 17 0 37 (nI (sd.length + 1))) st (v :: sd) := ⟨⟨(ui_n _ (by omega)).trans ((ui_n _ (by omega)).trans h.1.1), h.1.2.cong (fun i hi => (ui_n _ (by omega)).trans (ui_n _ (by omega)))⟩, ui_s _, ⟨(ui_n _ (by omega)).trans (ui_s _), hv⟩, h.2.2.cong (fun i hi => (ui_n _ (by omega)).trans (ui_n _ (by omega)))⟩
theorem rM.take {u : ab_S} {t sd : List Nat} {w : Nat} (h : rM u (w :: t) sd) : rM (ab_ui u 17 0 35 (nI t.length)) t sd := ⟨⟨ui_s _, h.1.2.2.cong (fun i hi => ui_n _ (by omega))⟩, (ui_n _ (by omega)).trans h.2.1, h.2.2.cong (fun i hi => ui_n _ (by omega))⟩
theorem rM.back {u : ab_S} {st t : List Nat} {w : Nat} (h : rM u st (w :: t)) : rM (ab_ui u 17 0 37 (nI t.length)) st t := ⟨⟨(ui_n _ (by omega)).trans h.1.1, h.1.2.cong (fun i hi => ui_n _ (by omega))⟩, ui_s _, h.2.2.2.cong (fun i hi => ui_n _ (by omega))⟩
section SaXRef
variable {l : Launch} {D : va_G} {ca : Nat → ClassId}
set_option maxRecDepth 100000 in
set_option maxHeartbeats 1000000 in
theorem z_MO_putOn (u : ab_S) (v : Nat) (st sd : List Nat) (h : mR u.2.1) (C : rM u st sd) (hv : v < 2000) (hL : st.length < 128) : ab_C false l D ca y_MO_putOn b_MO_putOn 2 none 0 ab_nQ u [ab_O 17 0, ab_I (nI v)] (fun u' w => (gP [35, 37, 40, 118, 119] u u' ∧ rM u' (v :: st) sd ∧ u'.1 17 0 40 = u.1 17 0 40) ∧ w = none) := by
  refine ab_C.of (by decide) (Nat.le_of_ble_eq_true rfl) ?_
  intro p e s m args below meth c ad X hZ hr0 hlk
  have P0 : gP [35, 37, 40, 118, 119] u u := gP.rf h
  have en := C.1.1
  refine ab_aload_n X 0 d_MO_putOn_0 rfl rfl ?_
  refine ab_gR X fl_MO_114 d_MO_putOn_1 (by first | assumption | decide | (show _ < 124; omega) | (show _ < 61; omega) | (show _ < 20; omega)) (P0.1.mo34) ?_
  refine ab_aload_n X 0 d_MO_putOn_4 rfl rfl ?_
  refine ab_gI X fl_MO_117 d_MO_putOn_5 (by first | assumption | decide | (show _ < 124; omega) | (show _ < 61; omega) | (show _ < 20; omega)) (en) ?_
  refine ab_iload_n X 1 d_MO_putOn_8 rfl rfl ?_
  refine ab_iast X (st.length) ⟨rfl, rfl⟩ d_MO_putOn_9 (by first | assumption | decide | (show _ < 124; omega) | (show _ < 61; omega) | (show _ < 20; omega)) (rfl) (hL) (ab_ln_lt _ _) ?_
  refine ab_gen (fun u9 e9 => ?_)
  have P9 : gP [35, 37, 40, 118, 119] u u9 := by rw [e9]; exact P0.ui rfl (by decide)
  refine ab_aload_n X 0 d_MO_putOn_10 rfl rfl ?_
  refine ab_dup X d_MO_putOn_11 rfl ?_
  refine ab_gI X fl_MO_117 d_MO_putOn_12 (by first | assumption | decide | (show _ < 124; omega) | (show _ < 61; omega) | (show _ < 20; omega)) ((show _ = nI st.length by rw [e9]; exact (ui_n _ (by omega)).trans en)) ?_
  refine ab_iconst (v := 1) X d_MO_putOn_15 (by decide) ?_
  refine ab_iadd X d_MO_putOn_16 ?_
  refine ab_top (nI_1 _) ?_
  refine ab_putI X fp_MO_117 d_MO_putOn_17 (by first | assumption | decide | (show _ < 124; omega) | (show _ < 61; omega) | (show _ < 20; omega)) rfl rfl ?_
  refine ab_gen (fun u17 e17 => ?_)
  have P17 : gP [35, 37, 40, 118, 119] u u17 := by rw [e17]; exact P9.ui rfl (by decide)
  exact ab_retv X hr0 hlk d_MO_putOn_20 ⟨⟨P17, by rw [e17, e9]; exact C.push hv, by rw [e17, e9]; exact (ui_n _ (by omega)).trans (ui_n _ (by omega))⟩, rfl⟩
set_option maxRecDepth 100000 in
set_option maxHeartbeats 1000000 in
theorem z_MO_putX (u : ab_S) (x : Int32) (st sd : List Nat) (h : mR u.2.1) (C : rM u st sd) (hL : st.length < 128) : ab_C false l D ca y_MO_putOn b_MO_putOn 2 none 0 ab_nQ u [ab_O 17 0, ab_I x] (fun u' w => (gP [35, 37, 40, 118, 119] u u' ∧ u'.1 17 0 40 = u.1 17 0 40) ∧ w = none) := by
  refine ab_C.of (by decide) (Nat.le_of_ble_eq_true rfl) ?_
  intro p e s m args below meth c ad X hZ hr0 hlk
  have P0 : gP [35, 37, 40, 118, 119] u u := gP.rf h
  have en := C.1.1
  refine ab_aload_n X 0 d_MO_putOn_0 rfl rfl ?_
  refine ab_gR X fl_MO_114 d_MO_putOn_1 (by first | assumption | decide | (show _ < 124; omega) | (show _ < 61; omega) | (show _ < 20; omega)) (P0.1.mo34) ?_
  refine ab_aload_n X 0 d_MO_putOn_4 rfl rfl ?_
  refine ab_gI X fl_MO_117 d_MO_putOn_5 (by first | assumption | decide | (show _ < 124; omega) | (show _ < 61; omega) | (show _ < 20; omega)) (en) ?_
  refine ab_iload_n X 1 d_MO_putOn_8 rfl rfl ?_
  refine ab_iast X (st.length) ⟨rfl, rfl⟩ d_MO_putOn_9 (by first | assumption | decide | (show _ < 124; omega) | (show _ < 61; omega) | (show _ < 20; omega)) (rfl) (hL) (ab_ln_lt _ _) ?_
  refine ab_gen (fun u9 e9 => ?_)
  have P9 : gP [35, 37, 40, 118, 119] u u9 := by rw [e9]; exact P0.ui rfl (by decide)
  refine ab_aload_n X 0 d_MO_putOn_10 rfl rfl ?_
  refine ab_dup X d_MO_putOn_11 rfl ?_
  refine ab_gI X fl_MO_117 d_MO_putOn_12 (by first | assumption | decide | (show _ < 124; omega) | (show _ < 61; omega) | (show _ < 20; omega)) ((show _ = nI st.length by rw [e9]; exact (ui_n _ (by omega)).trans en)) ?_
  refine ab_iconst (v := 1) X d_MO_putOn_15 (by decide) ?_
  refine ab_iadd X d_MO_putOn_16 ?_
  refine ab_top (nI_1 _) ?_
  refine ab_putI X fp_MO_117 d_MO_putOn_17 (by first | assumption | decide | (show _ < 124; omega) | (show _ < 61; omega) | (show _ < 20; omega)) rfl rfl ?_
  refine ab_gen (fun u17 e17 => ?_)
  have P17 : gP [35, 37, 40, 118, 119] u u17 := by rw [e17]; exact P9.ui rfl (by decide)
  exact ab_retv X hr0 hlk d_MO_putOn_20 ⟨⟨P17, by rw [e17, e9]; exact (ui_n _ (by omega)).trans (ui_n _ (by omega))⟩, rfl⟩
set_option maxRecDepth 100000 in
set_option maxHeartbeats 1000000 in
theorem z_MO_take (u : ab_S) (st sd : List Nat) (h : mR u.2.1) (C : rM u st sd) (hL : st.length ≤ 128) : ab_C false l D ca y_MO_take b_MO_take 1 (some FieldType.int) 0 ab_nQ u [ab_O 17 0] (fun u' w => (gP [35, 37, 40, 118, 119] u u' ∧ rM u' st.tail sd ∧ u'.1 17 0 40 = (if st = [] then 1 else u.1 17 0 40)) ∧ w = some (ab_I (nI (st.headD 0)))) := by
  refine ab_C.of (by decide) (Nat.le_of_ble_eq_true rfl) ?_
  intro p e s m args below meth c ad X hZ hr0 hlk
  have P0 : gP [35, 37, 40, 118, 119] u u := gP.rf h
  have en := C.1.1
  cases st with
  | nil =>
    refine ab_aload_n X 0 d_MO_take_0 rfl rfl ?_
    refine ab_gI X fl_MO_117 d_MO_take_1 (by first | assumption | decide | (show _ < 124; omega) | (show _ < 61; omega) | (show _ < 20; omega)) (en) ?_
    refine ab_if_ne X 14 d_MO_take_4 rfl (fun hb => absurd ((show nI ([] : List Nat).length = 0 from rfl)) hb) (fun _ => ?_)
    refine ab_aload_n X 0 d_MO_take_7 rfl rfl ?_
    refine ab_iconst (v := 1) X d_MO_take_8 (by decide) ?_
    refine ab_putI X fp_MO_132 d_MO_take_9 (by first | assumption | decide | (show _ < 124; omega) | (show _ < 61; omega) | (show _ < 20; omega)) rfl rfl ?_
    refine ab_gen (fun u9 e9 => ?_)
    have P9 : gP [35, 37, 40, 118, 119] u u9 := by rw [e9]; exact P0.ui rfl (by decide)
    refine ab_iconst (v := 0) X d_MO_take_12 (by decide) ?_
    exact ab_reti X hr0 hlk d_MO_take_13 ⟨⟨P9, by rw [e9]; exact C.ui (by decide), by rw [e9, if_pos rfl]; exact ui_s _⟩, rfl⟩
  | cons w t =>
    have hL : t.length < 128 := hL
    refine ab_aload_n X 0 d_MO_take_0 rfl rfl ?_
    refine ab_gI X fl_MO_117 d_MO_take_1 (by first | assumption | decide | (show _ < 124; omega) | (show _ < 61; omega) | (show _ < 20; omega)) (en) ?_
    refine ab_if_ne X 14 d_MO_take_4 rfl (fun _ => ?_) (fun hb => absurd hb ((nI_n0 (by show t.length + 1 < _; omega) (Nat.succ_ne_zero _))))
    refine ab_aload_n X 0 d_MO_take_14 rfl rfl ?_
    refine ab_dup X d_MO_take_15 rfl ?_
    refine ab_gI X fl_MO_117 d_MO_take_16 (by first | assumption | decide | (show _ < 124; omega) | (show _ < 61; omega) | (show _ < 20; omega)) (en) ?_
    refine ab_iconst (v := 1) X d_MO_take_19 (by decide) ?_
    refine ab_isub X d_MO_take_20 ?_
    refine ab_top (nI_p1 t.length) ?_
    refine ab_putI X fp_MO_117 d_MO_take_21 (by first | assumption | decide | (show _ < 124; omega) | (show _ < 61; omega) | (show _ < 20; omega)) rfl rfl ?_
    refine ab_gen (fun u21 e21 => ?_)
    have P21 : gP [35, 37, 40, 118, 119] u u21 := by rw [e21]; exact P0.ui rfl (by decide)
    refine ab_aload_n X 0 d_MO_take_24 rfl rfl ?_
    refine ab_gR X fl_MO_114 d_MO_take_25 (by first | assumption | decide | (show _ < 124; omega) | (show _ < 61; omega) | (show _ < 20; omega)) (P21.1.mo34) ?_
    refine ab_aload_n X 0 d_MO_take_28 rfl rfl ?_
    refine ab_gI X fl_MO_117 d_MO_take_29 (by first | assumption | decide | (show _ < 124; omega) | (show _ < 61; omega) | (show _ < 20; omega)) ((show _ = nI t.length by rw [e21]; exact ui_s _)) ?_
    refine ab_iald X (t.length) ⟨rfl, rfl⟩ d_MO_take_32 (by first | assumption | decide | (show _ < 124; omega) | (show _ < 61; omega) | (show _ < 20; omega)) (rfl) (hL) (ab_ln_lt _ _) ?_
    refine ab_top (show _ = nI w by rw [e21]; exact (ui_n _ (by omega)).trans C.1.2.1.1) ?_
    exact ab_reti X hr0 hlk d_MO_take_33 ⟨⟨P21, by rw [e21]; exact C.take, by rw [e21, if_neg (List.cons_ne_nil _ _)]; exact ui_n _ (by omega)⟩, rfl⟩
set_option maxRecDepth 100000 in
set_option maxHeartbeats 1000000 in
theorem z_MO_takeNumber (u : ab_S) (st sd : List Nat) (h : mR u.2.1) (C : rM u st sd) (hL : st.length ≤ 128) : ab_C false l D ca y_MO_takeNumber b_MO_takeNumber 2 (some FieldType.int) 1 ab_nQ u [ab_O 17 0] (fun u' w => (gP [35, 37, 40, 118, 119] u u' ∧ rM u' st.tail sd ∧ u'.1 17 0 40 = (if st = [] ∨ 9 < st.headD 0 then 1 else u.1 17 0 40)) ∧ w = some (ab_I (nI (st.headD 0)))) := by
  refine ab_C.of (by decide) (Nat.le_of_ble_eq_true rfl) ?_
  intro p e s m args below meth c ad X hZ hr0 hlk
  have P0 : gP [35, 37, 40, 118, 119] u u := gP.rf h
  have hd := C.1.2.hd
  by_cases q : 9 < st.headD 0
  ·
    refine ab_aload_n X 0 d_MO_takeNumber_0 rfl rfl ?_
    refine ab_callV (as := []) X (fun h => by cases h) (z_MO_take u st sd h C hL) lk_MO_294 d_MO_takeNumber_1 rfl rfl (by first | assumption | decide | (show _ < 124; omega) | (show _ < 61; omega) | (show _ < 20; omega)) ⟨by first | exact Nat.le_of_ble_eq_true rfl | (simp only [ab_rm]; omega), by first | exact Nat.le_of_ble_eq_true rfl | (simp only [ab_rm]; omega)⟩ ⟨by first | exact Nat.le_of_ble_eq_true rfl | (simp only [ab_rm]; omega), by first | exact Nat.le_of_ble_eq_true rfl | (simp only [ab_rm]; omega)⟩ (Nat.le_of_ble_eq_true rfl) (fun u1 r1 h1 => ?_)
    obtain ⟨⟨z1, c1, f1⟩, rfl⟩ := h1
    have q1 := z1
    have P1 := P0.trans q1 (by decide)
    refine ab_istore_n1 X 0 d_MO_takeNumber_4 rfl (by decide) rfl rfl ?_
    refine ab_iload_n X 0 d_MO_takeNumber_5 rfl rfl ?_
    refine ab_bipush (v := 9) X d_MO_takeNumber_6 (by decide) ?_
    refine ab_icmp_le X 16 d_MO_takeNumber_8 rfl (fun hb => absurd hb ((nI_ge (a := 9) q (by omega)))) (fun _ => ?_)
    refine ab_aload_n X 1 d_MO_takeNumber_11 rfl rfl ?_
    refine ab_iconst (v := 1) X d_MO_takeNumber_12 (by decide) ?_
    refine ab_putI X fp_MO_132 d_MO_takeNumber_13 (by first | assumption | decide | (show _ < 124; omega) | (show _ < 61; omega) | (show _ < 20; omega)) rfl rfl ?_
    refine ab_gen (fun u13 e13 => ?_)
    have P13 : gP [35, 37, 40, 118, 119] u u13 := by rw [e13]; exact P1.ui rfl (by decide)
    refine ab_iload_n X 0 d_MO_takeNumber_16 rfl rfl ?_
    exact ab_reti X hr0 hlk d_MO_takeNumber_17 ⟨⟨P13, by rw [e13]; exact c1.ui (by decide), by rw [e13, if_pos (Or.inr q)]; exact ui_s _⟩, rfl⟩
  ·
    refine ab_aload_n X 0 d_MO_takeNumber_0 rfl rfl ?_
    refine ab_callV (as := []) X (fun h => by cases h) (z_MO_take u st sd h C hL) lk_MO_294 d_MO_takeNumber_1 rfl rfl (by first | assumption | decide | (show _ < 124; omega) | (show _ < 61; omega) | (show _ < 20; omega)) ⟨by first | exact Nat.le_of_ble_eq_true rfl | (simp only [ab_rm]; omega), by first | exact Nat.le_of_ble_eq_true rfl | (simp only [ab_rm]; omega)⟩ ⟨by first | exact Nat.le_of_ble_eq_true rfl | (simp only [ab_rm]; omega), by first | exact Nat.le_of_ble_eq_true rfl | (simp only [ab_rm]; omega)⟩ (Nat.le_of_ble_eq_true rfl) (fun u1 r1 h1 => ?_)
    obtain ⟨⟨z1, c1, f1⟩, rfl⟩ := h1
    have q1 := z1
    have P1 := P0.trans q1 (by decide)
    refine ab_istore_n1 X 0 d_MO_takeNumber_4 rfl (by decide) rfl rfl ?_
    refine ab_iload_n X 0 d_MO_takeNumber_5 rfl rfl ?_
    refine ab_bipush (v := 9) X d_MO_takeNumber_6 (by decide) ?_
    refine ab_icmp_le X 16 d_MO_takeNumber_8 rfl (fun _ => ?_) (fun hb => absurd ((nI_le (b := 9) (by omega) (by decide))) hb)
    refine ab_iload_n X 0 d_MO_takeNumber_16 rfl rfl ?_
    exact ab_reti X hr0 hlk d_MO_takeNumber_17 ⟨⟨z1, c1, f1.trans (by by_cases y : st = []; (rw [if_pos y, if_pos (Or.inl y)]); rw [if_neg y, if_neg (by rintro (z | z); exact y z; exact q z)])⟩, rfl⟩
/-- the words behind the one that stands at i -/
def wR (u : ab_S) (i : Nat) (r : List Nat) : Prop := i + 1 + r.length ≤ 100 ∧ ∀ k, k < r.length → u.1 18 9 (i + 1 + k) = nI (r.getD k 0) ∧ r.getD k 0 < 20000
theorem wR.fr {u u' : ab_S} {i : Nat} {r : List Nat} (h : wR u i r) (g : gP [35, 37, 40, 118, 119] u u') : wR u' i r := ⟨h.1, fun k hk => ⟨g.ai (by decide) (h.2 k hk).1, (h.2 k hk).2⟩⟩
set_option maxRecDepth 100000 in
set_option maxHeartbeats 1000000 in
theorem t_MO_behF (u : ab_S) (w i n : Nat) (r : List Nat) (h : mR u.2.1) (hw : w = 13 ∨ w = 14) (Wr : wR u i r) (hf : fnd w 0 r = some n) : ab_C false l D ca y_MO_behind b_MO_behind 6 (some FieldType.int) 0 ab_nQ u [ab_O 17 0, ab_I (nI i), ab_I (nI w)] (fun u' v => u' = u ∧ v = some (ab_I (nI (i + 1 + n + 1)))) := by
  refine ab_C.of (by decide) (Nat.le_of_ble_eq_true rfl) ?_
  intro p e s m args below meth c ad X hZ hr0 hlk
  have P0 : gP [35, 37, 40, 118, 119] u u := gP.rf h
  obtain ⟨hN, hr⟩ := Wr
  have loop : ∀ (r2 : List Nat) (j d n2 : Nat), j + r2.length = i + 1 + r.length → d + r2.length ≤ 200 → (∀ k, k < r2.length → u.1 18 9 (j + k) = nI (r2.getD k 0) ∧ r2.getD k 0 < 20000) → fnd w d r2 = some n2 → j + n2 = i + 1 + n → ab_J p l e (ab_rm 0 0 0) s m args below meth c (MQ below (ab_Q D ca ad ab_nQ s.heap.size (fun u' v => u' = u ∧ v = some (ab_I (nI (i + 1 + n + 1))))) args s 0 0 (ab_A ad ab_nQ s.heap.size)) D ca (ab_A ad ab_nQ s.heap.size) s.heap 6 0 0 ad ab_nQ u 7 [(4, ab_I (nI j)), (3, ab_I (nI d)), (0, ab_O 17 0), (1, ab_I (nI i)), (2, ab_I (nI w))] [] := by
    intro r2
    induction r2 with
    | nil => intro j d n2 _ _ _ hq; cases hq
    | cons y r2 ih =>
      intro j d n2 hj hd hq hfn hjn
      have hj : j + (r2.length + 1) = i + 1 + r.length := hj
      have hd : d + (r2.length + 1) ≤ 200 := hd
      obtain ⟨ey, by2⟩ : u.1 18 9 j = nI y ∧ y < 20000 := hq 0 (Nat.succ_pos _)
      have hq2 : ∀ k, k < r2.length → u.1 18 9 (j + 1 + k) = nI (r2.getD k 0) ∧ r2.getD k 0 < 20000 := fun k hk => by
        have := hq (k + 1) (Nat.succ_lt_succ hk)
        rw [show j + (k + 1) = j + 1 + k by omega] at this
        exact this
      by_cases hit : d = 0 ∧ y / 1000 = w
      · rw [fnd_hit hit] at hfn
        obtain rfl : 0 = n2 := Option.some.inj hfn
        refine ab_iload_n X 1 d_MO_behind_7 rfl rfl ?_
        refine ab_if_gt X 26 d_MO_behind_8 rfl (fun hb => absurd hb ((by rw [hit.1]; decide))) (fun _ => ?_)
        refine ab_aload_n X 2 d_MO_behind_11 rfl rfl ?_
        refine ab_gR X fl_MO_57 d_MO_behind_12 (by first | assumption | decide | (show _ < 124; omega) | (show _ < 61; omega) | (show _ < 20; omega)) (P0.1.mo15) ?_
        refine ab_iload X 0 d_MO_behind_15 rfl ?_
        refine ab_iald X (j) ⟨rfl, rfl⟩ d_MO_behind_17 (by first | assumption | decide | (show _ < 124; omega) | (show _ < 61; omega) | (show _ < 20; omega)) (rfl) (show j < 7200 by omega) (ab_ln_lt _ _) ?_
        refine ab_top ey ?_
        refine ab_sipush (v := 1000) X d_MO_behind_18 (by decide) ?_
        refine ab_idiv X d_MO_behind_21 (by decide) ?_
        refine ab_top (div_nI by2) ?_
        refine ab_iload_n X 4 d_MO_behind_22 rfl rfl ?_
        refine ab_icmp_eq X 72 d_MO_behind_23 rfl (fun _ => ?_) (fun hb => absurd ((congrArg nI hit.2)) hb)
        refine ab_iload X 0 d_MO_behind_72 rfl ?_
        refine ab_iconst (v := 1) X d_MO_behind_74 (by decide) ?_
        refine ab_iadd X d_MO_behind_75 ?_
        refine ab_top (nI_1 _) ?_
        exact ab_reti X hr0 hlk d_MO_behind_76 ⟨rfl, congrArg (fun z => some (ab_I (nI (z + 1)))) hjn⟩
      · have K26 : ab_J p l e (ab_rm 0 0 0) s m args below meth c (MQ below (ab_Q D ca ad ab_nQ s.heap.size (fun u' v => u' = u ∧ v = some (ab_I (nI (i + 1 + n + 1))))) args s 0 0 (ab_A ad ab_nQ s.heap.size)) D ca (ab_A ad ab_nQ s.heap.size) s.heap 6 0 0 ad ab_nQ u 26 [(4, ab_I (nI j)), (3, ab_I (nI d)), (0, ab_O 17 0), (1, ab_I (nI i)), (2, ab_I (nI w))] [] := by
          by_cases up : y / 1000 = 12 ∨ y / 1000 = 15
          · rw [fnd_up hit up] at hfn
            obtain ⟨n3, hn3, e3⟩ := Option.map_eq_some_iff.mp hfn
            have go := ih (j + 1) (d + 1) n3 (by omega) (by omega) hq2 hn3 (by omega)
            by_cases u12 : y / 1000 = 12
            ·
              refine ab_aload_n X 2 d_MO_behind_26 rfl rfl ?_
              refine ab_gR X fl_MO_57 d_MO_behind_27 (by first | assumption | decide | (show _ < 124; omega) | (show _ < 61; omega) | (show _ < 20; omega)) (P0.1.mo15) ?_
              refine ab_iload X 0 d_MO_behind_30 rfl ?_
              refine ab_iald X (j) ⟨rfl, rfl⟩ d_MO_behind_32 (by first | assumption | decide | (show _ < 124; omega) | (show _ < 61; omega) | (show _ < 20; omega)) (rfl) (show j < 7200 by omega) (ab_ln_lt _ _) ?_
              refine ab_top ey ?_
              refine ab_sipush (v := 1000) X d_MO_behind_33 (by decide) ?_
              refine ab_idiv X d_MO_behind_36 (by decide) ?_
              refine ab_top (div_nI by2) ?_
              refine ab_istore5 X 0 1 2 3 4 d_MO_behind_37 (by decide) rfl rfl rfl rfl rfl rfl rfl rfl rfl rfl ?_
              refine ab_iload X 0 d_MO_behind_39 rfl ?_
              refine ab_bipush (v := 12) X d_MO_behind_41 (by decide) ?_
              refine ab_icmp_eq X 53 d_MO_behind_43 rfl (fun _ => ?_) (fun hb => absurd ((congrArg nI u12)) hb)
              refine ab_iinc5 X 2 0 1 3 4 5 d_MO_behind_53 rfl (by decide) rfl rfl rfl rfl rfl rfl rfl rfl rfl rfl ?_
              refine ab_iload X 1 d_MO_behind_56 rfl ?_
              refine ab_bipush (v := 14) X d_MO_behind_58 (by decide) ?_
              refine ab_icmp_ne X 66 d_MO_behind_60 rfl (fun _ => ?_) (fun hb => absurd hb ((nI_ne (b := 14) (by omega) (by decide) (by omega))))
              refine ab_iinc5 X 2 0 1 3 4 5 d_MO_behind_66 rfl (by decide) rfl rfl rfl rfl rfl rfl rfl rfl rfl rfl ?_
              refine ab_goto X 7 d_MO_behind_69 rfl ?_
              refine ab_lv (List.forall_mem_cons.mpr ⟨List.mem_of_getElem? (i := 0) rfl, List.forall_mem_cons.mpr ⟨List.mem_of_getElem? (i := 1) rfl, List.forall_mem_cons.mpr ⟨List.mem_of_getElem? (i := 3) rfl, List.forall_mem_cons.mpr ⟨List.mem_of_getElem? (i := 4) rfl, List.forall_mem_cons.mpr ⟨List.mem_of_getElem? (i := 5) rfl, fun _ h => absurd h List.not_mem_nil⟩⟩⟩⟩⟩) ?_
              rw [show nI j + Int32.ofInt 1 = nI (j + 1) from nI_1 j, show nI d + Int32.ofInt 1 = nI (d + 1) from nI_1 d]
              exact go
            ·
              refine ab_aload_n X 2 d_MO_behind_26 rfl rfl ?_
              refine ab_gR X fl_MO_57 d_MO_behind_27 (by first | assumption | decide | (show _ < 124; omega) | (show _ < 61; omega) | (show _ < 20; omega)) (P0.1.mo15) ?_
              refine ab_iload X 0 d_MO_behind_30 rfl ?_
              refine ab_iald X (j) ⟨rfl, rfl⟩ d_MO_behind_32 (by first | assumption | decide | (show _ < 124; omega) | (show _ < 61; omega) | (show _ < 20; omega)) (rfl) (show j < 7200 by omega) (ab_ln_lt _ _) ?_
              refine ab_top ey ?_
              refine ab_sipush (v := 1000) X d_MO_behind_33 (by decide) ?_
              refine ab_idiv X d_MO_behind_36 (by decide) ?_
              refine ab_top (div_nI by2) ?_
              refine ab_istore5 X 0 1 2 3 4 d_MO_behind_37 (by decide) rfl rfl rfl rfl rfl rfl rfl rfl rfl rfl ?_
              refine ab_iload X 0 d_MO_behind_39 rfl ?_
              refine ab_bipush (v := 12) X d_MO_behind_41 (by decide) ?_
              refine ab_icmp_eq X 53 d_MO_behind_43 rfl (fun hb => absurd hb ((nI_ne (b := 12) (by omega) (by decide) u12))) (fun _ => ?_)
              refine ab_iload X 0 d_MO_behind_46 rfl ?_
              refine ab_bipush (v := 15) X d_MO_behind_48 (by decide) ?_
              refine ab_icmp_ne X 56 d_MO_behind_50 rfl (fun hb => absurd ((congrArg nI (show y / 1000 = 15 by omega))) hb) (fun _ => ?_)
              refine ab_iinc5 X 2 0 1 3 4 5 d_MO_behind_53 rfl (by decide) rfl rfl rfl rfl rfl rfl rfl rfl rfl rfl ?_
              refine ab_iload X 1 d_MO_behind_56 rfl ?_
              refine ab_bipush (v := 14) X d_MO_behind_58 (by decide) ?_
              refine ab_icmp_ne X 66 d_MO_behind_60 rfl (fun _ => ?_) (fun hb => absurd hb ((nI_ne (b := 14) (by omega) (by decide) (by omega))))
              refine ab_iinc5 X 2 0 1 3 4 5 d_MO_behind_66 rfl (by decide) rfl rfl rfl rfl rfl rfl rfl rfl rfl rfl ?_
              refine ab_goto X 7 d_MO_behind_69 rfl ?_
              refine ab_lv (List.forall_mem_cons.mpr ⟨List.mem_of_getElem? (i := 0) rfl, List.forall_mem_cons.mpr ⟨List.mem_of_getElem? (i := 1) rfl, List.forall_mem_cons.mpr ⟨List.mem_of_getElem? (i := 3) rfl, List.forall_mem_cons.mpr ⟨List.mem_of_getElem? (i := 4) rfl, List.forall_mem_cons.mpr ⟨List.mem_of_getElem? (i := 5) rfl, fun _ h => absurd h List.not_mem_nil⟩⟩⟩⟩⟩) ?_
              rw [show nI j + Int32.ofInt 1 = nI (j + 1) from nI_1 j, show nI d + Int32.ofInt 1 = nI (d + 1) from nI_1 d]
              exact go
          · by_cases dn : y / 1000 = 14
            · by_cases d0 : d = 0
              · rw [fnd_bad hit dn d0] at hfn; cases hfn
              · rw [fnd_down hit dn d0] at hfn
                obtain ⟨n3, hn3, e3⟩ := Option.map_eq_some_iff.mp hfn
                have go := ih (j + 1) (d - 1) n3 (by omega) (by omega) hq2 hn3 (by omega)
                refine ab_aload_n X 2 d_MO_behind_26 rfl rfl ?_
                refine ab_gR X fl_MO_57 d_MO_behind_27 (by first | assumption | decide | (show _ < 124; omega) | (show _ < 61; omega) | (show _ < 20; omega)) (P0.1.mo15) ?_
                refine ab_iload X 0 d_MO_behind_30 rfl ?_
                refine ab_iald X (j) ⟨rfl, rfl⟩ d_MO_behind_32 (by first | assumption | decide | (show _ < 124; omega) | (show _ < 61; omega) | (show _ < 20; omega)) (rfl) (show j < 7200 by omega) (ab_ln_lt _ _) ?_
                refine ab_top ey ?_
                refine ab_sipush (v := 1000) X d_MO_behind_33 (by decide) ?_
                refine ab_idiv X d_MO_behind_36 (by decide) ?_
                refine ab_top (div_nI by2) ?_
                refine ab_istore5 X 0 1 2 3 4 d_MO_behind_37 (by decide) rfl rfl rfl rfl rfl rfl rfl rfl rfl rfl ?_
                refine ab_iload X 0 d_MO_behind_39 rfl ?_
                refine ab_bipush (v := 12) X d_MO_behind_41 (by decide) ?_
                refine ab_icmp_eq X 53 d_MO_behind_43 rfl (fun hb => absurd hb ((nI_ne (b := 12) (by omega) (by decide) (by omega)))) (fun _ => ?_)
                refine ab_iload X 0 d_MO_behind_46 rfl ?_
                refine ab_bipush (v := 15) X d_MO_behind_48 (by decide) ?_
                refine ab_icmp_ne X 56 d_MO_behind_50 rfl (fun _ => ?_) (fun hb => absurd hb ((nI_ne (b := 15) (by omega) (by decide) (by omega))))
                refine ab_iload X 0 d_MO_behind_56 rfl ?_
                refine ab_bipush (v := 14) X d_MO_behind_58 (by decide) ?_
                refine ab_icmp_ne X 66 d_MO_behind_60 rfl (fun hb => absurd ((congrArg nI dn)) hb) (fun _ => ?_)
                refine ab_iinc5 X 2 0 1 3 4 5 d_MO_behind_63 rfl (by decide) rfl rfl rfl rfl rfl rfl rfl rfl rfl rfl ?_
                refine ab_iinc5 X 2 0 1 3 4 5 d_MO_behind_66 rfl (by decide) rfl rfl rfl rfl rfl rfl rfl rfl rfl rfl ?_
                refine ab_goto X 7 d_MO_behind_69 rfl ?_
                refine ab_lv (List.forall_mem_cons.mpr ⟨List.mem_of_getElem? (i := 0) rfl, List.forall_mem_cons.mpr ⟨List.mem_of_getElem? (i := 1) rfl, List.forall_mem_cons.mpr ⟨List.mem_of_getElem? (i := 3) rfl, List.forall_mem_cons.mpr ⟨List.mem_of_getElem? (i := 4) rfl, List.forall_mem_cons.mpr ⟨List.mem_of_getElem? (i := 5) rfl, fun _ h => absurd h List.not_mem_nil⟩⟩⟩⟩⟩) ?_
                rw [show nI j + Int32.ofInt 1 = nI (j + 1) from nI_1 j, show nI d + Int32.ofInt (-1) = nI (d - 1) from by rw [show d = d - 1 + 1 by omega]; exact pk_m1 _]
                exact go
            · rw [fnd_same hit (by omega) (by omega) dn] at hfn
              obtain ⟨n3, hn3, e3⟩ := Option.map_eq_some_iff.mp hfn
              have go := ih (j + 1) d n3 (by omega) (by omega) hq2 hn3 (by omega)
              refine ab_aload_n X 2 d_MO_behind_26 rfl rfl ?_
              refine ab_gR X fl_MO_57 d_MO_behind_27 (by first | assumption | decide | (show _ < 124; omega) | (show _ < 61; omega) | (show _ < 20; omega)) (P0.1.mo15) ?_
              refine ab_iload X 0 d_MO_behind_30 rfl ?_
              refine ab_iald X (j) ⟨rfl, rfl⟩ d_MO_behind_32 (by first | assumption | decide | (show _ < 124; omega) | (show _ < 61; omega) | (show _ < 20; omega)) (rfl) (show j < 7200 by omega) (ab_ln_lt _ _) ?_
              refine ab_top ey ?_
              refine ab_sipush (v := 1000) X d_MO_behind_33 (by decide) ?_
              refine ab_idiv X d_MO_behind_36 (by decide) ?_
              refine ab_top (div_nI by2) ?_
              refine ab_istore5 X 0 1 2 3 4 d_MO_behind_37 (by decide) rfl rfl rfl rfl rfl rfl rfl rfl rfl rfl ?_
              refine ab_iload X 0 d_MO_behind_39 rfl ?_
              refine ab_bipush (v := 12) X d_MO_behind_41 (by decide) ?_
              refine ab_icmp_eq X 53 d_MO_behind_43 rfl (fun hb => absurd hb ((nI_ne (b := 12) (by omega) (by decide) (by omega)))) (fun _ => ?_)
              refine ab_iload X 0 d_MO_behind_46 rfl ?_
              refine ab_bipush (v := 15) X d_MO_behind_48 (by decide) ?_
              refine ab_icmp_ne X 56 d_MO_behind_50 rfl (fun _ => ?_) (fun hb => absurd hb ((nI_ne (b := 15) (by omega) (by decide) (by omega))))
              refine ab_iload X 0 d_MO_behind_56 rfl ?_
              refine ab_bipush (v := 14) X d_MO_behind_58 (by decide) ?_
              refine ab_icmp_ne X 66 d_MO_behind_60 rfl (fun _ => ?_) (fun hb => absurd hb ((nI_ne (b := 14) (by omega) (by decide) dn)))
              refine ab_iinc5 X 1 0 2 3 4 5 d_MO_behind_66 rfl (by decide) rfl rfl rfl rfl rfl rfl rfl rfl rfl rfl ?_
              refine ab_goto X 7 d_MO_behind_69 rfl ?_
              refine ab_lv (List.forall_mem_cons.mpr ⟨List.mem_of_getElem? (i := 0) rfl, List.forall_mem_cons.mpr ⟨List.mem_of_getElem? (i := 2) rfl, List.forall_mem_cons.mpr ⟨List.mem_of_getElem? (i := 3) rfl, List.forall_mem_cons.mpr ⟨List.mem_of_getElem? (i := 4) rfl, List.forall_mem_cons.mpr ⟨List.mem_of_getElem? (i := 5) rfl, fun _ h => absurd h List.not_mem_nil⟩⟩⟩⟩⟩) ?_
              rw [show nI j + Int32.ofInt 1 = nI (j + 1) from nI_1 j]
              exact go
        by_cases d0 : d = 0
        ·
          refine ab_iload_n X 1 d_MO_behind_7 rfl rfl ?_
          refine ab_if_gt X 26 d_MO_behind_8 rfl (fun hb => absurd hb ((by rw [d0]; decide))) (fun _ => ?_)
          refine ab_aload_n X 2 d_MO_behind_11 rfl rfl ?_
          refine ab_gR X fl_MO_57 d_MO_behind_12 (by first | assumption | decide | (show _ < 124; omega) | (show _ < 61; omega) | (show _ < 20; omega)) (P0.1.mo15) ?_
          refine ab_iload X 0 d_MO_behind_15 rfl ?_
          refine ab_iald X (j) ⟨rfl, rfl⟩ d_MO_behind_17 (by first | assumption | decide | (show _ < 124; omega) | (show _ < 61; omega) | (show _ < 20; omega)) (rfl) (show j < 7200 by omega) (ab_ln_lt _ _) ?_
          refine ab_top ey ?_
          refine ab_sipush (v := 1000) X d_MO_behind_18 (by decide) ?_
          refine ab_idiv X d_MO_behind_21 (by decide) ?_
          refine ab_top (div_nI by2) ?_
          refine ab_iload_n X 4 d_MO_behind_22 rfl rfl ?_
          refine ab_icmp_eq X 72 d_MO_behind_23 rfl (fun hb => absurd hb ((nI_ne (by omega) (by omega) (fun z => hit ⟨d0, z⟩)))) (fun _ => ?_)
          exact K26
        ·
          refine ab_iload_n X 1 d_MO_behind_7 rfl rfl ?_
          refine ab_if_gt X 26 d_MO_behind_8 rfl (fun _ => ?_) (fun hb => absurd ((nI_lt (a := 0) (by omega) (by omega))) hb)
          exact K26
  refine ab_iconst (v := 0) X d_MO_behind_0 (by decide) ?_
  refine ab_istore_n3 X 0 1 2 d_MO_behind_1 rfl (by decide) rfl rfl rfl rfl rfl rfl ?_
  refine ab_iload_n X 2 d_MO_behind_2 rfl rfl ?_
  refine ab_iconst (v := 1) X d_MO_behind_3 (by decide) ?_
  refine ab_iadd X d_MO_behind_4 ?_
  refine ab_top (nI_1 _) ?_
  refine ab_istore4 X 0 1 2 3 d_MO_behind_5 (by decide) rfl rfl rfl rfl rfl rfl rfl rfl ?_
  exact loop r (i + 1) 0 n rfl (by omega) hr hf rfl
end SaXRef

