/-! The class's machine, exactly. -/
/-- a stack in an array, the top first -/
def stk (u : ab_S) (c a : Nat) : List Nat → Prop
  | [] => True
  | v :: t => (u.1 c a t.length = nI v ∧ v < 2000) ∧ stk u c a t
theorem stk.cong {u u' : ab_S} {c a : Nat} : ∀ {l : List Nat}, stk u c a l → (∀ i, i < l.length → u'.1 c a i = u.1 c a i) → stk u' c a l := by
  intro l
  induction l with
  | nil => exact fun _ _ => trivial
  | cons v t ih => exact fun h k => ⟨⟨(k _ (Nat.lt_succ_self _)).trans h.1.1, h.1.2⟩, ih h.2 (fun i hi => k i (Nat.lt_succ_of_lt hi))⟩
theorem stk.hd {u : ab_S} {c a : Nat} {l : List Nat} (h : stk u c a l) : l.headD 0 < 2000 := by
  cases l with
  | nil => decide
  | cons v t => exact h.1.2
theorem stk.tl {u : ab_S} {c a : Nat} {l : List Nat} (h : stk u c a l) : stk u c a l.tail := by
  cases l with
  | nil => exact trivial
  | cons v t => exact h.2
/-- the class's machine: its stack and what lies aside -/
def cM (u : ab_S) (st sd : List Nat) : Prop := (u.1 7 0 2 = nI st.length ∧ stk u 15 0 st) ∧ u.1 7 0 3 = nI sd.length ∧ stk u 16 0 sd
theorem cM.cong {u u' : ab_S} {st sd : List Nat} (h : cM u st sd) (a : u'.1 7 0 2 = u.1 7 0 2) (b : u'.1 7 0 3 = u.1 7 0 3) (c : ∀ i, u'.1 15 0 i = u.1 15 0 i) (d : ∀ i, u'.1 16 0 i = u.1 16 0 i) : cM u' st sd := ⟨⟨a.trans h.1.1, h.1.2.cong (fun i _ => c i)⟩, b.trans h.2.1, h.2.2.cong (fun i _ => d i)⟩
theorem cM.ui {u : ab_S} {st sd : List Nat} {k : Nat} {v : Int32} (h : cM u st sd) (hk : k ≠ 2 ∧ k ≠ 3) : cM (ab_ui u 7 0 k v) st sd := h.cong (ui_n _ (by omega)) (ui_n _ (by omega)) (fun i => ui_n _ (by omega)) (fun i => ui_n _ (by omega))
theorem cM.push {u : ab_S} {st sd : List Nat} {v : Nat} (h : cM u st sd) (hv : v < 2000) : cM (ab_ui (ab_ui u 15 0 st.length (nI v)) 7 0 2 (nI (st.length + 1))) (v :: st) sd := ⟨⟨ui_s _, ⟨(ui_n _ (by omega)).trans (ui_s _), hv⟩, h.1.2.cong (fun i hi => (ui_n _ (by omega)).trans (ui_n _ (by omega)))⟩, (ui_n _ (by omega)).trans ((ui_n _ (by omega)).trans h.2.1), h.2.2.cong (fun i hi => (ui_n _ (by omega)).trans (ui_n _ (by omega)))⟩
theorem cM.aside {u : ab_S} {st sd : List Nat} {v : Nat} (h : cM u st sd) (hv : v < 2000) : cM (ab_ui (ab_ui u 16 0 sd.length (nI v)) 7 0 3 (nI (sd.length + 1))) st (v :: sd) := ⟨⟨(ui_n _ (by omega)).trans ((ui_n _ (by omega)).trans h.1.1), h.1.2.cong (fun i hi => (ui_n _ (by omega)).trans (ui_n _ (by omega)))⟩, ui_s _, ⟨(ui_n _ (by omega)).trans (ui_s _), hv⟩, h.2.2.cong (fun i hi => (ui_n _ (by omega)).trans (ui_n _ (by omega)))⟩
theorem cM.take {u : ab_S} {t sd : List Nat} {w : Nat} (h : cM u (w :: t) sd) : cM (ab_ui u 7 0 2 (nI t.length)) t sd := ⟨⟨ui_s _, h.1.2.2.cong (fun i hi => ui_n _ (by omega))⟩, (ui_n _ (by omega)).trans h.2.1, h.2.2.cong (fun i hi => ui_n _ (by omega))⟩
theorem cM.back {u : ab_S} {st t : List Nat} {w : Nat} (h : cM u st (w :: t)) : cM (ab_ui u 7 0 3 (nI t.length)) st t := ⟨⟨(ui_n _ (by omega)).trans h.1.1, h.1.2.cong (fun i hi => ui_n _ (by omega))⟩, ui_s _, h.2.2.2.cong (fun i hi => ui_n _ (by omega))⟩
/-- the place in the script stays too -/
def mZ (u u' : ab_S) : Prop := mQ u u' ∧ u'.1 7 0 4 = u.1 7 0 4
theorem mZ.trans {a b c : ab_S} (h : mZ a b) (g : mZ b c) : mZ a c := ⟨h.1.trans g.1 trivial, g.2.trans h.2⟩
theorem nI_n0 {n : Nat} (h : n < 2 ^ 31) (h0 : n ≠ 0) : ¬ nI n = 0 := fun q => h0 ((nI_eq (b := 0) h (by decide)).mp q)
theorem nI_ne {a b : Nat} (ha : a < 2 ^ 31) (hb : b < 2 ^ 31) (h : a ≠ b) : ¬ nI a = nI b := fun q => h ((nI_eq ha hb).mp q)
section SaXMach
variable {l : Launch} {D : va_G} {ca : Nat → ClassId}
set_option maxRecDepth 100000 in
set_option maxHeartbeats 1000000 in
theorem x_MA_push (u : ab_S) (v : Nat) (st sd : List Nat) (h : CI u) (C : cM u st sd) (hv : v < 2000) (hL : st.length < 168) : ab_C false l D ca y_MA_push b_MA_push 2 none 0 ab_nQ u [ab_O 7 0, ab_I (nI v)] (fun u' w => (mZ u u' ∧ cM u' (v :: st) sd ∧ u'.1 7 0 6 = u.1 7 0 6) ∧ w = none) := by
  refine ab_C.of (by decide) (Nat.le_of_ble_eq_true rfl) ?_
  intro p e s m args below meth c ad X hZ hr0 hlk
  have P0 : mQ u u := mQ.rf h
  have en := C.1.1
  refine ab_aload_n X 0 d_MA_push_0 rfl rfl ?_
  refine ab_gI X fl_MA_18 d_MA_push_1 (by first | assumption | decide | (show _ < 124; omega) | (show _ < 61; omega) | (show _ < 20; omega)) (en) ?_
  refine ab_aload_n X 0 d_MA_push_4 rfl rfl ?_
  refine ab_gR X fl_MA_9 d_MA_push_5 (by first | assumption | decide | (show _ < 124; omega) | (show _ < 61; omega) | (show _ < 20; omega)) (P0.1.ma0) ?_
  refine ab_alen X ⟨by decide, _, fun _ => rfl⟩ d_MA_push_8 (by first | assumption | decide | (show _ < 124; omega) | (show _ < 61; omega) | (show _ < 20; omega)) (rfl) ?_
  refine ab_icmp_ge X 32 d_MA_push_9 rfl (fun hb => absurd hb ((nI_ge (show st.length < ab_ln 15 0 from hL) (ab_ln_lt 15 0)))) (fun _ => ?_)
  refine ab_aload_n X 0 d_MA_push_12 rfl rfl ?_
  refine ab_gR X fl_MA_9 d_MA_push_13 (by first | assumption | decide | (show _ < 124; omega) | (show _ < 61; omega) | (show _ < 20; omega)) (P0.1.ma0) ?_
  refine ab_aload_n X 0 d_MA_push_16 rfl rfl ?_
  refine ab_gI X fl_MA_18 d_MA_push_17 (by first | assumption | decide | (show _ < 124; omega) | (show _ < 61; omega) | (show _ < 20; omega)) (en) ?_
  refine ab_iload_n X 1 d_MA_push_20 rfl rfl ?_
  refine ab_iast X (st.length) ⟨rfl, rfl⟩ d_MA_push_21 (by first | assumption | decide | (show _ < 124; omega) | (show _ < 61; omega) | (show _ < 20; omega)) (rfl) (hL) (ab_ln_lt _ _) ?_
  refine ab_gen (fun u21 e21 => ?_)
  have P21 : mQ u u21 := by rw [e21]; exact P0.ui rfl (by decide)
  refine ab_aload_n X 0 d_MA_push_22 rfl rfl ?_
  refine ab_dup X d_MA_push_23 rfl ?_
  refine ab_gI X fl_MA_18 d_MA_push_24 (by first | assumption | decide | (show _ < 124; omega) | (show _ < 61; omega) | (show _ < 20; omega)) ((show _ = nI st.length by rw [e21]; exact (ui_n _ (by omega)).trans en)) ?_
  refine ab_iconst (v := 1) X d_MA_push_27 (by decide) ?_
  refine ab_iadd X d_MA_push_28 ?_
  refine ab_top (nI_1 _) ?_
  refine ab_putI X fp_MA_18 d_MA_push_29 (by first | assumption | decide | (show _ < 124; omega) | (show _ < 61; omega) | (show _ < 20; omega)) rfl rfl ?_
  refine ab_gen (fun u29 e29 => ?_)
  have P29 : mQ u u29 := by rw [e29]; exact P21.m2 (by omega)
  exact ab_retv X hr0 hlk d_MA_push_32 ⟨⟨⟨P29, by rw [e29, e21]; exact (ui_n _ (by omega)).trans (ui_n _ (by omega))⟩, by rw [e29, e21]; exact C.push hv, by rw [e29, e21]; exact (ui_n _ (by omega)).trans (ui_n _ (by omega))⟩, rfl⟩
set_option maxRecDepth 100000 in
set_option maxHeartbeats 1000000 in
theorem x_MA_pushX (u : ab_S) (x : Int32) (st sd : List Nat) (h : CI u) (C : cM u st sd) (hL : st.length < 168) : ab_C false l D ca y_MA_push b_MA_push 2 none 0 ab_nQ u [ab_O 7 0, ab_I x] (fun u' w => (mZ u u' ∧ u'.1 7 0 6 = u.1 7 0 6) ∧ w = none) := by
  refine ab_C.of (by decide) (Nat.le_of_ble_eq_true rfl) ?_
  intro p e s m args below meth c ad X hZ hr0 hlk
  have P0 : mQ u u := mQ.rf h
  have en := C.1.1
  refine ab_aload_n X 0 d_MA_push_0 rfl rfl ?_
  refine ab_gI X fl_MA_18 d_MA_push_1 (by first | assumption | decide | (show _ < 124; omega) | (show _ < 61; omega) | (show _ < 20; omega)) (en) ?_
  refine ab_aload_n X 0 d_MA_push_4 rfl rfl ?_
  refine ab_gR X fl_MA_9 d_MA_push_5 (by first | assumption | decide | (show _ < 124; omega) | (show _ < 61; omega) | (show _ < 20; omega)) (P0.1.ma0) ?_
  refine ab_alen X ⟨by decide, _, fun _ => rfl⟩ d_MA_push_8 (by first | assumption | decide | (show _ < 124; omega) | (show _ < 61; omega) | (show _ < 20; omega)) (rfl) ?_
  refine ab_icmp_ge X 32 d_MA_push_9 rfl (fun hb => absurd hb ((nI_ge (show st.length < ab_ln 15 0 from hL) (ab_ln_lt 15 0)))) (fun _ => ?_)
  refine ab_aload_n X 0 d_MA_push_12 rfl rfl ?_
  refine ab_gR X fl_MA_9 d_MA_push_13 (by first | assumption | decide | (show _ < 124; omega) | (show _ < 61; omega) | (show _ < 20; omega)) (P0.1.ma0) ?_
  refine ab_aload_n X 0 d_MA_push_16 rfl rfl ?_
  refine ab_gI X fl_MA_18 d_MA_push_17 (by first | assumption | decide | (show _ < 124; omega) | (show _ < 61; omega) | (show _ < 20; omega)) (en) ?_
  refine ab_iload_n X 1 d_MA_push_20 rfl rfl ?_
  refine ab_iast X (st.length) ⟨rfl, rfl⟩ d_MA_push_21 (by first | assumption | decide | (show _ < 124; omega) | (show _ < 61; omega) | (show _ < 20; omega)) (rfl) (hL) (ab_ln_lt _ _) ?_
  refine ab_gen (fun u21 e21 => ?_)
  have P21 : mQ u u21 := by rw [e21]; exact P0.ui rfl (by decide)
  refine ab_aload_n X 0 d_MA_push_22 rfl rfl ?_
  refine ab_dup X d_MA_push_23 rfl ?_
  refine ab_gI X fl_MA_18 d_MA_push_24 (by first | assumption | decide | (show _ < 124; omega) | (show _ < 61; omega) | (show _ < 20; omega)) ((show _ = nI st.length by rw [e21]; exact (ui_n _ (by omega)).trans en)) ?_
  refine ab_iconst (v := 1) X d_MA_push_27 (by decide) ?_
  refine ab_iadd X d_MA_push_28 ?_
  refine ab_top (nI_1 _) ?_
  refine ab_putI X fp_MA_18 d_MA_push_29 (by first | assumption | decide | (show _ < 124; omega) | (show _ < 61; omega) | (show _ < 20; omega)) rfl rfl ?_
  refine ab_gen (fun u29 e29 => ?_)
  have P29 : mQ u u29 := by rw [e29]; exact P21.m2 (by omega)
  exact ab_retv X hr0 hlk d_MA_push_32 ⟨⟨⟨P29, by rw [e29, e21]; exact (ui_n _ (by omega)).trans (ui_n _ (by omega))⟩, by rw [e29, e21]; exact (ui_n _ (by omega)).trans (ui_n _ (by omega))⟩, rfl⟩
set_option maxRecDepth 100000 in
set_option maxHeartbeats 1000000 in
theorem x_MA_pushAside (u : ab_S) (v : Nat) (st sd : List Nat) (h : CI u) (C : cM u st sd) (hv : v < 2000) (hL : sd.length < 128) : ab_C false l D ca y_MA_pushAside b_MA_pushAside 2 none 0 ab_nQ u [ab_O 7 0, ab_I (nI v)] (fun u' w => (mZ u u' ∧ cM u' st (v :: sd) ∧ u'.1 7 0 6 = u.1 7 0 6) ∧ w = none) := by
  refine ab_C.of (by decide) (Nat.le_of_ble_eq_true rfl) ?_
  intro p e s m args below meth c ad X hZ hr0 hlk
  have P0 : mQ u u := mQ.rf h
  have en := C.2.1
  refine ab_aload_n X 0 d_MA_pushAside_0 rfl rfl ?_
  refine ab_gI X fl_MA_22 d_MA_pushAside_1 (by first | assumption | decide | (show _ < 124; omega) | (show _ < 61; omega) | (show _ < 20; omega)) (en) ?_
  refine ab_aload_n X 0 d_MA_pushAside_4 rfl rfl ?_
  refine ab_gR X fl_MA_15 d_MA_pushAside_5 (by first | assumption | decide | (show _ < 124; omega) | (show _ < 61; omega) | (show _ < 20; omega)) (P0.1.ma1) ?_
  refine ab_alen X ⟨by decide, _, fun _ => rfl⟩ d_MA_pushAside_8 (by first | assumption | decide | (show _ < 124; omega) | (show _ < 61; omega) | (show _ < 20; omega)) (rfl) ?_
  refine ab_icmp_ge X 32 d_MA_pushAside_9 rfl (fun hb => absurd hb ((nI_ge (show sd.length < ab_ln 16 0 from hL) (ab_ln_lt 16 0)))) (fun _ => ?_)
  refine ab_aload_n X 0 d_MA_pushAside_12 rfl rfl ?_
  refine ab_gR X fl_MA_15 d_MA_pushAside_13 (by first | assumption | decide | (show _ < 124; omega) | (show _ < 61; omega) | (show _ < 20; omega)) (P0.1.ma1) ?_
  refine ab_aload_n X 0 d_MA_pushAside_16 rfl rfl ?_
  refine ab_gI X fl_MA_22 d_MA_pushAside_17 (by first | assumption | decide | (show _ < 124; omega) | (show _ < 61; omega) | (show _ < 20; omega)) (en) ?_
  refine ab_iload_n X 1 d_MA_pushAside_20 rfl rfl ?_
  refine ab_iast X (sd.length) ⟨rfl, rfl⟩ d_MA_pushAside_21 (by first | assumption | decide | (show _ < 124; omega) | (show _ < 61; omega) | (show _ < 20; omega)) (rfl) (hL) (ab_ln_lt _ _) ?_
  refine ab_gen (fun u21 e21 => ?_)
  have P21 : mQ u u21 := by rw [e21]; exact P0.ui rfl (by decide)
  refine ab_aload_n X 0 d_MA_pushAside_22 rfl rfl ?_
  refine ab_dup X d_MA_pushAside_23 rfl ?_
  refine ab_gI X fl_MA_22 d_MA_pushAside_24 (by first | assumption | decide | (show _ < 124; omega) | (show _ < 61; omega) | (show _ < 20; omega)) ((show _ = nI sd.length by rw [e21]; exact (ui_n _ (by omega)).trans en)) ?_
  refine ab_iconst (v := 1) X d_MA_pushAside_27 (by decide) ?_
  refine ab_iadd X d_MA_pushAside_28 ?_
  refine ab_top (nI_1 _) ?_
  refine ab_putI X fp_MA_22 d_MA_pushAside_29 (by first | assumption | decide | (show _ < 124; omega) | (show _ < 61; omega) | (show _ < 20; omega)) rfl rfl ?_
  refine ab_gen (fun u29 e29 => ?_)
  have P29 : mQ u u29 := by rw [e29]; exact P21.m3 (by omega)
  exact ab_retv X hr0 hlk d_MA_pushAside_32 ⟨⟨⟨P29, by rw [e29, e21]; exact (ui_n _ (by omega)).trans (ui_n _ (by omega))⟩, by rw [e29, e21]; exact C.aside hv, by rw [e29, e21]; exact (ui_n _ (by omega)).trans (ui_n _ (by omega))⟩, rfl⟩
set_option maxRecDepth 100000 in
set_option maxHeartbeats 1000000 in
theorem x_MA_take (u : ab_S) (st sd : List Nat) (h : CI u) (C : cM u st sd) (hL : st.length ≤ 168) : ab_C false l D ca y_MA_take b_MA_take 1 (some FieldType.int) 0 ab_nQ u [ab_O 7 0] (fun u' w => (mZ u u' ∧ cM u' st.tail sd ∧ u'.1 7 0 6 = (if st = [] then 1 else u.1 7 0 6)) ∧ w = some (ab_I (nI (st.headD 0)))) := by
  refine ab_C.of (by decide) (Nat.le_of_ble_eq_true rfl) ?_
  intro p e s m args below meth c ad X hZ hr0 hlk
  have P0 : mQ u u := mQ.rf h
  have en := C.1.1
  cases st with
  | nil =>
    refine ab_aload_n X 0 d_MA_take_0 rfl rfl ?_
    refine ab_gI X fl_MA_18 d_MA_take_1 (by first | assumption | decide | (show _ < 124; omega) | (show _ < 61; omega) | (show _ < 20; omega)) (en) ?_
    refine ab_if_ne X 14 d_MA_take_4 rfl (fun hb => absurd ((show nI ([] : List Nat).length = 0 from rfl)) hb) (fun _ => ?_)
    refine ab_aload_n X 0 d_MA_take_7 rfl rfl ?_
    refine ab_iconst (v := 1) X d_MA_take_8 (by decide) ?_
    refine ab_putI X fp_MA_31 d_MA_take_9 (by first | assumption | decide | (show _ < 124; omega) | (show _ < 61; omega) | (show _ < 20; omega)) rfl rfl ?_
    refine ab_gen (fun u9 e9 => ?_)
    have P9 : mQ u u9 := by rw [e9]; exact P0.ui rfl (by decide)
    refine ab_iconst (v := 0) X d_MA_take_12 (by decide) ?_
    exact ab_reti X hr0 hlk d_MA_take_13 ⟨⟨⟨P9, by rw [e9]; exact ui_n _ (by omega)⟩, by rw [e9]; exact C.ui (by decide), by rw [e9, if_pos rfl]; exact ui_s _⟩, rfl⟩
  | cons w t =>
    have hL : t.length < 168 := hL
    refine ab_aload_n X 0 d_MA_take_0 rfl rfl ?_
    refine ab_gI X fl_MA_18 d_MA_take_1 (by first | assumption | decide | (show _ < 124; omega) | (show _ < 61; omega) | (show _ < 20; omega)) (en) ?_
    refine ab_if_ne X 14 d_MA_take_4 rfl (fun _ => ?_) (fun hb => absurd hb ((nI_n0 (by show t.length + 1 < _; omega) (Nat.succ_ne_zero _))))
    refine ab_aload_n X 0 d_MA_take_14 rfl rfl ?_
    refine ab_dup X d_MA_take_15 rfl ?_
    refine ab_gI X fl_MA_18 d_MA_take_16 (by first | assumption | decide | (show _ < 124; omega) | (show _ < 61; omega) | (show _ < 20; omega)) (en) ?_
    refine ab_iconst (v := 1) X d_MA_take_19 (by decide) ?_
    refine ab_isub X d_MA_take_20 ?_
    refine ab_top (nI_p1 t.length) ?_
    refine ab_putI X fp_MA_18 d_MA_take_21 (by first | assumption | decide | (show _ < 124; omega) | (show _ < 61; omega) | (show _ < 20; omega)) rfl rfl ?_
    refine ab_gen (fun u21 e21 => ?_)
    have P21 : mQ u u21 := by rw [e21]; exact P0.m2 (by omega)
    refine ab_aload_n X 0 d_MA_take_24 rfl rfl ?_
    refine ab_gR X fl_MA_9 d_MA_take_25 (by first | assumption | decide | (show _ < 124; omega) | (show _ < 61; omega) | (show _ < 20; omega)) (P21.1.ma0) ?_
    refine ab_aload_n X 0 d_MA_take_28 rfl rfl ?_
    refine ab_gI X fl_MA_18 d_MA_take_29 (by first | assumption | decide | (show _ < 124; omega) | (show _ < 61; omega) | (show _ < 20; omega)) ((show _ = nI t.length by rw [e21]; exact ui_s _)) ?_
    refine ab_iald X (t.length) ⟨rfl, rfl⟩ d_MA_take_32 (by first | assumption | decide | (show _ < 124; omega) | (show _ < 61; omega) | (show _ < 20; omega)) (rfl) (hL) (ab_ln_lt _ _) ?_
    refine ab_top (show _ = nI w by rw [e21]; exact (ui_n _ (by omega)).trans C.1.2.1.1) ?_
    exact ab_reti X hr0 hlk d_MA_take_33 ⟨⟨⟨P21, by rw [e21]; exact ui_n _ (by omega)⟩, by rw [e21]; exact C.take, by rw [e21, if_neg (List.cons_ne_nil _ _)]; exact ui_n _ (by omega)⟩, rfl⟩
set_option maxRecDepth 100000 in
set_option maxHeartbeats 1000000 in
theorem x_MA_takeBack (u : ab_S) (st sd : List Nat) (h : CI u) (C : cM u st sd) (hL : sd.length ≤ 128) : ab_C false l D ca y_MA_takeBack b_MA_takeBack 1 (some FieldType.int) 0 ab_nQ u [ab_O 7 0] (fun u' w => (mZ u u' ∧ cM u' st sd.tail ∧ u'.1 7 0 6 = (if sd = [] then 1 else u.1 7 0 6)) ∧ w = some (ab_I (nI (sd.headD 0)))) := by
  refine ab_C.of (by decide) (Nat.le_of_ble_eq_true rfl) ?_
  intro p e s m args below meth c ad X hZ hr0 hlk
  have P0 : mQ u u := mQ.rf h
  have en := C.2.1
  cases sd with
  | nil =>
    refine ab_aload_n X 0 d_MA_takeBack_0 rfl rfl ?_
    refine ab_gI X fl_MA_22 d_MA_takeBack_1 (by first | assumption | decide | (show _ < 124; omega) | (show _ < 61; omega) | (show _ < 20; omega)) (en) ?_
    refine ab_if_ne X 14 d_MA_takeBack_4 rfl (fun hb => absurd ((show nI ([] : List Nat).length = 0 from rfl)) hb) (fun _ => ?_)
    refine ab_aload_n X 0 d_MA_takeBack_7 rfl rfl ?_
    refine ab_iconst (v := 1) X d_MA_takeBack_8 (by decide) ?_
    refine ab_putI X fp_MA_31 d_MA_takeBack_9 (by first | assumption | decide | (show _ < 124; omega) | (show _ < 61; omega) | (show _ < 20; omega)) rfl rfl ?_
    refine ab_gen (fun u9 e9 => ?_)
    have P9 : mQ u u9 := by rw [e9]; exact P0.ui rfl (by decide)
    refine ab_iconst (v := 0) X d_MA_takeBack_12 (by decide) ?_
    exact ab_reti X hr0 hlk d_MA_takeBack_13 ⟨⟨⟨P9, by rw [e9]; exact ui_n _ (by omega)⟩, by rw [e9]; exact C.ui (by decide), by rw [e9, if_pos rfl]; exact ui_s _⟩, rfl⟩
  | cons w t =>
    have hL : t.length < 128 := hL
    refine ab_aload_n X 0 d_MA_takeBack_0 rfl rfl ?_
    refine ab_gI X fl_MA_22 d_MA_takeBack_1 (by first | assumption | decide | (show _ < 124; omega) | (show _ < 61; omega) | (show _ < 20; omega)) (en) ?_
    refine ab_if_ne X 14 d_MA_takeBack_4 rfl (fun _ => ?_) (fun hb => absurd hb ((nI_n0 (by show t.length + 1 < _; omega) (Nat.succ_ne_zero _))))
    refine ab_aload_n X 0 d_MA_takeBack_14 rfl rfl ?_
    refine ab_dup X d_MA_takeBack_15 rfl ?_
    refine ab_gI X fl_MA_22 d_MA_takeBack_16 (by first | assumption | decide | (show _ < 124; omega) | (show _ < 61; omega) | (show _ < 20; omega)) (en) ?_
    refine ab_iconst (v := 1) X d_MA_takeBack_19 (by decide) ?_
    refine ab_isub X d_MA_takeBack_20 ?_
    refine ab_top (nI_p1 t.length) ?_
    refine ab_putI X fp_MA_22 d_MA_takeBack_21 (by first | assumption | decide | (show _ < 124; omega) | (show _ < 61; omega) | (show _ < 20; omega)) rfl rfl ?_
    refine ab_gen (fun u21 e21 => ?_)
    have P21 : mQ u u21 := by rw [e21]; exact P0.m3 (by omega)
    refine ab_aload_n X 0 d_MA_takeBack_24 rfl rfl ?_
    refine ab_gR X fl_MA_15 d_MA_takeBack_25 (by first | assumption | decide | (show _ < 124; omega) | (show _ < 61; omega) | (show _ < 20; omega)) (P21.1.ma1) ?_
    refine ab_aload_n X 0 d_MA_takeBack_28 rfl rfl ?_
    refine ab_gI X fl_MA_22 d_MA_takeBack_29 (by first | assumption | decide | (show _ < 124; omega) | (show _ < 61; omega) | (show _ < 20; omega)) ((show _ = nI t.length by rw [e21]; exact ui_s _)) ?_
    refine ab_iald X (t.length) ⟨rfl, rfl⟩ d_MA_takeBack_32 (by first | assumption | decide | (show _ < 124; omega) | (show _ < 61; omega) | (show _ < 20; omega)) (rfl) (hL) (ab_ln_lt _ _) ?_
    refine ab_top (show _ = nI w by rw [e21]; exact (ui_n _ (by omega)).trans C.2.2.1.1) ?_
    exact ab_reti X hr0 hlk d_MA_takeBack_33 ⟨⟨⟨P21, by rw [e21]; exact ui_n _ (by omega)⟩, by rw [e21]; exact C.back, by rw [e21, if_neg (List.cons_ne_nil _ _)]; exact ui_n _ (by omega)⟩, rfl⟩
set_option maxRecDepth 100000 in
set_option maxHeartbeats 1000000 in
theorem x_MA_takeNumber (u : ab_S) (st sd : List Nat) (h : CI u) (C : cM u st sd) (hL : st.length ≤ 168) : ab_C false l D ca y_MA_takeNumber b_MA_takeNumber 2 (some FieldType.int) 1 ab_nQ u [ab_O 7 0] (fun u' w => (mZ u u' ∧ cM u' st.tail sd ∧ u'.1 7 0 6 = (if st = [] ∨ 9 < st.headD 0 then 1 else u.1 7 0 6)) ∧ w = some (ab_I (nI (st.headD 0)))) := by
  refine ab_C.of (by decide) (Nat.le_of_ble_eq_true rfl) ?_
  intro p e s m args below meth c ad X hZ hr0 hlk
  have P0 : mQ u u := mQ.rf h
  have hd := C.1.2.hd
  by_cases q : 9 < st.headD 0
  ·
    refine ab_aload_n X 0 d_MA_takeNumber_0 rfl rfl ?_
    refine ab_callV (as := []) X (fun h => by cases h) (x_MA_take u st sd h C hL) lk_MA_64 d_MA_takeNumber_1 rfl rfl (by first | assumption | decide | (show _ < 124; omega) | (show _ < 61; omega) | (show _ < 20; omega)) ⟨by first | exact Nat.le_of_ble_eq_true rfl | (simp only [ab_rm]; omega), by first | exact Nat.le_of_ble_eq_true rfl | (simp only [ab_rm]; omega)⟩ ⟨by first | exact Nat.le_of_ble_eq_true rfl | (simp only [ab_rm]; omega), by first | exact Nat.le_of_ble_eq_true rfl | (simp only [ab_rm]; omega)⟩ (Nat.le_of_ble_eq_true rfl) (fun u1 r1 h1 => ?_)
    obtain ⟨⟨z1, c1, f1⟩, rfl⟩ := h1
    have q1 := z1.1
    have P1 := P0.trans q1 (by decide)
    refine ab_istore_n1 X 0 d_MA_takeNumber_4 rfl (by decide) rfl rfl ?_
    refine ab_iload_n X 0 d_MA_takeNumber_5 rfl rfl ?_
    refine ab_bipush (v := 10) X d_MA_takeNumber_6 (by decide) ?_
    refine ab_icmp_lt X 16 d_MA_takeNumber_8 rfl (fun hb => absurd hb ((nI_nlt (b := 10) (by omega) (by omega)))) (fun _ => ?_)
    refine ab_aload_n X 1 d_MA_takeNumber_11 rfl rfl ?_
    refine ab_iconst (v := 1) X d_MA_takeNumber_12 (by decide) ?_
    refine ab_putI X fp_MA_31 d_MA_takeNumber_13 (by first | assumption | decide | (show _ < 124; omega) | (show _ < 61; omega) | (show _ < 20; omega)) rfl rfl ?_
    refine ab_gen (fun u13 e13 => ?_)
    have P13 : mQ u u13 := by rw [e13]; exact P1.ui rfl (by decide)
    refine ab_iload_n X 0 d_MA_takeNumber_16 rfl rfl ?_
    exact ab_reti X hr0 hlk d_MA_takeNumber_17 ⟨⟨⟨P13, by rw [e13]; exact (ui_n _ (by omega)).trans z1.2⟩, by rw [e13]; exact c1.ui (by decide), by rw [e13, if_pos (Or.inr q)]; exact ui_s _⟩, rfl⟩
  ·
    refine ab_aload_n X 0 d_MA_takeNumber_0 rfl rfl ?_
    refine ab_callV (as := []) X (fun h => by cases h) (x_MA_take u st sd h C hL) lk_MA_64 d_MA_takeNumber_1 rfl rfl (by first | assumption | decide | (show _ < 124; omega) | (show _ < 61; omega) | (show _ < 20; omega)) ⟨by first | exact Nat.le_of_ble_eq_true rfl | (simp only [ab_rm]; omega), by first | exact Nat.le_of_ble_eq_true rfl | (simp only [ab_rm]; omega)⟩ ⟨by first | exact Nat.le_of_ble_eq_true rfl | (simp only [ab_rm]; omega), by first | exact Nat.le_of_ble_eq_true rfl | (simp only [ab_rm]; omega)⟩ (Nat.le_of_ble_eq_true rfl) (fun u1 r1 h1 => ?_)
    obtain ⟨⟨z1, c1, f1⟩, rfl⟩ := h1
    have q1 := z1.1
    have P1 := P0.trans q1 (by decide)
    refine ab_istore_n1 X 0 d_MA_takeNumber_4 rfl (by decide) rfl rfl ?_
    refine ab_iload_n X 0 d_MA_takeNumber_5 rfl rfl ?_
    refine ab_bipush (v := 10) X d_MA_takeNumber_6 (by decide) ?_
    refine ab_icmp_lt X 16 d_MA_takeNumber_8 rfl (fun _ => ?_) (fun hb => absurd ((nI_lt (b := 10) (by omega) (by decide))) hb)
    refine ab_iload_n X 0 d_MA_takeNumber_16 rfl rfl ?_
    exact ab_reti X hr0 hlk d_MA_takeNumber_17 ⟨⟨z1, c1, f1.trans (by by_cases y : st = []; (rw [if_pos y, if_pos (Or.inl y)]); rw [if_neg y, if_neg (by rintro (z | z); exact y z; exact q z)])⟩, rfl⟩
theorem jnd_b0 {o a : Nat} (ha : a < 2000) : jnd o a 0 < 2000 := by
  unfold jnd
  repeat' split
  all_goals omega
theorem jnd_lt {o a b : Nat} (ha : a ≤ 9) (hb : b ≤ 9) : jnd o a b < 2000 := by
  unfold jnd
  repeat' split
  all_goals omega
set_option maxRecDepth 100000 in
set_option maxHeartbeats 1000000 in
theorem t_MA_joinedF (u : ab_S) (o a b : Nat) (h : CI u) (ho : o = 6 ∨ o = 7 ∨ o = 8) (ha : a < 2000) (hb : b < 2000) : ab_C false l D ca y_MA_joined b_MA_joined 5 (some FieldType.int) 0 ab_nQ u [ab_I (nI o), ab_I (nI a), ab_I (nI b)] (fun u' v => u' = u ∧ v = some (ab_I (nI (jnd o a b)))) := by
  refine ab_C.of (by decide) (Nat.le_of_ble_eq_true rfl) ?_
  intro p e s m args below meth c ad X hZ hr0 hlk
  have P0 : mQ u u := mQ.rf h
  rcases ho with rfl | rfl | rfl
  · by_cases a0 : a = 0
    · subst a0
      refine ab_iload_n X 0 d_MA_joined_0 rfl rfl ?_
      refine ab_bipush (v := 8) X d_MA_joined_1 (by decide) ?_
      refine ab_icmp_ne X 10 d_MA_joined_3 rfl (fun _ => ?_) (fun hb => absurd hb ((by decide)))
      refine ab_iload_n X 1 d_MA_joined_10 rfl rfl ?_
      refine ab_if_eq X 22 d_MA_joined_11 rfl (fun _ => ?_) (fun hb => absurd (rfl) hb)
      refine ab_iconst (v := 0) X d_MA_joined_22 (by decide) ?_
      refine ab_istore_n3 X 0 1 2 d_MA_joined_23 rfl (by decide) rfl rfl rfl rfl rfl rfl ?_
      refine ab_iload_n X 2 d_MA_joined_24 rfl rfl ?_
      refine ab_if_ne X 32 d_MA_joined_25 rfl (fun hb => absurd (rfl) hb) (fun _ => ?_)
      refine ab_iload_n X 3 d_MA_joined_28 rfl rfl ?_
      refine ab_if_eq X 36 d_MA_joined_29 rfl (fun h29 => ?_) (fun h29 => ?_)
      ·
        refine ab_iconst (v := 0) X d_MA_joined_36 (by decide) ?_
        refine ab_istore4 X 0 1 2 3 d_MA_joined_37 (by decide) rfl rfl rfl rfl rfl rfl rfl rfl ?_
        refine ab_iload_n X 2 d_MA_joined_39 rfl rfl ?_
        refine ab_bipush (v := 6) X d_MA_joined_40 (by decide) ?_
        refine ab_icmp_ne X 52 d_MA_joined_42 rfl (fun hb => absurd (rfl) hb) (fun _ => ?_)
        refine ab_iload_n X 1 d_MA_joined_45 rfl rfl ?_
        refine ab_if_eq X 61 d_MA_joined_46 rfl (fun _ => ?_) (fun hb => absurd (rfl) hb)
        refine ab_iconst (v := 0) X d_MA_joined_61 (by decide) ?_
        exact ab_reti X hr0 hlk d_MA_joined_62 ⟨rfl, congrArg (fun z => some (ab_I (nI z))) (show 0 = jnd 6 0 b by simp [jnd])⟩
      ·
        refine ab_iconst (v := 1) X d_MA_joined_32 (by decide) ?_
        refine ab_goto X 37 d_MA_joined_33 rfl ?_
        refine ab_istore4 X 0 1 2 3 d_MA_joined_37 (by decide) rfl rfl rfl rfl rfl rfl rfl rfl ?_
        refine ab_iload_n X 2 d_MA_joined_39 rfl rfl ?_
        refine ab_bipush (v := 6) X d_MA_joined_40 (by decide) ?_
        refine ab_icmp_ne X 52 d_MA_joined_42 rfl (fun hb => absurd (rfl) hb) (fun _ => ?_)
        refine ab_iload_n X 1 d_MA_joined_45 rfl rfl ?_
        refine ab_if_eq X 61 d_MA_joined_46 rfl (fun _ => ?_) (fun hb => absurd (rfl) hb)
        refine ab_iconst (v := 0) X d_MA_joined_61 (by decide) ?_
        exact ab_reti X hr0 hlk d_MA_joined_62 ⟨rfl, congrArg (fun z => some (ab_I (nI z))) (show 0 = jnd 6 0 b by simp [jnd])⟩
    · by_cases b0 : b = 0
      · subst b0
        refine ab_iload_n X 0 d_MA_joined_0 rfl rfl ?_
        refine ab_bipush (v := 8) X d_MA_joined_1 (by decide) ?_
        refine ab_icmp_ne X 10 d_MA_joined_3 rfl (fun _ => ?_) (fun hb => absurd hb ((by decide)))
        refine ab_iload_n X 1 d_MA_joined_10 rfl rfl ?_
        refine ab_if_eq X 22 d_MA_joined_11 rfl (fun hb => absurd hb ((nI_n0 (by omega) a0))) (fun _ => ?_)
        refine ab_iload_n X 2 d_MA_joined_14 rfl rfl ?_
        refine ab_if_eq X 22 d_MA_joined_15 rfl (fun _ => ?_) (fun hb => absurd (rfl) hb)
        refine ab_iconst (v := 0) X d_MA_joined_22 (by decide) ?_
        refine ab_istore_n3 X 0 1 2 d_MA_joined_23 rfl (by decide) rfl rfl rfl rfl rfl rfl ?_
        refine ab_iload_n X 2 d_MA_joined_24 rfl rfl ?_
        refine ab_if_ne X 32 d_MA_joined_25 rfl (fun _ => ?_) (fun hb => absurd hb ((nI_n0 (by omega) a0)))
        refine ab_iconst (v := 1) X d_MA_joined_32 (by decide) ?_
        refine ab_goto X 37 d_MA_joined_33 rfl ?_
        refine ab_istore4 X 0 1 2 3 d_MA_joined_37 (by decide) rfl rfl rfl rfl rfl rfl rfl rfl ?_
        refine ab_iload_n X 2 d_MA_joined_39 rfl rfl ?_
        refine ab_bipush (v := 6) X d_MA_joined_40 (by decide) ?_
        refine ab_icmp_ne X 52 d_MA_joined_42 rfl (fun hb => absurd (rfl) hb) (fun _ => ?_)
        refine ab_iload_n X 1 d_MA_joined_45 rfl rfl ?_
        refine ab_if_eq X 61 d_MA_joined_46 rfl (fun _ => ?_) (fun hb => absurd (rfl) hb)
        refine ab_iconst (v := 0) X d_MA_joined_61 (by decide) ?_
        exact ab_reti X hr0 hlk d_MA_joined_62 ⟨rfl, congrArg (fun z => some (ab_I (nI z))) (show 0 = jnd 6 a 0 by simp [jnd])⟩
      ·
        refine ab_iload_n X 0 d_MA_joined_0 rfl rfl ?_
        refine ab_bipush (v := 8) X d_MA_joined_1 (by decide) ?_
        refine ab_icmp_ne X 10 d_MA_joined_3 rfl (fun _ => ?_) (fun hb => absurd hb ((by decide)))
        refine ab_iload_n X 1 d_MA_joined_10 rfl rfl ?_
        refine ab_if_eq X 22 d_MA_joined_11 rfl (fun hb => absurd hb ((nI_n0 (by omega) a0))) (fun _ => ?_)
        refine ab_iload_n X 2 d_MA_joined_14 rfl rfl ?_
        refine ab_if_eq X 22 d_MA_joined_15 rfl (fun hb => absurd hb ((nI_n0 (by omega) b0))) (fun _ => ?_)
        refine ab_iconst (v := 1) X d_MA_joined_18 (by decide) ?_
        refine ab_goto X 23 d_MA_joined_19 rfl ?_
        refine ab_istore_n3 X 0 1 2 d_MA_joined_23 rfl (by decide) rfl rfl rfl rfl rfl rfl ?_
        refine ab_iload_n X 2 d_MA_joined_24 rfl rfl ?_
        refine ab_if_ne X 32 d_MA_joined_25 rfl (fun _ => ?_) (fun hb => absurd hb ((nI_n0 (by omega) a0)))
        refine ab_iconst (v := 1) X d_MA_joined_32 (by decide) ?_
        refine ab_goto X 37 d_MA_joined_33 rfl ?_
        refine ab_istore4 X 0 1 2 3 d_MA_joined_37 (by decide) rfl rfl rfl rfl rfl rfl rfl rfl ?_
        refine ab_iload_n X 2 d_MA_joined_39 rfl rfl ?_
        refine ab_bipush (v := 6) X d_MA_joined_40 (by decide) ?_
        refine ab_icmp_ne X 52 d_MA_joined_42 rfl (fun hb => absurd (rfl) hb) (fun _ => ?_)
        refine ab_iload_n X 1 d_MA_joined_45 rfl rfl ?_
        refine ab_if_eq X 61 d_MA_joined_46 rfl (fun hb => absurd hb ((by decide))) (fun _ => ?_)
        refine ab_goto X 57 d_MA_joined_49 rfl ?_
        refine ab_iconst (v := 1) X d_MA_joined_57 (by decide) ?_
        refine ab_goto X 62 d_MA_joined_58 rfl ?_
        exact ab_reti X hr0 hlk d_MA_joined_62 ⟨rfl, congrArg (fun z => some (ab_I (nI z))) (show 1 = jnd 6 a b by simp [jnd, a0, b0])⟩
  · by_cases a0 : a = 0
    · subst a0
      by_cases b0 : b = 0
      · subst b0
        refine ab_iload_n X 0 d_MA_joined_0 rfl rfl ?_
        refine ab_bipush (v := 8) X d_MA_joined_1 (by decide) ?_
        refine ab_icmp_ne X 10 d_MA_joined_3 rfl (fun _ => ?_) (fun hb => absurd hb ((by decide)))
        refine ab_iload_n X 1 d_MA_joined_10 rfl rfl ?_
        refine ab_if_eq X 22 d_MA_joined_11 rfl (fun _ => ?_) (fun hb => absurd (rfl) hb)
        refine ab_iconst (v := 0) X d_MA_joined_22 (by decide) ?_
        refine ab_istore_n3 X 0 1 2 d_MA_joined_23 rfl (by decide) rfl rfl rfl rfl rfl rfl ?_
        refine ab_iload_n X 2 d_MA_joined_24 rfl rfl ?_
        refine ab_if_ne X 32 d_MA_joined_25 rfl (fun hb => absurd (rfl) hb) (fun _ => ?_)
        refine ab_iload_n X 3 d_MA_joined_28 rfl rfl ?_
        refine ab_if_eq X 36 d_MA_joined_29 rfl (fun _ => ?_) (fun hb => absurd (rfl) hb)
        refine ab_iconst (v := 0) X d_MA_joined_36 (by decide) ?_
        refine ab_istore4 X 0 1 2 3 d_MA_joined_37 (by decide) rfl rfl rfl rfl rfl rfl rfl rfl ?_
        refine ab_iload_n X 2 d_MA_joined_39 rfl rfl ?_
        refine ab_bipush (v := 6) X d_MA_joined_40 (by decide) ?_
        refine ab_icmp_ne X 52 d_MA_joined_42 rfl (fun _ => ?_) (fun hb => absurd hb ((by decide)))
        refine ab_iload X 0 d_MA_joined_52 rfl ?_
        refine ab_if_eq X 61 d_MA_joined_54 rfl (fun _ => ?_) (fun hb => absurd (rfl) hb)
        refine ab_iconst (v := 0) X d_MA_joined_61 (by decide) ?_
        exact ab_reti X hr0 hlk d_MA_joined_62 ⟨rfl, congrArg (fun z => some (ab_I (nI z))) (show 0 = jnd 7 0 0 by simp [jnd])⟩
      ·
        refine ab_iload_n X 0 d_MA_joined_0 rfl rfl ?_
        refine ab_bipush (v := 8) X d_MA_joined_1 (by decide) ?_
        refine ab_icmp_ne X 10 d_MA_joined_3 rfl (fun _ => ?_) (fun hb => absurd hb ((by decide)))
        refine ab_iload_n X 1 d_MA_joined_10 rfl rfl ?_
        refine ab_if_eq X 22 d_MA_joined_11 rfl (fun _ => ?_) (fun hb => absurd (rfl) hb)
        refine ab_iconst (v := 0) X d_MA_joined_22 (by decide) ?_
        refine ab_istore_n3 X 0 1 2 d_MA_joined_23 rfl (by decide) rfl rfl rfl rfl rfl rfl ?_
        refine ab_iload_n X 2 d_MA_joined_24 rfl rfl ?_
        refine ab_if_ne X 32 d_MA_joined_25 rfl (fun hb => absurd (rfl) hb) (fun _ => ?_)
        refine ab_iload_n X 3 d_MA_joined_28 rfl rfl ?_
        refine ab_if_eq X 36 d_MA_joined_29 rfl (fun hb => absurd hb ((nI_n0 (by omega) b0))) (fun _ => ?_)
        refine ab_iconst (v := 1) X d_MA_joined_32 (by decide) ?_
        refine ab_goto X 37 d_MA_joined_33 rfl ?_
        refine ab_istore4 X 0 1 2 3 d_MA_joined_37 (by decide) rfl rfl rfl rfl rfl rfl rfl rfl ?_
        refine ab_iload_n X 2 d_MA_joined_39 rfl rfl ?_
        refine ab_bipush (v := 6) X d_MA_joined_40 (by decide) ?_
        refine ab_icmp_ne X 52 d_MA_joined_42 rfl (fun _ => ?_) (fun hb => absurd hb ((by decide)))
        refine ab_iload X 0 d_MA_joined_52 rfl ?_
        refine ab_if_eq X 61 d_MA_joined_54 rfl (fun hb => absurd hb ((by decide))) (fun _ => ?_)
        refine ab_iconst (v := 1) X d_MA_joined_57 (by decide) ?_
        refine ab_goto X 62 d_MA_joined_58 rfl ?_
        exact ab_reti X hr0 hlk d_MA_joined_62 ⟨rfl, congrArg (fun z => some (ab_I (nI z))) (show 1 = jnd 7 0 b by simp [jnd, b0])⟩
    ·
      refine ab_iload_n X 0 d_MA_joined_0 rfl rfl ?_
      refine ab_bipush (v := 8) X d_MA_joined_1 (by decide) ?_
      refine ab_icmp_ne X 10 d_MA_joined_3 rfl (fun _ => ?_) (fun hb => absurd hb ((by decide)))
      refine ab_iload_n X 1 d_MA_joined_10 rfl rfl ?_
      refine ab_if_eq X 22 d_MA_joined_11 rfl (fun hb => absurd hb ((nI_n0 (by omega) a0))) (fun _ => ?_)
      refine ab_iload_n X 2 d_MA_joined_14 rfl rfl ?_
      refine ab_if_eq X 22 d_MA_joined_15 rfl (fun h15 => ?_) (fun h15 => ?_)
      ·
        refine ab_iconst (v := 0) X d_MA_joined_22 (by decide) ?_
        refine ab_istore_n3 X 0 1 2 d_MA_joined_23 rfl (by decide) rfl rfl rfl rfl rfl rfl ?_
        refine ab_iload_n X 2 d_MA_joined_24 rfl rfl ?_
        refine ab_if_ne X 32 d_MA_joined_25 rfl (fun _ => ?_) (fun hb => absurd hb ((nI_n0 (by omega) a0)))
        refine ab_iconst (v := 1) X d_MA_joined_32 (by decide) ?_
        refine ab_goto X 37 d_MA_joined_33 rfl ?_
        refine ab_istore4 X 0 1 2 3 d_MA_joined_37 (by decide) rfl rfl rfl rfl rfl rfl rfl rfl ?_
        refine ab_iload_n X 2 d_MA_joined_39 rfl rfl ?_
        refine ab_bipush (v := 6) X d_MA_joined_40 (by decide) ?_
        refine ab_icmp_ne X 52 d_MA_joined_42 rfl (fun _ => ?_) (fun hb => absurd hb ((by decide)))
        refine ab_iload X 0 d_MA_joined_52 rfl ?_
        refine ab_if_eq X 61 d_MA_joined_54 rfl (fun hb => absurd hb ((by decide))) (fun _ => ?_)
        refine ab_iconst (v := 1) X d_MA_joined_57 (by decide) ?_
        refine ab_goto X 62 d_MA_joined_58 rfl ?_
        exact ab_reti X hr0 hlk d_MA_joined_62 ⟨rfl, congrArg (fun z => some (ab_I (nI z))) (show 1 = jnd 7 a b by simp [jnd, a0])⟩
      ·
        refine ab_iconst (v := 1) X d_MA_joined_18 (by decide) ?_
        refine ab_goto X 23 d_MA_joined_19 rfl ?_
        refine ab_istore_n3 X 0 1 2 d_MA_joined_23 rfl (by decide) rfl rfl rfl rfl rfl rfl ?_
        refine ab_iload_n X 2 d_MA_joined_24 rfl rfl ?_
        refine ab_if_ne X 32 d_MA_joined_25 rfl (fun _ => ?_) (fun hb => absurd hb ((nI_n0 (by omega) a0)))
        refine ab_iconst (v := 1) X d_MA_joined_32 (by decide) ?_
        refine ab_goto X 37 d_MA_joined_33 rfl ?_
        refine ab_istore4 X 0 1 2 3 d_MA_joined_37 (by decide) rfl rfl rfl rfl rfl rfl rfl rfl ?_
        refine ab_iload_n X 2 d_MA_joined_39 rfl rfl ?_
        refine ab_bipush (v := 6) X d_MA_joined_40 (by decide) ?_
        refine ab_icmp_ne X 52 d_MA_joined_42 rfl (fun _ => ?_) (fun hb => absurd hb ((by decide)))
        refine ab_iload X 0 d_MA_joined_52 rfl ?_
        refine ab_if_eq X 61 d_MA_joined_54 rfl (fun hb => absurd hb ((by decide))) (fun _ => ?_)
        refine ab_iconst (v := 1) X d_MA_joined_57 (by decide) ?_
        refine ab_goto X 62 d_MA_joined_58 rfl ?_
        exact ab_reti X hr0 hlk d_MA_joined_62 ⟨rfl, congrArg (fun z => some (ab_I (nI z))) (show 1 = jnd 7 a b by simp [jnd, a0])⟩
  ·
    refine ab_iload_n X 0 d_MA_joined_0 rfl rfl ?_
    refine ab_bipush (v := 8) X d_MA_joined_1 (by decide) ?_
    refine ab_icmp_ne X 10 d_MA_joined_3 rfl (fun hb => absurd (rfl) hb) (fun _ => ?_)
    refine ab_iload_n X 1 d_MA_joined_6 rfl rfl ?_
    refine ab_iload_n X 2 d_MA_joined_7 rfl rfl ?_
    refine ab_iadd X d_MA_joined_8 ?_
    refine ab_top (nI_add a b) ?_
    exact ab_reti X hr0 hlk d_MA_joined_9 ⟨rfl, congrArg (fun z => some (ab_I (nI z))) (show a + b = jnd 8 a b by simp [jnd])⟩
/-- one word done: it has failed, or stack and place are the next ones -/
def sQ (hh aa : Int32) (x : Nat) (r st sd : List Nat) (a : Nat) (u u' : ab_S) : Prop := mQ u u' ∧ ((stp hh aa x r st sd = none ∧ u'.1 7 0 6 = 1 ∧ u'.1 7 0 4 = nI a) ∨ ∃ r' st' sd', stp hh aa x r st sd = some (r', st', sd') ∧ u'.1 7 0 6 = 0 ∧ cM u' st' sd' ∧ u'.1 7 0 4 = nI (a + (r.length - r'.length)))
theorem sQ.no {hh aa : Int32} {x : Nat} {r st sd : List Nat} {a : Nat} {u u' : ab_S} (z : mQ u u') (e : stp hh aa x r st sd = none) (f : u'.1 7 0 6 = 1) (k : u'.1 7 0 4 = nI a) : sQ hh aa x r st sd a u u' := ⟨z, Or.inl ⟨e, f, k⟩⟩
theorem sQ.yes {hh aa : Int32} {x : Nat} {r st sd st' sd' : List Nat} {a : Nat} {u u' : ab_S} (z : mQ u u') (e : stp hh aa x r st sd = some (r, st', sd')) (f : u'.1 7 0 6 = 0) (c : cM u' st' sd') (k : u'.1 7 0 4 = nI a) : sQ hh aa x r st sd a u u' := ⟨z, Or.inr ⟨r, st', sd', e, f, c, by rw [Nat.sub_self, Nat.add_zero]; exact k⟩⟩
set_option maxRecDepth 100000 in
set_option maxHeartbeats 1000000 in
theorem x_MA_tryKey (u : ab_S) (st sd : List Nat) (h : CI u) (C : cM u st sd) (hh aa : Int32) (x a : Nat) (r : List Nat) (hL : st.length < 167) (e4 : u.1 7 0 4 = nI a) (e6 : u.1 7 0 6 = 0) (hx : x / 1000 = 1) : ab_C false l D ca y_MA_tryKey b_MA_tryKey 3 none 1 ab_nQ u [ab_O 7 0, ab_I (nI (x % 1000))] (fun u' w => sQ hh aa x r st sd a u u' ∧ w = none) := by
  refine ab_C.of (by decide) (Nat.le_of_ble_eq_true rfl) ?_
  intro p e s m args below meth c ad X hZ hr0 hlk
  have P0 : mQ u u := mQ.rf h
  have hd := C.1.2.hd
  by_cases q0 : st.headD 0 = 0
  ·
    refine ab_aload_n X 0 d_MA_tryKey_0 rfl rfl ?_
    refine ab_callV (as := []) X (fun h => by cases h) (x_MA_take u st sd h C (by omega)) lk_MA_64 d_MA_tryKey_1 rfl rfl (by first | assumption | decide | (show _ < 124; omega) | (show _ < 61; omega) | (show _ < 20; omega)) ⟨by first | exact Nat.le_of_ble_eq_true rfl | (simp only [ab_rm]; omega), by first | exact Nat.le_of_ble_eq_true rfl | (simp only [ab_rm]; omega)⟩ ⟨by first | exact Nat.le_of_ble_eq_true rfl | (simp only [ab_rm]; omega), by first | exact Nat.le_of_ble_eq_true rfl | (simp only [ab_rm]; omega)⟩ (Nat.le_of_ble_eq_true rfl) (fun u1 r1 h1 => ?_)
    obtain ⟨⟨z1, c1, f1⟩, rfl⟩ := h1
    have q1 := z1.1
    have P1 := P0.trans q1 (by decide)
    refine ab_top (congrArg nI q0) ?_
    refine ab_istore_n2 X 0 1 d_MA_tryKey_4 rfl (by decide) rfl rfl rfl rfl ?_
    refine ab_iload_n X 0 d_MA_tryKey_5 rfl rfl ?_
    refine ab_bipush (v := 10) X d_MA_tryKey_6 (by decide) ?_
    refine ab_iload_n X 2 d_MA_tryKey_8 rfl rfl ?_
    refine ab_iadd X d_MA_tryKey_9 ?_
    refine ab_top (nI_add 10 (x % 1000)) ?_
    refine ab_icmp_eq X 22 d_MA_tryKey_10 rfl (fun hb => absurd hb ((nI_ne (b := 10 + x % 1000) (by decide) (by omega) (by omega)))) (fun _ => ?_)
    refine ab_iload_n X 0 d_MA_tryKey_13 rfl rfl ?_
    refine ab_if_eq X 22 d_MA_tryKey_14 rfl (fun _ => ?_) (fun hb => absurd (rfl) hb)
    refine ab_aload_n X 1 d_MA_tryKey_22 rfl rfl ?_
    refine ab_iload_n X 0 d_MA_tryKey_23 rfl rfl ?_
    refine ab_if_ne X 31 d_MA_tryKey_24 rfl (fun hb => absurd (rfl) hb) (fun _ => ?_)
    refine ab_iconst (v := 0) X d_MA_tryKey_27 (by decide) ?_
    refine ab_goto X 32 d_MA_tryKey_28 rfl ?_
    refine ab_callV (as := [ab_I (nI 0)]) X (fun h => by cases h) (x_MA_push u1 0 st.tail sd P1.1 c1 (by decide) (by rw [List.length_tail]; omega)) lk_MA_57 d_MA_tryKey_32 rfl rfl (by first | assumption | decide | (show _ < 124; omega) | (show _ < 61; omega) | (show _ < 20; omega)) ⟨by first | exact Nat.le_of_ble_eq_true rfl | (simp only [ab_rm]; omega), by first | exact Nat.le_of_ble_eq_true rfl | (simp only [ab_rm]; omega)⟩ ⟨by first | exact Nat.le_of_ble_eq_true rfl | (simp only [ab_rm]; omega), by first | exact Nat.le_of_ble_eq_true rfl | (simp only [ab_rm]; omega)⟩ (Nat.le_of_ble_eq_true rfl) (fun u32 r32 h32 => ?_)
    obtain ⟨⟨z32, c32, f32⟩, rfl⟩ := h32
    have q32 := z32.1
    have P32 := P1.trans q32 (by decide)
    refine ab_retv X hr0 hlk d_MA_tryKey_35 ⟨?_, rfl⟩
    cases st with
    | nil => exact sQ.no P32 (by simp [stp, hx]) (f32.trans (f1.trans (if_pos rfl))) (z32.2.trans (z1.2.trans e4))
    | cons w t =>
      have q0 : w = 0 := q0
      exact sQ.yes P32 (by simp [stp, hx, q0]) (f32.trans (f1.trans ((if_neg (List.cons_ne_nil _ _)).trans e6))) c32 (z32.2.trans (z1.2.trans e4))
  · obtain ⟨w, t, rfl⟩ : ∃ w t, st = w :: t := by
      cases st with
      | nil => exact absurd rfl q0
      | cons w t => exact ⟨w, t, rfl⟩
    have q0 : w ≠ 0 := q0
    have hd : w < 2000 := hd
    have hL : t.length + 1 < 167 := hL
    by_cases y1 : w = 10 + x % 1000
    ·
      refine ab_aload_n X 0 d_MA_tryKey_0 rfl rfl ?_
      refine ab_callV (as := []) X (fun h => by cases h) (x_MA_take u (w :: t) sd h C (by show t.length + 1 ≤ 168; omega)) lk_MA_64 d_MA_tryKey_1 rfl rfl (by first | assumption | decide | (show _ < 124; omega) | (show _ < 61; omega) | (show _ < 20; omega)) ⟨by first | exact Nat.le_of_ble_eq_true rfl | (simp only [ab_rm]; omega), by first | exact Nat.le_of_ble_eq_true rfl | (simp only [ab_rm]; omega)⟩ ⟨by first | exact Nat.le_of_ble_eq_true rfl | (simp only [ab_rm]; omega), by first | exact Nat.le_of_ble_eq_true rfl | (simp only [ab_rm]; omega)⟩ (Nat.le_of_ble_eq_true rfl) (fun u1 r1 h1 => ?_)
      obtain ⟨⟨z1, c1, f1⟩, rfl⟩ := h1
      have q1 := z1.1
      have P1 := P0.trans q1 (by decide)
      refine ab_istore_n2 X 0 1 d_MA_tryKey_4 rfl (by decide) rfl rfl rfl rfl ?_
      refine ab_iload_n X 0 d_MA_tryKey_5 rfl rfl ?_
      refine ab_bipush (v := 10) X d_MA_tryKey_6 (by decide) ?_
      refine ab_iload_n X 2 d_MA_tryKey_8 rfl rfl ?_
      refine ab_iadd X d_MA_tryKey_9 ?_
      refine ab_top (nI_add 10 (x % 1000)) ?_
      refine ab_icmp_eq X 22 d_MA_tryKey_10 rfl (fun _ => ?_) (fun hb => absurd ((congrArg nI y1)) hb)
      refine ab_aload_n X 1 d_MA_tryKey_22 rfl rfl ?_
      refine ab_iload_n X 0 d_MA_tryKey_23 rfl rfl ?_
      refine ab_if_ne X 31 d_MA_tryKey_24 rfl (fun _ => ?_) (fun hb => absurd hb ((nI_n0 (n := w) (by omega) q0)))
      refine ab_iconst (v := 1) X d_MA_tryKey_31 (by decide) ?_
      refine ab_callV (as := [ab_I (nI 1)]) X (fun h => by cases h) (x_MA_push u1 1 t sd P1.1 c1 (by decide) (by omega)) lk_MA_57 d_MA_tryKey_32 rfl rfl (by first | assumption | decide | (show _ < 124; omega) | (show _ < 61; omega) | (show _ < 20; omega)) ⟨by first | exact Nat.le_of_ble_eq_true rfl | (simp only [ab_rm]; omega), by first | exact Nat.le_of_ble_eq_true rfl | (simp only [ab_rm]; omega)⟩ ⟨by first | exact Nat.le_of_ble_eq_true rfl | (simp only [ab_rm]; omega), by first | exact Nat.le_of_ble_eq_true rfl | (simp only [ab_rm]; omega)⟩ (Nat.le_of_ble_eq_true rfl) (fun u32 r32 h32 => ?_)
      obtain ⟨⟨z32, c32, f32⟩, rfl⟩ := h32
      have q32 := z32.1
      have P32 := P1.trans q32 (by decide)
      exact ab_retv X hr0 hlk d_MA_tryKey_35 ⟨sQ.yes P32 (show stp hh aa x r (w :: t) sd = some (r, 1 :: t, sd) by simp [stp, hx, y1]) (f32.trans (f1.trans ((if_neg (List.cons_ne_nil _ _)).trans e6))) c32 (z32.2.trans (z1.2.trans e4)), rfl⟩
    ·
      refine ab_aload_n X 0 d_MA_tryKey_0 rfl rfl ?_
      refine ab_callV (as := []) X (fun h => by cases h) (x_MA_take u (w :: t) sd h C (by show t.length + 1 ≤ 168; omega)) lk_MA_64 d_MA_tryKey_1 rfl rfl (by first | assumption | decide | (show _ < 124; omega) | (show _ < 61; omega) | (show _ < 20; omega)) ⟨by first | exact Nat.le_of_ble_eq_true rfl | (simp only [ab_rm]; omega), by first | exact Nat.le_of_ble_eq_true rfl | (simp only [ab_rm]; omega)⟩ ⟨by first | exact Nat.le_of_ble_eq_true rfl | (simp only [ab_rm]; omega), by first | exact Nat.le_of_ble_eq_true rfl | (simp only [ab_rm]; omega)⟩ (Nat.le_of_ble_eq_true rfl) (fun u1 r1 h1 => ?_)
      obtain ⟨⟨z1, c1, f1⟩, rfl⟩ := h1
      have q1 := z1.1
      have P1 := P0.trans q1 (by decide)
      refine ab_istore_n2 X 0 1 d_MA_tryKey_4 rfl (by decide) rfl rfl rfl rfl ?_
      refine ab_iload_n X 0 d_MA_tryKey_5 rfl rfl ?_
      refine ab_bipush (v := 10) X d_MA_tryKey_6 (by decide) ?_
      refine ab_iload_n X 2 d_MA_tryKey_8 rfl rfl ?_
      refine ab_iadd X d_MA_tryKey_9 ?_
      refine ab_top (nI_add 10 (x % 1000)) ?_
      refine ab_icmp_eq X 22 d_MA_tryKey_10 rfl (fun hb => absurd hb ((nI_ne (a := w) (by omega) (by omega) y1))) (fun _ => ?_)
      refine ab_iload_n X 0 d_MA_tryKey_13 rfl rfl ?_
      refine ab_if_eq X 22 d_MA_tryKey_14 rfl (fun hb => absurd hb ((nI_n0 (n := w) (by omega) q0))) (fun _ => ?_)
      refine ab_aload_n X 1 d_MA_tryKey_17 rfl rfl ?_
      refine ab_iconst (v := 1) X d_MA_tryKey_18 (by decide) ?_
      refine ab_putI X fp_MA_31 d_MA_tryKey_19 (by first | assumption | decide | (show _ < 124; omega) | (show _ < 61; omega) | (show _ < 20; omega)) rfl rfl ?_
      refine ab_gen (fun u19 e19 => ?_)
      have P19 : mQ u u19 := by rw [e19]; exact P1.ui rfl (by decide)
      have c19 : cM u19 t sd := by rw [e19]; exact c1.ui (by decide)
      refine ab_aload_n X 1 d_MA_tryKey_22 rfl rfl ?_
      refine ab_iload_n X 0 d_MA_tryKey_23 rfl rfl ?_
      refine ab_if_ne X 31 d_MA_tryKey_24 rfl (fun _ => ?_) (fun hb => absurd hb ((nI_n0 (n := w) (by omega) q0)))
      refine ab_iconst (v := 1) X d_MA_tryKey_31 (by decide) ?_
      refine ab_callV (as := [ab_I (nI 1)]) X (fun h => by cases h) (x_MA_push u19 1 t sd P19.1 c19 (by decide) (by omega)) lk_MA_57 d_MA_tryKey_32 rfl rfl (by first | assumption | decide | (show _ < 124; omega) | (show _ < 61; omega) | (show _ < 20; omega)) ⟨by first | exact Nat.le_of_ble_eq_true rfl | (simp only [ab_rm]; omega), by first | exact Nat.le_of_ble_eq_true rfl | (simp only [ab_rm]; omega)⟩ ⟨by first | exact Nat.le_of_ble_eq_true rfl | (simp only [ab_rm]; omega), by first | exact Nat.le_of_ble_eq_true rfl | (simp only [ab_rm]; omega)⟩ (Nat.le_of_ble_eq_true rfl) (fun u32 r32 h32 => ?_)
      obtain ⟨⟨z32, c32, f32⟩, rfl⟩ := h32
      have q32 := z32.1
      have P32 := P19.trans q32 (by decide)
      exact ab_retv X hr0 hlk d_MA_tryKey_35 ⟨sQ.no P32 (show stp hh aa x r (w :: t) sd = none by simp [stp, hx, q0, y1]) (f32.trans (by rw [e19]; exact ui_s _)) (z32.2.trans (by rw [e19]; exact (ui_n _ (by omega)).trans (z1.2.trans e4))), rfl⟩
/-- the words behind the one that stands at a -/
def wX (u : ab_S) (a : Nat) (r : List Nat) : Prop := u.1 5 0 2 = nI (a + 1 + r.length) ∧ a + 1 + r.length ≤ 128 ∧ ∀ i, i < r.length → u.1 13 0 (a + 1 + i) = nI (r.getD i 0) ∧ r.getD i 0 < 20000
theorem wX.fr {u u' : ab_S} {a : Nat} {r : List Nat} (h : wX u a r) (g : mQ u u') : wX u' a r := ⟨g.c.ii (by decide) h.1, h.2.1, fun i hi => ⟨g.c.ii (by decide) (h.2.2 i hi).1, (h.2.2 i hi).2⟩⟩
theorem div_nI {x : Nat} (h : x < 20000) : nI x / 1000 = nI (x / 1000) := pk_div (d := 1000) (Nat.lt_trans h (by decide)) (by decide) (by decide)
set_option maxRecDepth 100000 in
set_option maxHeartbeats 1000000 in
theorem t_MA_findF (u : ab_S) (w a n : Nat) (r : List Nat) (h : CI u) (hw : w = 13 ∨ w = 14) (e4 : u.1 7 0 4 = nI a) (Wx : wX u a r) (hf : fnd w 0 r = some n) : ab_C false l D ca y_MA_findBehind b_MA_findBehind 6 (some FieldType.int) 0 ab_nQ u [ab_O 7 0, ab_I (nI w), ab_O 5 0] (fun u' v => u' = u ∧ v = some (ab_I (nI (a + 1 + n)))) := by
  refine ab_C.of (by decide) (Nat.le_of_ble_eq_true rfl) ?_
  intro p e s m args below meth c ad X hZ hr0 hlk
  have P0 : mQ u u := mQ.rf h
  obtain ⟨eN, hN, hr⟩ := Wx
  have loop : ∀ (r2 : List Nat) (j d n2 : Nat), j + r2.length = a + 1 + r.length → d + r2.length ≤ 200 → (∀ i, i < r2.length → u.1 13 0 (j + i) = nI (r2.getD i 0) ∧ r2.getD i 0 < 20000) → fnd w d r2 = some n2 → j + n2 = a + 1 + n → ab_J p l e (ab_rm 0 0 0) s m args below meth c (MQ below (ab_Q D ca ad ab_nQ s.heap.size (fun u' v => u' = u ∧ v = some (ab_I (nI (a + 1 + n))))) args s 0 0 (ab_A ad ab_nQ s.heap.size)) D ca (ab_A ad ab_nQ s.heap.size) s.heap 6 0 0 ad ab_nQ u 10 [(4, ab_I (nI j)), (3, ab_I (nI d)), (0, ab_O 7 0), (1, ab_I (nI w)), (2, ab_O 5 0)] [] := by
    intro r2
    induction r2 with
    | nil => intro j d n2 _ _ _ hq; cases hq
    | cons y r2 ih =>
      intro j d n2 hj hd hq hfn hjn
      have hj : j + (r2.length + 1) = a + 1 + r.length := hj
      have hd : d + (r2.length + 1) ≤ 200 := hd
      obtain ⟨ey, by2⟩ : u.1 13 0 j = nI y ∧ y < 20000 := hq 0 (Nat.succ_pos _)
      have hq2 : ∀ i, i < r2.length → u.1 13 0 (j + 1 + i) = nI (r2.getD i 0) ∧ r2.getD i 0 < 20000 := fun i hi => by
        have := hq (i + 1) (Nat.succ_lt_succ hi)
        rw [show j + (i + 1) = j + 1 + i by omega] at this
        exact this
      by_cases hit : d = 0 ∧ y / 1000 = w
      · rw [fnd_hit hit] at hfn
        obtain rfl : 0 = n2 := Option.some.inj hfn
        refine ab_iload X 0 d_MA_findBehind_10 rfl ?_
        refine ab_aload_n X 4 d_MA_findBehind_12 rfl rfl ?_
        refine ab_gI X fl_MA_39 d_MA_findBehind_13 (by first | assumption | decide | (show _ < 124; omega) | (show _ < 61; omega) | (show _ < 20; omega)) (eN) ?_
        refine ab_icmp_ge X 81 d_MA_findBehind_16 rfl (fun hb => absurd hb ((nI_ge (by omega) (by omega)))) (fun _ => ?_)
        refine ab_aload_n X 4 d_MA_findBehind_19 rfl rfl ?_
        refine ab_gR X fl_MA_44 d_MA_findBehind_20 (by first | assumption | decide | (show _ < 124; omega) | (show _ < 61; omega) | (show _ < 20; omega)) (P0.1.sc0) ?_
        refine ab_iload X 0 d_MA_findBehind_23 rfl ?_
        refine ab_iald X (j) ⟨rfl, rfl⟩ d_MA_findBehind_25 (by first | assumption | decide | (show _ < 124; omega) | (show _ < 61; omega) | (show _ < 20; omega)) (rfl) (show j < 128 by omega) (ab_ln_lt _ _) ?_
        refine ab_top ey ?_
        refine ab_sipush (v := 1000) X d_MA_findBehind_26 (by decide) ?_
        refine ab_idiv X d_MA_findBehind_29 (by decide) ?_
        refine ab_top (div_nI by2) ?_
        refine ab_istore5 X 0 1 2 3 4 d_MA_findBehind_30 (by decide) rfl rfl rfl rfl rfl rfl rfl rfl rfl rfl ?_
        refine ab_iload_n X 2 d_MA_findBehind_32 rfl rfl ?_
        refine ab_if_ne X 45 d_MA_findBehind_33 rfl (fun hb => absurd ((by rw [hit.1]; rfl)) hb) (fun _ => ?_)
        refine ab_iload X 0 d_MA_findBehind_36 rfl ?_
        refine ab_iload_n X 4 d_MA_findBehind_38 rfl rfl ?_
        refine ab_icmp_ne X 45 d_MA_findBehind_39 rfl (fun hb => absurd ((congrArg nI hit.2)) hb) (fun _ => ?_)
        refine ab_iload X 1 d_MA_findBehind_42 rfl ?_
        exact ab_reti X hr0 hlk d_MA_findBehind_44 ⟨rfl, congrArg (fun z => some (ab_I (nI z))) hjn⟩
      · have K45 : ab_J p l e (ab_rm 0 0 0) s m args below meth c (MQ below (ab_Q D ca ad ab_nQ s.heap.size (fun u' v => u' = u ∧ v = some (ab_I (nI (a + 1 + n))))) args s 0 0 (ab_A ad ab_nQ s.heap.size)) D ca (ab_A ad ab_nQ s.heap.size) s.heap 6 0 0 ad ab_nQ u 45 [(5, ab_I (nI (y / 1000))), (4, ab_I (nI j)), (3, ab_I (nI d)), (0, ab_O 7 0), (1, ab_I (nI w)), (2, ab_O 5 0)] [] := by
          by_cases up : y / 1000 = 12 ∨ y / 1000 = 15
          · rw [fnd_up hit up] at hfn
            obtain ⟨n3, hn3, e3⟩ := Option.map_eq_some_iff.mp hfn
            have go := ih (j + 1) (d + 1) n3 (by omega) (by omega) hq2 hn3 (by omega)
            by_cases u12 : y / 1000 = 12
            ·
              refine ab_iload X 0 d_MA_findBehind_45 rfl ?_
              refine ab_bipush (v := 12) X d_MA_findBehind_47 (by decide) ?_
              refine ab_icmp_eq X 59 d_MA_findBehind_49 rfl (fun _ => ?_) (fun hb => absurd ((congrArg nI u12)) hb)
              refine ab_iinc5 X 2 0 1 3 4 5 d_MA_findBehind_59 rfl (by decide) rfl rfl rfl rfl rfl rfl rfl rfl rfl rfl ?_
              refine ab_goto X 75 d_MA_findBehind_62 rfl ?_
              refine ab_iinc5 X 2 0 1 3 4 5 d_MA_findBehind_75 rfl (by decide) rfl rfl rfl rfl rfl rfl rfl rfl rfl rfl ?_
              refine ab_goto X 10 d_MA_findBehind_78 rfl ?_
              refine ab_lv (List.forall_mem_cons.mpr ⟨List.mem_of_getElem? (i := 0) rfl, List.forall_mem_cons.mpr ⟨List.mem_of_getElem? (i := 1) rfl, List.forall_mem_cons.mpr ⟨List.mem_of_getElem? (i := 3) rfl, List.forall_mem_cons.mpr ⟨List.mem_of_getElem? (i := 4) rfl, List.forall_mem_cons.mpr ⟨List.mem_of_getElem? (i := 5) rfl, fun _ h => absurd h List.not_mem_nil⟩⟩⟩⟩⟩) ?_
              rw [show nI j + Int32.ofInt 1 = nI (j + 1) from nI_1 j, show nI d + Int32.ofInt 1 = nI (d + 1) from nI_1 d]
              exact go
            ·
              refine ab_iload X 0 d_MA_findBehind_45 rfl ?_
              refine ab_bipush (v := 12) X d_MA_findBehind_47 (by decide) ?_
              refine ab_icmp_eq X 59 d_MA_findBehind_49 rfl (fun hb => absurd hb ((nI_ne (b := 12) (by omega) (by decide) u12))) (fun _ => ?_)
              refine ab_iload X 0 d_MA_findBehind_52 rfl ?_
              refine ab_bipush (v := 15) X d_MA_findBehind_54 (by decide) ?_
              refine ab_icmp_ne X 65 d_MA_findBehind_56 rfl (fun hb => absurd ((congrArg nI (show y / 1000 = 15 by omega))) hb) (fun _ => ?_)
              refine ab_iinc5 X 2 0 1 3 4 5 d_MA_findBehind_59 rfl (by decide) rfl rfl rfl rfl rfl rfl rfl rfl rfl rfl ?_
              refine ab_goto X 75 d_MA_findBehind_62 rfl ?_
              refine ab_iinc5 X 2 0 1 3 4 5 d_MA_findBehind_75 rfl (by decide) rfl rfl rfl rfl rfl rfl rfl rfl rfl rfl ?_
              refine ab_goto X 10 d_MA_findBehind_78 rfl ?_
              refine ab_lv (List.forall_mem_cons.mpr ⟨List.mem_of_getElem? (i := 0) rfl, List.forall_mem_cons.mpr ⟨List.mem_of_getElem? (i := 1) rfl, List.forall_mem_cons.mpr ⟨List.mem_of_getElem? (i := 3) rfl, List.forall_mem_cons.mpr ⟨List.mem_of_getElem? (i := 4) rfl, List.forall_mem_cons.mpr ⟨List.mem_of_getElem? (i := 5) rfl, fun _ h => absurd h List.not_mem_nil⟩⟩⟩⟩⟩) ?_
              rw [show nI j + Int32.ofInt 1 = nI (j + 1) from nI_1 j, show nI d + Int32.ofInt 1 = nI (d + 1) from nI_1 d]
              exact go
          · by_cases dn : y / 1000 = 14
            · by_cases d0 : d = 0
              · rw [fnd_bad hit dn d0] at hfn; cases hfn
              · rw [fnd_down hit dn d0] at hfn
                obtain ⟨n3, hn3, e3⟩ := Option.map_eq_some_iff.mp hfn
                have go := ih (j + 1) (d - 1) n3 (by omega) (by omega) hq2 hn3 (by omega)
                refine ab_iload X 0 d_MA_findBehind_45 rfl ?_
                refine ab_bipush (v := 12) X d_MA_findBehind_47 (by decide) ?_
                refine ab_icmp_eq X 59 d_MA_findBehind_49 rfl (fun hb => absurd hb ((nI_ne (b := 12) (by omega) (by decide) (by omega)))) (fun _ => ?_)
                refine ab_iload X 0 d_MA_findBehind_52 rfl ?_
                refine ab_bipush (v := 15) X d_MA_findBehind_54 (by decide) ?_
                refine ab_icmp_ne X 65 d_MA_findBehind_56 rfl (fun _ => ?_) (fun hb => absurd hb ((nI_ne (b := 15) (by omega) (by decide) (by omega))))
                refine ab_iload X 0 d_MA_findBehind_65 rfl ?_
                refine ab_bipush (v := 14) X d_MA_findBehind_67 (by decide) ?_
                refine ab_icmp_ne X 75 d_MA_findBehind_69 rfl (fun hb => absurd ((congrArg nI dn)) hb) (fun _ => ?_)
                refine ab_iinc5 X 2 0 1 3 4 5 d_MA_findBehind_72 rfl (by decide) rfl rfl rfl rfl rfl rfl rfl rfl rfl rfl ?_
                refine ab_iinc5 X 2 0 1 3 4 5 d_MA_findBehind_75 rfl (by decide) rfl rfl rfl rfl rfl rfl rfl rfl rfl rfl ?_
                refine ab_goto X 10 d_MA_findBehind_78 rfl ?_
                refine ab_lv (List.forall_mem_cons.mpr ⟨List.mem_of_getElem? (i := 0) rfl, List.forall_mem_cons.mpr ⟨List.mem_of_getElem? (i := 1) rfl, List.forall_mem_cons.mpr ⟨List.mem_of_getElem? (i := 3) rfl, List.forall_mem_cons.mpr ⟨List.mem_of_getElem? (i := 4) rfl, List.forall_mem_cons.mpr ⟨List.mem_of_getElem? (i := 5) rfl, fun _ h => absurd h List.not_mem_nil⟩⟩⟩⟩⟩) ?_
                rw [show nI j + Int32.ofInt 1 = nI (j + 1) from nI_1 j, show nI d + Int32.ofInt (-1) = nI (d - 1) from by rw [show d = d - 1 + 1 by omega]; exact pk_m1 _]
                exact go
            · rw [fnd_same hit (by omega) (by omega) dn] at hfn
              obtain ⟨n3, hn3, e3⟩ := Option.map_eq_some_iff.mp hfn
              have go := ih (j + 1) d n3 (by omega) (by omega) hq2 hn3 (by omega)
              refine ab_iload X 0 d_MA_findBehind_45 rfl ?_
              refine ab_bipush (v := 12) X d_MA_findBehind_47 (by decide) ?_
              refine ab_icmp_eq X 59 d_MA_findBehind_49 rfl (fun hb => absurd hb ((nI_ne (b := 12) (by omega) (by decide) (by omega)))) (fun _ => ?_)
              refine ab_iload X 0 d_MA_findBehind_52 rfl ?_
              refine ab_bipush (v := 15) X d_MA_findBehind_54 (by decide) ?_
              refine ab_icmp_ne X 65 d_MA_findBehind_56 rfl (fun _ => ?_) (fun hb => absurd hb ((nI_ne (b := 15) (by omega) (by decide) (by omega))))
              refine ab_iload X 0 d_MA_findBehind_65 rfl ?_
              refine ab_bipush (v := 14) X d_MA_findBehind_67 (by decide) ?_
              refine ab_icmp_ne X 75 d_MA_findBehind_69 rfl (fun _ => ?_) (fun hb => absurd hb ((nI_ne (b := 14) (by omega) (by decide) dn)))
              refine ab_iinc5 X 1 0 2 3 4 5 d_MA_findBehind_75 rfl (by decide) rfl rfl rfl rfl rfl rfl rfl rfl rfl rfl ?_
              refine ab_goto X 10 d_MA_findBehind_78 rfl ?_
              refine ab_lv (List.forall_mem_cons.mpr ⟨List.mem_of_getElem? (i := 0) rfl, List.forall_mem_cons.mpr ⟨List.mem_of_getElem? (i := 2) rfl, List.forall_mem_cons.mpr ⟨List.mem_of_getElem? (i := 3) rfl, List.forall_mem_cons.mpr ⟨List.mem_of_getElem? (i := 4) rfl, List.forall_mem_cons.mpr ⟨List.mem_of_getElem? (i := 5) rfl, fun _ h => absurd h List.not_mem_nil⟩⟩⟩⟩⟩) ?_
              rw [show nI j + Int32.ofInt 1 = nI (j + 1) from nI_1 j]
              exact go
        by_cases d0 : d = 0
        ·
          refine ab_iload X 0 d_MA_findBehind_10 rfl ?_
          refine ab_aload_n X 4 d_MA_findBehind_12 rfl rfl ?_
          refine ab_gI X fl_MA_39 d_MA_findBehind_13 (by first | assumption | decide | (show _ < 124; omega) | (show _ < 61; omega) | (show _ < 20; omega)) (eN) ?_
          refine ab_icmp_ge X 81 d_MA_findBehind_16 rfl (fun hb => absurd hb ((nI_ge (by omega) (by omega)))) (fun _ => ?_)
          refine ab_aload_n X 4 d_MA_findBehind_19 rfl rfl ?_
          refine ab_gR X fl_MA_44 d_MA_findBehind_20 (by first | assumption | decide | (show _ < 124; omega) | (show _ < 61; omega) | (show _ < 20; omega)) (P0.1.sc0) ?_
          refine ab_iload X 0 d_MA_findBehind_23 rfl ?_
          refine ab_iald X (j) ⟨rfl, rfl⟩ d_MA_findBehind_25 (by first | assumption | decide | (show _ < 124; omega) | (show _ < 61; omega) | (show _ < 20; omega)) (rfl) (show j < 128 by omega) (ab_ln_lt _ _) ?_
          refine ab_top ey ?_
          refine ab_sipush (v := 1000) X d_MA_findBehind_26 (by decide) ?_
          refine ab_idiv X d_MA_findBehind_29 (by decide) ?_
          refine ab_top (div_nI by2) ?_
          refine ab_istore5 X 0 1 2 3 4 d_MA_findBehind_30 (by decide) rfl rfl rfl rfl rfl rfl rfl rfl rfl rfl ?_
          refine ab_iload_n X 2 d_MA_findBehind_32 rfl rfl ?_
          refine ab_if_ne X 45 d_MA_findBehind_33 rfl (fun hb => absurd ((by rw [d0]; rfl)) hb) (fun _ => ?_)
          refine ab_iload X 0 d_MA_findBehind_36 rfl ?_
          refine ab_iload_n X 4 d_MA_findBehind_38 rfl rfl ?_
          refine ab_icmp_ne X 45 d_MA_findBehind_39 rfl (fun _ => ?_) (fun hb => absurd hb ((nI_ne (by omega) (by omega) (fun z => hit ⟨d0, z⟩))))
          exact K45
        ·
          refine ab_iload X 0 d_MA_findBehind_10 rfl ?_
          refine ab_aload_n X 4 d_MA_findBehind_12 rfl rfl ?_
          refine ab_gI X fl_MA_39 d_MA_findBehind_13 (by first | assumption | decide | (show _ < 124; omega) | (show _ < 61; omega) | (show _ < 20; omega)) (eN) ?_
          refine ab_icmp_ge X 81 d_MA_findBehind_16 rfl (fun hb => absurd hb ((nI_ge (by omega) (by omega)))) (fun _ => ?_)
          refine ab_aload_n X 4 d_MA_findBehind_19 rfl rfl ?_
          refine ab_gR X fl_MA_44 d_MA_findBehind_20 (by first | assumption | decide | (show _ < 124; omega) | (show _ < 61; omega) | (show _ < 20; omega)) (P0.1.sc0) ?_
          refine ab_iload X 0 d_MA_findBehind_23 rfl ?_
          refine ab_iald X (j) ⟨rfl, rfl⟩ d_MA_findBehind_25 (by first | assumption | decide | (show _ < 124; omega) | (show _ < 61; omega) | (show _ < 20; omega)) (rfl) (show j < 128 by omega) (ab_ln_lt _ _) ?_
          refine ab_top ey ?_
          refine ab_sipush (v := 1000) X d_MA_findBehind_26 (by decide) ?_
          refine ab_idiv X d_MA_findBehind_29 (by decide) ?_
          refine ab_top (div_nI by2) ?_
          refine ab_istore5 X 0 1 2 3 4 d_MA_findBehind_30 (by decide) rfl rfl rfl rfl rfl rfl rfl rfl rfl rfl ?_
          refine ab_iload_n X 2 d_MA_findBehind_32 rfl rfl ?_
          refine ab_if_ne X 45 d_MA_findBehind_33 rfl (fun _ => ?_) (fun hb => absurd hb ((nI_n0 (by omega) d0)))
          exact K45
  refine ab_iconst (v := 0) X d_MA_findBehind_0 (by decide) ?_
  refine ab_istore_n3 X 0 1 2 d_MA_findBehind_1 rfl (by decide) rfl rfl rfl rfl rfl rfl ?_
  refine ab_aload_n X 1 d_MA_findBehind_2 rfl rfl ?_
  refine ab_gI X fl_MA_25 d_MA_findBehind_3 (by first | assumption | decide | (show _ < 124; omega) | (show _ < 61; omega) | (show _ < 20; omega)) (e4) ?_
  refine ab_iconst (v := 1) X d_MA_findBehind_6 (by decide) ?_
  refine ab_iadd X d_MA_findBehind_7 ?_
  refine ab_top (nI_1 _) ?_
  refine ab_istore4 X 0 1 2 3 d_MA_findBehind_8 (by decide) rfl rfl rfl rfl rfl rfl rfl rfl ?_
  exact loop r (a + 1) 0 n rfl (by omega) hr hf rfl
theorem sQ.jmp {hh aa : Int32} {x w n : Nat} {r st sd st' sd' : List Nat} {a : Nat} {u u' : ab_S} (z : mQ u u') (hf : fnd w 0 r = some n) (e : stp hh aa x r st sd = some (skw w r, st', sd')) (f : u'.1 7 0 6 = 0) (c : cM u' st' sd') (hn : n < r.length) (k : u'.1 7 0 4 = nI (a + 1 + n)) : sQ hh aa x r st sd a u u' := ⟨z, Or.inr ⟨_, st', sd', e, f, c, by rw [skw_e hf, List.length_drop, show r.length - (r.length - (n + 1)) = n + 1 by omega, ← Nat.add_assoc, Nat.add_right_comm]; exact k⟩⟩
theorem fnd_lt {w : Nat} : ∀ {r : List Nat} {d n : Nat}, fnd w d r = some n → n < r.length := by
  intro r
  induction r with
  | nil => intro d n h; cases h
  | cons y r ih =>
    intro d n h
    by_cases hit : d = 0 ∧ y / 1000 = w
    · rw [fnd_hit hit] at h; cases h; exact Nat.succ_pos _
    · have key : ∀ d', (fnd w d' r).map (· + 1) = some n → n < (y :: r).length := fun d' q => by
        obtain ⟨m, hm, e⟩ := Option.map_eq_some_iff.mp q
        have := ih hm
        show n < r.length + 1
        omega
      by_cases up : y / 1000 = 12 ∨ y / 1000 = 15
      · rw [fnd_up hit up] at h; exact key _ h
      · by_cases dn : y / 1000 = 14
        · by_cases d0 : d = 0
          · rw [fnd_bad hit dn d0] at h; cases h
          · rw [fnd_down hit dn d0] at h; exact key _ h
        · rw [fnd_same hit (by omega) (by omega) dn] at h; exact key _ h
set_option maxRecDepth 100000 in
set_option maxHeartbeats 1000000 in
theorem x_MA_tryIf (u : ab_S) (st sd : List Nat) (h : CI u) (C : cM u st sd) (hh aa : Int32) (x a : Nat) (r : List Nat) (hL : st.length < 167) (e4 : u.1 7 0 4 = nI a) (e6 : u.1 7 0 6 = 0) (Wx : wX u a r) (G : gd x r st) (hx : x / 1000 = 12) : ab_C false l D ca y_MA_tryIf b_MA_tryIf 3 none 1 ab_nQ u [ab_O 7 0, ab_O 5 0] (fun u' w => sQ hh aa x r st sd a u u' ∧ w = none) := by
  refine ab_C.of (by decide) (Nat.le_of_ble_eq_true rfl) ?_
  intro p e s m args below meth c ad X hZ hr0 hlk
  have P0 : mQ u u := mQ.rf h
  have hd := C.1.2.hd
  obtain ⟨n, hf⟩ := G.2.1 hx
  have hn := fnd_lt hf
  have hN := Wx.2.1
  cases st with
  | nil =>
    refine ab_aload_n X 0 d_MA_tryIf_0 rfl rfl ?_
    refine ab_callV (as := []) X (fun h => by cases h) (x_MA_take u [] sd h C (by decide)) lk_MA_64 d_MA_tryIf_1 rfl rfl (by first | assumption | decide | (show _ < 124; omega) | (show _ < 61; omega) | (show _ < 20; omega)) ⟨by first | exact Nat.le_of_ble_eq_true rfl | (simp only [ab_rm]; omega), by first | exact Nat.le_of_ble_eq_true rfl | (simp only [ab_rm]; omega)⟩ ⟨by first | exact Nat.le_of_ble_eq_true rfl | (simp only [ab_rm]; omega), by first | exact Nat.le_of_ble_eq_true rfl | (simp only [ab_rm]; omega)⟩ (Nat.le_of_ble_eq_true rfl) (fun u1 r1 h1 => ?_)
    obtain ⟨⟨z1, c1, f1⟩, rfl⟩ := h1
    have q1 := z1.1
    have P1 := P0.trans q1 (by decide)
    refine ab_istore_n2 X 0 1 d_MA_tryIf_4 rfl (by decide) rfl rfl rfl rfl ?_
    refine ab_iload_n X 0 d_MA_tryIf_5 rfl rfl ?_
    refine ab_iconst (v := 1) X d_MA_tryIf_6 (by decide) ?_
    refine ab_icmp_eq X 22 d_MA_tryIf_7 rfl (fun hb => absurd hb ((show ¬ nI ([] : List Nat).length = 1 by decide))) (fun _ => ?_)
    refine ab_iload_n X 0 d_MA_tryIf_10 rfl rfl ?_
    refine ab_if_eq X 22 d_MA_tryIf_11 rfl (fun _ => ?_) (fun hb => absurd ((show nI ([] : List Nat).length = 0 from rfl)) hb)
    refine ab_iload_n X 0 d_MA_tryIf_22 rfl rfl ?_
    refine ab_if_ne X 44 d_MA_tryIf_23 rfl (fun hb => absurd ((show nI ([] : List Nat).length = 0 from rfl)) hb) (fun _ => ?_)
    refine ab_aload_n X 1 d_MA_tryIf_26 rfl rfl ?_
    refine ab_gI X fl_MA_31 d_MA_tryIf_27 (by first | assumption | decide | (show _ < 124; omega) | (show _ < 61; omega) | (show _ < 20; omega)) ((f1.trans (if_pos rfl))) ?_
    refine ab_if_ne X 44 d_MA_tryIf_30 rfl (fun _ => ?_) (fun hb => absurd hb ((by decide)))
    exact ab_retv X hr0 hlk d_MA_tryIf_44 ⟨sQ.no P1 (by simp [stp, hx]) (f1.trans (if_pos rfl)) (z1.2.trans e4), rfl⟩
  | cons w t =>
    have hd : w < 2000 := hd
    have hL : t.length + 1 < 167 := hL
    by_cases y1 : w = 1
    ·
      refine ab_aload_n X 0 d_MA_tryIf_0 rfl rfl ?_
      refine ab_callV (as := []) X (fun h => by cases h) (x_MA_take u (w :: t) sd h C (by show t.length + 1 ≤ 168; omega)) lk_MA_64 d_MA_tryIf_1 rfl rfl (by first | assumption | decide | (show _ < 124; omega) | (show _ < 61; omega) | (show _ < 20; omega)) ⟨by first | exact Nat.le_of_ble_eq_true rfl | (simp only [ab_rm]; omega), by first | exact Nat.le_of_ble_eq_true rfl | (simp only [ab_rm]; omega)⟩ ⟨by first | exact Nat.le_of_ble_eq_true rfl | (simp only [ab_rm]; omega), by first | exact Nat.le_of_ble_eq_true rfl | (simp only [ab_rm]; omega)⟩ (Nat.le_of_ble_eq_true rfl) (fun u1 r1 h1 => ?_)
      obtain ⟨⟨z1, c1, f1⟩, rfl⟩ := h1
      have q1 := z1.1
      have P1 := P0.trans q1 (by decide)
      refine ab_istore_n2 X 0 1 d_MA_tryIf_4 rfl (by decide) rfl rfl rfl rfl ?_
      refine ab_iload_n X 0 d_MA_tryIf_5 rfl rfl ?_
      refine ab_iconst (v := 1) X d_MA_tryIf_6 (by decide) ?_
      refine ab_icmp_eq X 22 d_MA_tryIf_7 rfl (fun _ => ?_) (fun hb => absurd ((congrArg nI y1)) hb)
      refine ab_iload_n X 0 d_MA_tryIf_22 rfl rfl ?_
      refine ab_if_ne X 44 d_MA_tryIf_23 rfl (fun _ => ?_) (fun hb => absurd hb ((nI_n0 (n := w) (by omega) (by omega))))
      exact ab_retv X hr0 hlk d_MA_tryIf_44 ⟨sQ.yes P1 (show stp hh aa x r (w :: t) sd = some (r, t, sd) by simp [stp, hx, y1]) (f1.trans ((if_neg (List.cons_ne_nil _ _)).trans e6)) c1 (z1.2.trans e4), rfl⟩
    · by_cases q0 : w = 0
      ·
        refine ab_aload_n X 0 d_MA_tryIf_0 rfl rfl ?_
        refine ab_callV (as := []) X (fun h => by cases h) (x_MA_take u (w :: t) sd h C (by show t.length + 1 ≤ 168; omega)) lk_MA_64 d_MA_tryIf_1 rfl rfl (by first | assumption | decide | (show _ < 124; omega) | (show _ < 61; omega) | (show _ < 20; omega)) ⟨by first | exact Nat.le_of_ble_eq_true rfl | (simp only [ab_rm]; omega), by first | exact Nat.le_of_ble_eq_true rfl | (simp only [ab_rm]; omega)⟩ ⟨by first | exact Nat.le_of_ble_eq_true rfl | (simp only [ab_rm]; omega), by first | exact Nat.le_of_ble_eq_true rfl | (simp only [ab_rm]; omega)⟩ (Nat.le_of_ble_eq_true rfl) (fun u1 r1 h1 => ?_)
        obtain ⟨⟨z1, c1, f1⟩, rfl⟩ := h1
        have q1 := z1.1
        have P1 := P0.trans q1 (by decide)
        refine ab_istore_n2 X 0 1 d_MA_tryIf_4 rfl (by decide) rfl rfl rfl rfl ?_
        refine ab_iload_n X 0 d_MA_tryIf_5 rfl rfl ?_
        refine ab_iconst (v := 1) X d_MA_tryIf_6 (by decide) ?_
        refine ab_icmp_eq X 22 d_MA_tryIf_7 rfl (fun hb => absurd hb ((nI_ne (a := w) (b := 1) (by omega) (by decide) y1))) (fun _ => ?_)
        refine ab_iload_n X 0 d_MA_tryIf_10 rfl rfl ?_
        refine ab_if_eq X 22 d_MA_tryIf_11 rfl (fun _ => ?_) (fun hb => absurd ((congrArg nI q0)) hb)
        refine ab_iload_n X 0 d_MA_tryIf_22 rfl rfl ?_
        refine ab_if_ne X 44 d_MA_tryIf_23 rfl (fun hb => absurd ((congrArg nI q0)) hb) (fun _ => ?_)
        refine ab_aload_n X 1 d_MA_tryIf_26 rfl rfl ?_
        refine ab_gI X fl_MA_31 d_MA_tryIf_27 (by first | assumption | decide | (show _ < 124; omega) | (show _ < 61; omega) | (show _ < 20; omega)) ((f1.trans ((if_neg (List.cons_ne_nil _ _)).trans e6))) ?_
        refine ab_if_ne X 44 d_MA_tryIf_30 rfl (fun hb => absurd (rfl) hb) (fun _ => ?_)
        refine ab_aload_n X 1 d_MA_tryIf_33 rfl rfl ?_
        refine ab_aload_n X 1 d_MA_tryIf_34 rfl rfl ?_
        refine ab_bipush (v := 13) X d_MA_tryIf_35 (by decide) ?_
        refine ab_aload_n X 2 d_MA_tryIf_37 rfl rfl ?_
        refine ab_callV (as := [ab_I (nI 13), ab_O 5 0]) X (fun h => by cases h) (t_MA_findF u1 13 a n r P1.1 (Or.inl rfl) (z1.2.trans e4) (Wx.fr z1.1) hf) lk_MA_98 d_MA_tryIf_38 rfl rfl (by first | assumption | decide | (show _ < 124; omega) | (show _ < 61; omega) | (show _ < 20; omega)) ⟨by first | exact Nat.le_of_ble_eq_true rfl | (simp only [ab_rm]; omega), by first | exact Nat.le_of_ble_eq_true rfl | (simp only [ab_rm]; omega)⟩ ⟨by first | exact Nat.le_of_ble_eq_true rfl | (simp only [ab_rm]; omega), by first | exact Nat.le_of_ble_eq_true rfl | (simp only [ab_rm]; omega)⟩ (Nat.le_of_ble_eq_true rfl) (fun u38 r38 h38 => ?_)
        obtain ⟨e38, rfl⟩ := h38
        subst u38
        refine ab_putI X fp_MA_25 d_MA_tryIf_41 (by first | assumption | decide | (show _ < 124; omega) | (show _ < 61; omega) | (show _ < 20; omega)) rfl rfl ?_
        refine ab_gen (fun u41 e41 => ?_)
        have P41 : mQ u u41 := by rw [e41]; exact P1.m4 (by omega)
        exact ab_retv X hr0 hlk d_MA_tryIf_44 ⟨sQ.jmp P41 hf (show stp hh aa x r (w :: t) sd = some (skw 13 r, t, sd) by simp [stp, hx, q0]) (by rw [e41]; exact (ui_n _ (by omega)).trans (f1.trans ((if_neg (List.cons_ne_nil _ _)).trans e6))) (by rw [e41]; exact c1.ui (by decide)) hn (by rw [e41]; exact ui_s _), rfl⟩
      ·
        refine ab_aload_n X 0 d_MA_tryIf_0 rfl rfl ?_
        refine ab_callV (as := []) X (fun h => by cases h) (x_MA_take u (w :: t) sd h C (by show t.length + 1 ≤ 168; omega)) lk_MA_64 d_MA_tryIf_1 rfl rfl (by first | assumption | decide | (show _ < 124; omega) | (show _ < 61; omega) | (show _ < 20; omega)) ⟨by first | exact Nat.le_of_ble_eq_true rfl | (simp only [ab_rm]; omega), by first | exact Nat.le_of_ble_eq_true rfl | (simp only [ab_rm]; omega)⟩ ⟨by first | exact Nat.le_of_ble_eq_true rfl | (simp only [ab_rm]; omega), by first | exact Nat.le_of_ble_eq_true rfl | (simp only [ab_rm]; omega)⟩ (Nat.le_of_ble_eq_true rfl) (fun u1 r1 h1 => ?_)
        obtain ⟨⟨z1, c1, f1⟩, rfl⟩ := h1
        have q1 := z1.1
        have P1 := P0.trans q1 (by decide)
        refine ab_istore_n2 X 0 1 d_MA_tryIf_4 rfl (by decide) rfl rfl rfl rfl ?_
        refine ab_iload_n X 0 d_MA_tryIf_5 rfl rfl ?_
        refine ab_iconst (v := 1) X d_MA_tryIf_6 (by decide) ?_
        refine ab_icmp_eq X 22 d_MA_tryIf_7 rfl (fun hb => absurd hb ((nI_ne (a := w) (b := 1) (by omega) (by decide) y1))) (fun _ => ?_)
        refine ab_iload_n X 0 d_MA_tryIf_10 rfl rfl ?_
        refine ab_if_eq X 22 d_MA_tryIf_11 rfl (fun hb => absurd hb ((nI_n0 (n := w) (by omega) q0))) (fun _ => ?_)
        refine ab_aload_n X 1 d_MA_tryIf_14 rfl rfl ?_
        refine ab_iconst (v := 1) X d_MA_tryIf_15 (by decide) ?_
        refine ab_putI X fp_MA_31 d_MA_tryIf_16 (by first | assumption | decide | (show _ < 124; omega) | (show _ < 61; omega) | (show _ < 20; omega)) rfl rfl ?_
        refine ab_gen (fun u16 e16 => ?_)
        have P16 : mQ u u16 := by rw [e16]; exact P1.ui rfl (by decide)
        refine ab_goto X 44 d_MA_tryIf_19 rfl ?_
        exact ab_retv X hr0 hlk d_MA_tryIf_44 ⟨sQ.no P16 (show stp hh aa x r (w :: t) sd = none by simp [stp, hx, q0, y1]) (by rw [e16]; exact ui_s _) (by rw [e16]; exact (ui_n _ (by omega)).trans (z1.2.trans e4)), rfl⟩
set_option maxRecDepth 100000 in
set_option maxHeartbeats 1000000 in
theorem x_MA_repeatTop (u : ab_S) (st sd : List Nat) (h : CI u) (C : cM u st sd) (hh aa : Int32) (x a : Nat) (r : List Nat) (hL : st.length < 167) (e4 : u.1 7 0 4 = nI a) (e6 : u.1 7 0 6 = 0) (Wx : wX u a r) (G : gd x r st) (hx : x / 1000 = 16) : ab_C false l D ca y_MA_repeatTop b_MA_repeatTop 2 none 1 ab_nQ u [ab_O 7 0] (fun u' w => sQ hh aa x r st sd a u u' ∧ w = none) := by
  refine ab_C.of (by decide) (Nat.le_of_ble_eq_true rfl) ?_
  intro p e s m args below meth c ad X hZ hr0 hlk
  have P0 : mQ u u := mQ.rf h
  obtain ⟨w, t, rfl, hw⟩ := G.1 (Or.inl hx)
  have hL : t.length + 1 < 167 := hL
  by_cases q0 : w = 0
  ·
    refine ab_aload_n X 0 d_MA_repeatTop_0 rfl rfl ?_
    refine ab_callV (as := []) X (fun h => by cases h) (x_MA_take u (w :: t) sd h C (by show t.length + 1 ≤ 168; omega)) lk_MA_64 d_MA_repeatTop_1 rfl rfl (by first | assumption | decide | (show _ < 124; omega) | (show _ < 61; omega) | (show _ < 20; omega)) ⟨by first | exact Nat.le_of_ble_eq_true rfl | (simp only [ab_rm]; omega), by first | exact Nat.le_of_ble_eq_true rfl | (simp only [ab_rm]; omega)⟩ ⟨by first | exact Nat.le_of_ble_eq_true rfl | (simp only [ab_rm]; omega), by first | exact Nat.le_of_ble_eq_true rfl | (simp only [ab_rm]; omega)⟩ (Nat.le_of_ble_eq_true rfl) (fun u1 r1 h1 => ?_)
    obtain ⟨⟨z1, c1, f1⟩, rfl⟩ := h1
    have q1 := z1.1
    have P1 := P0.trans q1 (by decide)
    refine ab_istore_n1 X 0 d_MA_repeatTop_4 rfl (by decide) rfl rfl ?_
    refine ab_aload_n X 1 d_MA_repeatTop_5 rfl rfl ?_
    refine ab_iload_n X 0 d_MA_repeatTop_6 rfl rfl ?_
    refine ab_callV (as := [ab_I (nI w)]) X (fun h => by cases h) (x_MA_push u1 w t sd P1.1 c1 (by omega) (by omega)) lk_MA_57 d_MA_repeatTop_7 rfl rfl (by first | assumption | decide | (show _ < 124; omega) | (show _ < 61; omega) | (show _ < 20; omega)) ⟨by first | exact Nat.le_of_ble_eq_true rfl | (simp only [ab_rm]; omega), by first | exact Nat.le_of_ble_eq_true rfl | (simp only [ab_rm]; omega)⟩ ⟨by first | exact Nat.le_of_ble_eq_true rfl | (simp only [ab_rm]; omega), by first | exact Nat.le_of_ble_eq_true rfl | (simp only [ab_rm]; omega)⟩ (Nat.le_of_ble_eq_true rfl) (fun u7 r7 h7 => ?_)
    obtain ⟨⟨z7, c7, f7⟩, rfl⟩ := h7
    have q7 := z7.1
    have P7 := P1.trans q7 (by decide)
    refine ab_iload_n X 0 d_MA_repeatTop_10 rfl rfl ?_
    refine ab_if_eq X 19 d_MA_repeatTop_11 rfl (fun _ => ?_) (fun hb => absurd ((congrArg nI q0)) hb)
    exact ab_retv X hr0 hlk d_MA_repeatTop_19 ⟨sQ.yes P7 (show stp hh aa x r (w :: t) sd = some (r, w :: t, sd) by rw [stp_16 hx hw, if_pos q0]) (f7.trans (f1.trans ((if_neg (List.cons_ne_nil _ _)).trans e6))) c7 (z7.2.trans (z1.2.trans e4)), rfl⟩
  ·
    refine ab_aload_n X 0 d_MA_repeatTop_0 rfl rfl ?_
    refine ab_callV (as := []) X (fun h => by cases h) (x_MA_take u (w :: t) sd h C (by show t.length + 1 ≤ 168; omega)) lk_MA_64 d_MA_repeatTop_1 rfl rfl (by first | assumption | decide | (show _ < 124; omega) | (show _ < 61; omega) | (show _ < 20; omega)) ⟨by first | exact Nat.le_of_ble_eq_true rfl | (simp only [ab_rm]; omega), by first | exact Nat.le_of_ble_eq_true rfl | (simp only [ab_rm]; omega)⟩ ⟨by first | exact Nat.le_of_ble_eq_true rfl | (simp only [ab_rm]; omega), by first | exact Nat.le_of_ble_eq_true rfl | (simp only [ab_rm]; omega)⟩ (Nat.le_of_ble_eq_true rfl) (fun u1 r1 h1 => ?_)
    obtain ⟨⟨z1, c1, f1⟩, rfl⟩ := h1
    have q1 := z1.1
    have P1 := P0.trans q1 (by decide)
    refine ab_istore_n1 X 0 d_MA_repeatTop_4 rfl (by decide) rfl rfl ?_
    refine ab_aload_n X 1 d_MA_repeatTop_5 rfl rfl ?_
    refine ab_iload_n X 0 d_MA_repeatTop_6 rfl rfl ?_
    refine ab_callV (as := [ab_I (nI w)]) X (fun h => by cases h) (x_MA_push u1 w t sd P1.1 c1 (by omega) (by omega)) lk_MA_57 d_MA_repeatTop_7 rfl rfl (by first | assumption | decide | (show _ < 124; omega) | (show _ < 61; omega) | (show _ < 20; omega)) ⟨by first | exact Nat.le_of_ble_eq_true rfl | (simp only [ab_rm]; omega), by first | exact Nat.le_of_ble_eq_true rfl | (simp only [ab_rm]; omega)⟩ ⟨by first | exact Nat.le_of_ble_eq_true rfl | (simp only [ab_rm]; omega), by first | exact Nat.le_of_ble_eq_true rfl | (simp only [ab_rm]; omega)⟩ (Nat.le_of_ble_eq_true rfl) (fun u7 r7 h7 => ?_)
    obtain ⟨⟨z7, c7, f7⟩, rfl⟩ := h7
    have q7 := z7.1
    have P7 := P1.trans q7 (by decide)
    refine ab_iload_n X 0 d_MA_repeatTop_10 rfl rfl ?_
    refine ab_if_eq X 19 d_MA_repeatTop_11 rfl (fun hb => absurd hb ((nI_n0 (n := w) (by omega) q0))) (fun _ => ?_)
    refine ab_aload_n X 1 d_MA_repeatTop_14 rfl rfl ?_
    refine ab_iload_n X 0 d_MA_repeatTop_15 rfl rfl ?_
    refine ab_callV (as := [ab_I (nI w)]) X (fun h => by cases h) (x_MA_push u7 w (w :: t) sd P7.1 c7 (by omega) (by show t.length + 1 < 168; omega)) lk_MA_57 d_MA_repeatTop_16 rfl rfl (by first | assumption | decide | (show _ < 124; omega) | (show _ < 61; omega) | (show _ < 20; omega)) ⟨by first | exact Nat.le_of_ble_eq_true rfl | (simp only [ab_rm]; omega), by first | exact Nat.le_of_ble_eq_true rfl | (simp only [ab_rm]; omega)⟩ ⟨by first | exact Nat.le_of_ble_eq_true rfl | (simp only [ab_rm]; omega), by first | exact Nat.le_of_ble_eq_true rfl | (simp only [ab_rm]; omega)⟩ (Nat.le_of_ble_eq_true rfl) (fun u16 r16 h16 => ?_)
    obtain ⟨⟨z16, c16, f16⟩, rfl⟩ := h16
    have q16 := z16.1
    have P16 := P7.trans q16 (by decide)
    exact ab_retv X hr0 hlk d_MA_repeatTop_19 ⟨sQ.yes P16 (show stp hh aa x r (w :: t) sd = some (r, w :: w :: t, sd) by rw [stp_16 hx hw, if_neg q0]) (f16.trans (f7.trans (f1.trans ((if_neg (List.cons_ne_nil _ _)).trans e6)))) c16 (z16.2.trans (z7.2.trans (z1.2.trans e4))), rfl⟩
end SaXMach

