/-! The reference's writing of scripts, word by word. -/
/-- what is written so far, from b on -/
def ww (u0 u : ab_S) (b : Nat) (L : List Nat) : Prop := gP [16, 109] u0 u ∧ u.1 17 0 17 = nI b ∧ u.1 17 0 16 = nI L.length ∧ (∀ i, i < L.length → u.1 18 9 (b + i) = nI (L.getD i 0)) ∧ ∀ q, (q < b ∨ b + 100 ≤ q) → u.1 18 9 q = u0.1 18 9 q
theorem ww.cast {u0 u : ab_S} {b : Nat} {L L' : List Nat} (h : ww u0 u b L) (e : L = L') : ww u0 u b L' := e ▸ h
/-- a form's words stand in its place -/
def rg (u : ab_S) (f : Nat) (ws : List Nat) : Prop := u.1 18 6 f = nI ws.length ∧ ws.length ≤ 100 ∧ ∀ i, i < ws.length → u.1 18 9 (100 * f + i) = nI (ws.getD i 0)
theorem rg.fr {F : List Nat} {u u' : ab_S} {f : Nat} {ws : List Nat} (h : rg u f ws) (g : gP F u u') (h6 : ¬ 100 + 6 ∈ F) (h9 : ¬ 100 + 9 ∈ F) : rg u' f ws := ⟨g.ai h6 h.1, h.2.1, fun i hi => g.ai h9 (h.2.2 i hi)⟩
theorem rg.keep {u u' : ab_S} {f : Nat} {ws : List Nat} (h : rg u f ws) (e6 : u'.1 18 6 f = u.1 18 6 f) (e9 : ∀ q, 100 * f ≤ q → q < 100 * f + 100 → u'.1 18 9 q = u.1 18 9 q) : rg u' f ws := ⟨e6.trans h.1, h.2.1, fun i hi => (e9 _ (by omega) (by have := h.2.1; omega)).trans (h.2.2 i hi)⟩
theorem ww.one {u0 u u' : ab_S} {b : Nat} {L : List Nat} (h : ww u0 u b L) (hk : L.length < 100) {a : Nat} (e : u' = ab_ui (ab_ui u 18 9 (b + L.length) (nI a)) 17 0 16 (nI (L.length + 1))) : ww u0 u' b (L ++ [a]) := by
  obtain ⟨h1, h2, h3, h4, h5⟩ := h
  have es : ∀ q, q ≠ b + L.length → u'.1 18 9 q = u.1 18 9 q := fun q hq => by rw [e]; exact (ui_n _ (by omega)).trans (ui_n _ (by omega))
  refine ⟨by rw [e]; exact (h1.ui rfl trivial).ui rfl trivial, by rw [e]; exact (ui_n _ (by omega)).trans ((ui_n _ (by omega)).trans h2), by rw [e, List.length_append]; exact ui_s _, fun i hi => ?_, fun q hq => (es q (by omega)).trans (h5 q hq)⟩
  rw [List.length_append] at hi
  have hi : i < L.length + 1 := hi
  by_cases z : i = L.length
  · subst z
    rw [e]
    exact (ui_n _ (by omega)).trans ((ui_s _).trans (by rw [show L.length = L.length + 0 from rfl, gd_app]; rfl))
  · exact (es _ (by omega)).trans ((h4 i (by omega)).trans (by rw [gd_appl (by omega)]))
section SaXMSay
variable {l : Launch} {D : va_G} {ca : Nat → ClassId}
set_option maxRecDepth 100000 in
set_option maxHeartbeats 1000000 in
theorem x_MO_say (u0 u : ab_S) (b : Nat) (L : List Nat) (h : ww u0 u b L) (hk : L.length < 100) (hb : b + 100 ≤ 7200) (o a : Nat) : ab_C false l D ca y_MO_say b_MO_say 3 none 0 ab_nQ u [ab_O 17 0, ab_I (nI o), ab_I (nI a)] (fun u' v => ww u0 u' b (L ++ [1000 * o + a]) ∧ v = none) := by
  refine ab_C.of (by decide) (Nat.le_of_ble_eq_true rfl) ?_
  intro p e s m args below meth c ad X hZ hr0 hlk
  have P0 : gP [16, 109] u u := gP.rf h.1.1
  refine ab_aload_n X 0 d_MO_say_0 rfl rfl ?_
  refine ab_gR X fl_MO_57 d_MO_say_1 (by first | assumption | decide | (show _ < 124; omega) | (show _ < 61; omega) | (show _ < 20; omega)) (P0.1.mo15) ?_
  refine ab_aload_n X 0 d_MO_say_4 rfl rfl ?_
  refine ab_gI X fl_MO_63 d_MO_say_5 (by first | assumption | decide | (show _ < 124; omega) | (show _ < 61; omega) | (show _ < 20; omega)) (h.2.1) ?_
  refine ab_aload_n X 0 d_MO_say_8 rfl rfl ?_
  refine ab_gI X fl_MO_60 d_MO_say_9 (by first | assumption | decide | (show _ < 124; omega) | (show _ < 61; omega) | (show _ < 20; omega)) (h.2.2.1) ?_
  refine ab_iadd X d_MO_say_12 ?_
  refine ab_top (nI_add b L.length) ?_
  refine ab_sipush (v := 1000) X d_MO_say_13 (by decide) ?_
  refine ab_iload_n X 1 d_MO_say_16 rfl rfl ?_
  refine ab_imul X d_MO_say_17 ?_
  refine ab_top (pk_mul 1000 o) ?_
  refine ab_iload_n X 2 d_MO_say_18 rfl rfl ?_
  refine ab_iadd X d_MO_say_19 ?_
  refine ab_top (nI_add _ _) ?_
  refine ab_iast X (b + L.length) ⟨rfl, rfl⟩ d_MO_say_20 (by first | assumption | decide | (show _ < 124; omega) | (show _ < 61; omega) | (show _ < 20; omega)) (rfl) (show b + L.length < 7200 by omega) (ab_ln_lt _ _) ?_
  refine ab_gen (fun u20 e20 => ?_)
  have P20 : gP [16, 109] u u20 := by rw [e20]; exact P0.ui rfl (by decide)
  refine ab_aload_n X 0 d_MO_say_21 rfl rfl ?_
  refine ab_dup X d_MO_say_22 rfl ?_
  refine ab_gI X fl_MO_60 d_MO_say_23 (by first | assumption | decide | (show _ < 124; omega) | (show _ < 61; omega) | (show _ < 20; omega)) ((show _ = nI L.length by rw [e20]; exact (ui_n _ (by omega)).trans h.2.2.1)) ?_
  refine ab_iconst (v := 1) X d_MO_say_26 (by decide) ?_
  refine ab_iadd X d_MO_say_27 ?_
  refine ab_top (nI_1 _) ?_
  refine ab_putI X fp_MO_60 d_MO_say_28 (by first | assumption | decide | (show _ < 124; omega) | (show _ < 61; omega) | (show _ < 20; omega)) rfl rfl ?_
  refine ab_gen (fun u28 e28 => ?_)
  have P28 : gP [16, 109] u u28 := by rw [e28]; exact P20.ui rfl (by decide)
  exact ab_retv X hr0 hlk d_MO_say_31 ⟨by subst e20; exact h.one hk e28, rfl⟩
set_option maxRecDepth 100000 in
set_option maxHeartbeats 1000000 in
theorem x_MO_sayForm (u0 u : ab_S) (b : Nat) (L : List Nat) (h : ww u0 u b L) (hb : b + 100 ≤ 7200) (f : Nat) (ws : List Nat) (hf : f < 72) (hd : 100 * f + 100 ≤ b ∨ b + 100 ≤ 100 * f) (G : rg u0 f ws) (hkn : L.length + ws.length ≤ 100) : ab_C false l D ca y_MO_sayForm b_MO_sayForm 3 none 0 ab_nQ u [ab_O 17 0, ab_I (nI f)] (fun u' v => ww u0 u' b (L ++ ws) ∧ v = none) := by
  refine ab_C.of (by decide) (Nat.le_of_ble_eq_true rfl) ?_
  intro p e s m args below meth c ad X hZ hr0 hlk
  have P0 : gP [16, 109] u u := gP.rf h.1.1
  obtain ⟨en, hn, hx⟩ := G
  have tk : ∀ i, i < ws.length → ws.take (i + 1) = ws.take i ++ [ws.getD i 0] := fun i hi => by
    rw [List.take_succ, List.getD_eq_getElem?_getD, List.getElem?_eq_getElem hi]; rfl
  have tl : ∀ i, i ≤ ws.length → (L ++ ws.take i).length = L.length + i := fun i hi => by rw [List.length_append, List.length_take, Nat.min_eq_left hi]
  have loop : ∀ (r i : Nat) (u1 : ab_S), r + i = ws.length → gP [16, 109] u u1 → ww u0 u1 b (L ++ ws.take i) → ab_J p l e (ab_rm 0 0 0) s m args below meth c (MQ below (ab_Q D ca ad ab_nQ s.heap.size (fun u' v => ww u0 u' b (L ++ ws) ∧ v = none)) args s 0 0 (ab_A ad ab_nQ s.heap.size)) D ca (ab_A ad ab_nQ s.heap.size) s.heap 3 0 0 ad ab_nQ u1 2 [(2, ab_I (nI i)), (0, ab_O 17 0), (1, ab_I (nI f))] [] := by
    intro r
    induction r with
    | zero =>
      intro i u1 hi P1 h1
      obtain rfl : i = ws.length := by omega
      refine ab_iload_n X 0 d_MO_sayForm_2 rfl rfl ?_
      refine ab_aload_n X 1 d_MO_sayForm_3 rfl rfl ?_
      refine ab_gR X fl_MO_48 d_MO_sayForm_4 (by first | assumption | decide | (show _ < 124; omega) | (show _ < 61; omega) | (show _ < 20; omega)) (P1.1.mo12) ?_
      refine ab_iload_n X 2 d_MO_sayForm_7 rfl rfl ?_
      refine ab_iald X (f) ⟨rfl, rfl⟩ d_MO_sayForm_8 (by first | assumption | decide | (show _ < 124; omega) | (show _ < 61; omega) | (show _ < 20; omega)) (rfl) (show f < 72 by omega) (ab_ln_lt _ _) ?_
      refine ab_top (h1.1.ai (by decide) en) ?_
      refine ab_icmp_ge X 53 d_MO_sayForm_9 rfl (fun _ => ?_) (fun hb => absurd ((nI_le (Nat.le_refl _) (by omega))) hb)
      exact ab_retv X hr0 hlk d_MO_sayForm_53 ⟨h1.cast (by rw [List.take_length]), rfl⟩
    | succ r ih =>
      intro i u1 hi P1 h1
      have hs : u1.1 18 9 (100 * f + i) = nI (ws.getD i 0) := (h1.2.2.2.2 _ (by omega)).trans (hx i (by omega))
      have l1 := tl i (by omega)
      have h3 : u1.1 17 0 16 = nI (L.length + i) := h1.2.2.1.trans (by rw [l1])
      refine ab_iload_n X 0 d_MO_sayForm_2 rfl rfl ?_
      refine ab_aload_n X 1 d_MO_sayForm_3 rfl rfl ?_
      refine ab_gR X fl_MO_48 d_MO_sayForm_4 (by first | assumption | decide | (show _ < 124; omega) | (show _ < 61; omega) | (show _ < 20; omega)) (P1.1.mo12) ?_
      refine ab_iload_n X 2 d_MO_sayForm_7 rfl rfl ?_
      refine ab_iald X (f) ⟨rfl, rfl⟩ d_MO_sayForm_8 (by first | assumption | decide | (show _ < 124; omega) | (show _ < 61; omega) | (show _ < 20; omega)) (rfl) (show f < 72 by omega) (ab_ln_lt _ _) ?_
      refine ab_top (h1.1.ai (by decide) en) ?_
      refine ab_icmp_ge X 53 d_MO_sayForm_9 rfl (fun hb => absurd hb ((nI_ge (by omega) (by omega)))) (fun _ => ?_)
      refine ab_aload_n X 1 d_MO_sayForm_12 rfl rfl ?_
      refine ab_gR X fl_MO_57 d_MO_sayForm_13 (by first | assumption | decide | (show _ < 124; omega) | (show _ < 61; omega) | (show _ < 20; omega)) (P1.1.mo15) ?_
      refine ab_aload_n X 1 d_MO_sayForm_16 rfl rfl ?_
      refine ab_gI X fl_MO_63 d_MO_sayForm_17 (by first | assumption | decide | (show _ < 124; omega) | (show _ < 61; omega) | (show _ < 20; omega)) (h1.2.1) ?_
      refine ab_aload_n X 1 d_MO_sayForm_20 rfl rfl ?_
      refine ab_gI X fl_MO_60 d_MO_sayForm_21 (by first | assumption | decide | (show _ < 124; omega) | (show _ < 61; omega) | (show _ < 20; omega)) (h3) ?_
      refine ab_iadd X d_MO_sayForm_24 ?_
      refine ab_top (nI_add b (L.length + i)) ?_
      refine ab_aload_n X 1 d_MO_sayForm_25 rfl rfl ?_
      refine ab_gR X fl_MO_57 d_MO_sayForm_26 (by first | assumption | decide | (show _ < 124; omega) | (show _ < 61; omega) | (show _ < 20; omega)) (P1.1.mo15) ?_
      refine ab_bipush (v := 100) X d_MO_sayForm_29 (by decide) ?_
      refine ab_iload_n X 2 d_MO_sayForm_31 rfl rfl ?_
      refine ab_imul X d_MO_sayForm_32 ?_
      refine ab_iload_n X 0 d_MO_sayForm_33 rfl rfl ?_
      refine ab_iadd X d_MO_sayForm_34 ?_
      refine ab_iald X (100 * f + i) ⟨rfl, rfl⟩ d_MO_sayForm_35 (by first | assumption | decide | (show _ < 124; omega) | (show _ < 61; omega) | (show _ < 20; omega)) (nI_100a f i) (show 100 * f + i < 7200 by omega) (ab_ln_lt _ _) ?_
      refine ab_top hs ?_
      refine ab_iast X (b + (L.length + i)) ⟨rfl, rfl⟩ d_MO_sayForm_36 (by first | assumption | decide | (show _ < 124; omega) | (show _ < 61; omega) | (show _ < 20; omega)) (rfl) (show b + (L.length + i) < 7200 by omega) (ab_ln_lt _ _) ?_
      refine ab_gen (fun u36 e36 => ?_)
      have P36 : gP [16, 109] u u36 := by rw [e36]; exact P1.ui rfl (by decide)
      refine ab_aload_n X 1 d_MO_sayForm_37 rfl rfl ?_
      refine ab_dup X d_MO_sayForm_38 rfl ?_
      refine ab_gI X fl_MO_60 d_MO_sayForm_39 (by first | assumption | decide | (show _ < 124; omega) | (show _ < 61; omega) | (show _ < 20; omega)) ((show _ = nI (L.length + i) by rw [e36]; exact (ui_n _ (by omega)).trans h3)) ?_
      refine ab_iconst (v := 1) X d_MO_sayForm_42 (by decide) ?_
      refine ab_iadd X d_MO_sayForm_43 ?_
      refine ab_top (nI_1 _) ?_
      refine ab_putI X fp_MO_60 d_MO_sayForm_44 (by first | assumption | decide | (show _ < 124; omega) | (show _ < 61; omega) | (show _ < 20; omega)) rfl rfl ?_
      refine ab_gen (fun u44 e44 => ?_)
      have P44 : gP [16, 109] u u44 := by rw [e44]; exact P36.ui rfl (by decide)
      refine ab_iinc2 X 0 1 2 d_MO_sayForm_47 rfl (by decide) rfl rfl rfl rfl ?_
      refine ab_goto X 2 d_MO_sayForm_50 rfl ?_
      rw [show nI i + Int32.ofInt 1 = nI (i + 1) from nI_1 i]
      exact ih (i + 1) _ (by omega) P44 (by subst e36; rw [tk i (by omega), ← List.append_assoc]; exact h1.one (by omega) (by rw [l1]; exact e44))
  refine ab_iconst (v := 0) X d_MO_sayForm_0 (by decide) ?_
  refine ab_istore_n2 X 0 1 d_MO_sayForm_1 rfl (by decide) rfl rfl rfl rfl ?_
  exact loop ws.length 0 _ (by omega) P0 (h.cast (by rw [List.take_zero, List.append_nil]))
set_option maxRecDepth 100000 in
set_option maxHeartbeats 1000000 in
theorem x_MO_sayTwice (u0 u : ab_S) (b : Nat) (L : List Nat) (h : ww u0 u b L) (hb : b + 100 ≤ 7200) (f g : Nat) (w1 w2 : List Nat) (hf1 : f < 72) (hd1 : 100 * f + 100 ≤ b ∨ b + 100 ≤ 100 * f) (G1 : rg u0 f w1) (hf2 : g < 72) (hd2 : 100 * g + 100 ≤ b ∨ b + 100 ≤ 100 * g) (G2 : rg u0 g w2) (hk : L.length + w1.length + w2.length + 3 ≤ 100) : ab_C false l D ca y_MO_sayTwice b_MO_sayTwice 3 none 1 ab_nQ u [ab_O 17 0, ab_I (nI f), ab_I (nI g)] (fun u' v => ww u0 u' b (L ++ (w1 ++ [16000] ++ [15000] ++ w2 ++ [14000])) ∧ v = none) := by
  refine ab_C.of (by decide) (Nat.le_of_ble_eq_true rfl) ?_
  intro p e s m args below meth c ad X hZ hr0 hlk
  have P0 : gP [16, 109] u0 u := h.1
  refine ab_aload_n X 0 d_MO_sayTwice_0 rfl rfl ?_
  refine ab_iload_n X 1 d_MO_sayTwice_1 rfl rfl ?_
  refine ab_callV (as := [ab_I (nI f)]) X (fun h => by cases h) (x_MO_sayForm u0 u b _ h hb f w1 hf1 hd1 G1 (by first | omega | (simp only [List.length_append, List.length_cons, List.length_nil]; omega))) lk_MO_239 d_MO_sayTwice_2 rfl rfl (by first | assumption | decide | (show _ < 124; omega) | (show _ < 61; omega) | (show _ < 20; omega)) ⟨by first | exact Nat.le_of_ble_eq_true rfl | (simp only [ab_rm]; omega), by first | exact Nat.le_of_ble_eq_true rfl | (simp only [ab_rm]; omega)⟩ ⟨by first | exact Nat.le_of_ble_eq_true rfl | (simp only [ab_rm]; omega), by first | exact Nat.le_of_ble_eq_true rfl | (simp only [ab_rm]; omega)⟩ (Nat.le_of_ble_eq_true rfl) (fun u2 r2 h2 => ?_)
  obtain ⟨q2, rfl⟩ := h2
  have P2 := q2.1
  refine ab_aload_n X 0 d_MO_sayTwice_5 rfl rfl ?_
  refine ab_bipush (v := 16) X d_MO_sayTwice_6 (by decide) ?_
  refine ab_iconst (v := 0) X d_MO_sayTwice_8 (by decide) ?_
  refine ab_callV (as := [ab_I (nI 16), ab_I (nI 0)]) X (fun h => by cases h) (x_MO_say u0 u2 b _ q2 (by first | omega | (simp only [List.length_append, List.length_cons, List.length_nil]; omega)) hb 16 0) lk_MO_242 d_MO_sayTwice_9 rfl rfl (by first | assumption | decide | (show _ < 124; omega) | (show _ < 61; omega) | (show _ < 20; omega)) ⟨by first | exact Nat.le_of_ble_eq_true rfl | (simp only [ab_rm]; omega), by first | exact Nat.le_of_ble_eq_true rfl | (simp only [ab_rm]; omega)⟩ ⟨by first | exact Nat.le_of_ble_eq_true rfl | (simp only [ab_rm]; omega), by first | exact Nat.le_of_ble_eq_true rfl | (simp only [ab_rm]; omega)⟩ (Nat.le_of_ble_eq_true rfl) (fun u9 r9 h9 => ?_)
  obtain ⟨q9, rfl⟩ := h9
  have P9 := q9.1
  refine ab_aload_n X 0 d_MO_sayTwice_12 rfl rfl ?_
  refine ab_bipush (v := 15) X d_MO_sayTwice_13 (by decide) ?_
  refine ab_iconst (v := 0) X d_MO_sayTwice_15 (by decide) ?_
  refine ab_callV (as := [ab_I (nI 15), ab_I (nI 0)]) X (fun h => by cases h) (x_MO_say u0 u9 b _ q9 (by first | omega | (simp only [List.length_append, List.length_cons, List.length_nil]; omega)) hb 15 0) lk_MO_242 d_MO_sayTwice_16 rfl rfl (by first | assumption | decide | (show _ < 124; omega) | (show _ < 61; omega) | (show _ < 20; omega)) ⟨by first | exact Nat.le_of_ble_eq_true rfl | (simp only [ab_rm]; omega), by first | exact Nat.le_of_ble_eq_true rfl | (simp only [ab_rm]; omega)⟩ ⟨by first | exact Nat.le_of_ble_eq_true rfl | (simp only [ab_rm]; omega), by first | exact Nat.le_of_ble_eq_true rfl | (simp only [ab_rm]; omega)⟩ (Nat.le_of_ble_eq_true rfl) (fun u16 r16 h16 => ?_)
  obtain ⟨q16, rfl⟩ := h16
  have P16 := q16.1
  refine ab_aload_n X 0 d_MO_sayTwice_19 rfl rfl ?_
  refine ab_iload_n X 2 d_MO_sayTwice_20 rfl rfl ?_
  refine ab_callV (as := [ab_I (nI g)]) X (fun h => by cases h) (x_MO_sayForm u0 u16 b _ q16 hb g w2 hf2 hd2 G2 (by first | omega | (simp only [List.length_append, List.length_cons, List.length_nil]; omega))) lk_MO_239 d_MO_sayTwice_21 rfl rfl (by first | assumption | decide | (show _ < 124; omega) | (show _ < 61; omega) | (show _ < 20; omega)) ⟨by first | exact Nat.le_of_ble_eq_true rfl | (simp only [ab_rm]; omega), by first | exact Nat.le_of_ble_eq_true rfl | (simp only [ab_rm]; omega)⟩ ⟨by first | exact Nat.le_of_ble_eq_true rfl | (simp only [ab_rm]; omega), by first | exact Nat.le_of_ble_eq_true rfl | (simp only [ab_rm]; omega)⟩ (Nat.le_of_ble_eq_true rfl) (fun u21 r21 h21 => ?_)
  obtain ⟨q21, rfl⟩ := h21
  have P21 := q21.1
  refine ab_aload_n X 0 d_MO_sayTwice_24 rfl rfl ?_
  refine ab_bipush (v := 14) X d_MO_sayTwice_25 (by decide) ?_
  refine ab_iconst (v := 0) X d_MO_sayTwice_27 (by decide) ?_
  refine ab_callV (as := [ab_I (nI 14), ab_I (nI 0)]) X (fun h => by cases h) (x_MO_say u0 u21 b _ q21 (by first | omega | (simp only [List.length_append, List.length_cons, List.length_nil]; omega)) hb 14 0) lk_MO_242 d_MO_sayTwice_28 rfl rfl (by first | assumption | decide | (show _ < 124; omega) | (show _ < 61; omega) | (show _ < 20; omega)) ⟨by first | exact Nat.le_of_ble_eq_true rfl | (simp only [ab_rm]; omega), by first | exact Nat.le_of_ble_eq_true rfl | (simp only [ab_rm]; omega)⟩ ⟨by first | exact Nat.le_of_ble_eq_true rfl | (simp only [ab_rm]; omega), by first | exact Nat.le_of_ble_eq_true rfl | (simp only [ab_rm]; omega)⟩ (Nat.le_of_ble_eq_true rfl) (fun u28 r28 h28 => ?_)
  obtain ⟨q28, rfl⟩ := h28
  have P28 := q28.1
  exact ab_retv X hr0 hlk d_MO_sayTwice_31 ⟨q28.cast (by simp [List.append_assoc]), rfl⟩
set_option maxRecDepth 100000 in
set_option maxHeartbeats 1000000 in
theorem x_MO_sayIf (u0 u : ab_S) (b : Nat) (L : List Nat) (h : ww u0 u b L) (hb : b + 100 ≤ 7200) (f g : Nat) (w1 w2 : List Nat) (hf1 : f < 72) (hd1 : 100 * f + 100 ≤ b ∨ b + 100 ≤ 100 * f) (G1 : rg u0 f w1) (hf2 : g < 72) (hd2 : 100 * g + 100 ≤ b ∨ b + 100 ≤ 100 * g) (G2 : rg u0 g w2) (hk : L.length + w1.length + w2.length + 3 ≤ 100) : ab_C false l D ca y_MO_sayIf b_MO_sayIf 3 none 1 ab_nQ u [ab_O 17 0, ab_I (nI f), ab_I (nI g)] (fun u' v => ww u0 u' b (L ++ ([12000] ++ w1 ++ [13000] ++ w2 ++ [14000])) ∧ v = none) := by
  refine ab_C.of (by decide) (Nat.le_of_ble_eq_true rfl) ?_
  intro p e s m args below meth c ad X hZ hr0 hlk
  have P0 : gP [16, 109] u0 u := h.1
  refine ab_aload_n X 0 d_MO_sayIf_0 rfl rfl ?_
  refine ab_bipush (v := 12) X d_MO_sayIf_1 (by decide) ?_
  refine ab_iconst (v := 0) X d_MO_sayIf_3 (by decide) ?_
  refine ab_callV (as := [ab_I (nI 12), ab_I (nI 0)]) X (fun h => by cases h) (x_MO_say u0 u b _ h (by first | omega | (simp only [List.length_append, List.length_cons, List.length_nil]; omega)) hb 12 0) lk_MO_242 d_MO_sayIf_4 rfl rfl (by first | assumption | decide | (show _ < 124; omega) | (show _ < 61; omega) | (show _ < 20; omega)) ⟨by first | exact Nat.le_of_ble_eq_true rfl | (simp only [ab_rm]; omega), by first | exact Nat.le_of_ble_eq_true rfl | (simp only [ab_rm]; omega)⟩ ⟨by first | exact Nat.le_of_ble_eq_true rfl | (simp only [ab_rm]; omega), by first | exact Nat.le_of_ble_eq_true rfl | (simp only [ab_rm]; omega)⟩ (Nat.le_of_ble_eq_true rfl) (fun u4 r4 h4 => ?_)
  obtain ⟨q4, rfl⟩ := h4
  have P4 := q4.1
  refine ab_aload_n X 0 d_MO_sayIf_7 rfl rfl ?_
  refine ab_iload_n X 1 d_MO_sayIf_8 rfl rfl ?_
  refine ab_callV (as := [ab_I (nI f)]) X (fun h => by cases h) (x_MO_sayForm u0 u4 b _ q4 hb f w1 hf1 hd1 G1 (by first | omega | (simp only [List.length_append, List.length_cons, List.length_nil]; omega))) lk_MO_239 d_MO_sayIf_9 rfl rfl (by first | assumption | decide | (show _ < 124; omega) | (show _ < 61; omega) | (show _ < 20; omega)) ⟨by first | exact Nat.le_of_ble_eq_true rfl | (simp only [ab_rm]; omega), by first | exact Nat.le_of_ble_eq_true rfl | (simp only [ab_rm]; omega)⟩ ⟨by first | exact Nat.le_of_ble_eq_true rfl | (simp only [ab_rm]; omega), by first | exact Nat.le_of_ble_eq_true rfl | (simp only [ab_rm]; omega)⟩ (Nat.le_of_ble_eq_true rfl) (fun u9 r9 h9 => ?_)
  obtain ⟨q9, rfl⟩ := h9
  have P9 := q9.1
  refine ab_aload_n X 0 d_MO_sayIf_12 rfl rfl ?_
  refine ab_bipush (v := 13) X d_MO_sayIf_13 (by decide) ?_
  refine ab_iconst (v := 0) X d_MO_sayIf_15 (by decide) ?_
  refine ab_callV (as := [ab_I (nI 13), ab_I (nI 0)]) X (fun h => by cases h) (x_MO_say u0 u9 b _ q9 (by first | omega | (simp only [List.length_append, List.length_cons, List.length_nil]; omega)) hb 13 0) lk_MO_242 d_MO_sayIf_16 rfl rfl (by first | assumption | decide | (show _ < 124; omega) | (show _ < 61; omega) | (show _ < 20; omega)) ⟨by first | exact Nat.le_of_ble_eq_true rfl | (simp only [ab_rm]; omega), by first | exact Nat.le_of_ble_eq_true rfl | (simp only [ab_rm]; omega)⟩ ⟨by first | exact Nat.le_of_ble_eq_true rfl | (simp only [ab_rm]; omega), by first | exact Nat.le_of_ble_eq_true rfl | (simp only [ab_rm]; omega)⟩ (Nat.le_of_ble_eq_true rfl) (fun u16 r16 h16 => ?_)
  obtain ⟨q16, rfl⟩ := h16
  have P16 := q16.1
  refine ab_aload_n X 0 d_MO_sayIf_19 rfl rfl ?_
  refine ab_iload_n X 2 d_MO_sayIf_20 rfl rfl ?_
  refine ab_callV (as := [ab_I (nI g)]) X (fun h => by cases h) (x_MO_sayForm u0 u16 b _ q16 hb g w2 hf2 hd2 G2 (by first | omega | (simp only [List.length_append, List.length_cons, List.length_nil]; omega))) lk_MO_239 d_MO_sayIf_21 rfl rfl (by first | assumption | decide | (show _ < 124; omega) | (show _ < 61; omega) | (show _ < 20; omega)) ⟨by first | exact Nat.le_of_ble_eq_true rfl | (simp only [ab_rm]; omega), by first | exact Nat.le_of_ble_eq_true rfl | (simp only [ab_rm]; omega)⟩ ⟨by first | exact Nat.le_of_ble_eq_true rfl | (simp only [ab_rm]; omega), by first | exact Nat.le_of_ble_eq_true rfl | (simp only [ab_rm]; omega)⟩ (Nat.le_of_ble_eq_true rfl) (fun u21 r21 h21 => ?_)
  obtain ⟨q21, rfl⟩ := h21
  have P21 := q21.1
  refine ab_aload_n X 0 d_MO_sayIf_24 rfl rfl ?_
  refine ab_bipush (v := 14) X d_MO_sayIf_25 (by decide) ?_
  refine ab_iconst (v := 0) X d_MO_sayIf_27 (by decide) ?_
  refine ab_callV (as := [ab_I (nI 14), ab_I (nI 0)]) X (fun h => by cases h) (x_MO_say u0 u21 b _ q21 (by first | omega | (simp only [List.length_append, List.length_cons, List.length_nil]; omega)) hb 14 0) lk_MO_242 d_MO_sayIf_28 rfl rfl (by first | assumption | decide | (show _ < 124; omega) | (show _ < 61; omega) | (show _ < 20; omega)) ⟨by first | exact Nat.le_of_ble_eq_true rfl | (simp only [ab_rm]; omega), by first | exact Nat.le_of_ble_eq_true rfl | (simp only [ab_rm]; omega)⟩ ⟨by first | exact Nat.le_of_ble_eq_true rfl | (simp only [ab_rm]; omega), by first | exact Nat.le_of_ble_eq_true rfl | (simp only [ab_rm]; omega)⟩ (Nat.le_of_ble_eq_true rfl) (fun u28 r28 h28 => ?_)
  obtain ⟨q28, rfl⟩ := h28
  have P28 := q28.1
  exact ab_retv X hr0 hlk d_MO_sayIf_31 ⟨q28.cast (by simp [List.append_assoc]), rfl⟩
set_option maxRecDepth 100000 in
set_option maxHeartbeats 1000000 in
theorem x_MO_sayAside (u0 u : ab_S) (b : Nat) (L : List Nat) (h : ww u0 u b L) (hb : b + 100 ≤ 7200) (f g : Nat) (w1 w2 : List Nat) (hf1 : f < 72) (hd1 : 100 * f + 100 ≤ b ∨ b + 100 ≤ 100 * f) (G1 : rg u0 f w1) (hf2 : g < 72) (hd2 : 100 * g + 100 ≤ b ∨ b + 100 ≤ 100 * g) (G2 : rg u0 g w2) (hk : L.length + w1.length + w2.length + 3 ≤ 100) (op : Nat) : ab_C false l D ca y_MO_sayAside b_MO_sayAside 4 none 1 ab_nQ u [ab_O 17 0, ab_I (nI f), ab_I (nI g), ab_I (nI op)] (fun u' v => ww u0 u' b (L ++ (w1 ++ ([10000] ++ w2 ++ [11000] ++ [1000 * op]))) ∧ v = none) := by
  refine ab_C.of (by decide) (Nat.le_of_ble_eq_true rfl) ?_
  intro p e s m args below meth c ad X hZ hr0 hlk
  have P0 : gP [16, 109] u0 u := h.1
  refine ab_aload_n X 0 d_MO_sayAside_0 rfl rfl ?_
  refine ab_iload_n X 1 d_MO_sayAside_1 rfl rfl ?_
  refine ab_callV (as := [ab_I (nI f)]) X (fun h => by cases h) (x_MO_sayForm u0 u b _ h hb f w1 hf1 hd1 G1 (by first | omega | (simp only [List.length_append, List.length_cons, List.length_nil]; omega))) lk_MO_239 d_MO_sayAside_2 rfl rfl (by first | assumption | decide | (show _ < 124; omega) | (show _ < 61; omega) | (show _ < 20; omega)) ⟨by first | exact Nat.le_of_ble_eq_true rfl | (simp only [ab_rm]; omega), by first | exact Nat.le_of_ble_eq_true rfl | (simp only [ab_rm]; omega)⟩ ⟨by first | exact Nat.le_of_ble_eq_true rfl | (simp only [ab_rm]; omega), by first | exact Nat.le_of_ble_eq_true rfl | (simp only [ab_rm]; omega)⟩ (Nat.le_of_ble_eq_true rfl) (fun u2 r2 h2 => ?_)
  obtain ⟨q2, rfl⟩ := h2
  have P2 := q2.1
  refine ab_aload_n X 0 d_MO_sayAside_5 rfl rfl ?_
  refine ab_bipush (v := 10) X d_MO_sayAside_6 (by decide) ?_
  refine ab_iconst (v := 0) X d_MO_sayAside_8 (by decide) ?_
  refine ab_callV (as := [ab_I (nI 10), ab_I (nI 0)]) X (fun h => by cases h) (x_MO_say u0 u2 b _ q2 (by first | omega | (simp only [List.length_append, List.length_cons, List.length_nil]; omega)) hb 10 0) lk_MO_242 d_MO_sayAside_9 rfl rfl (by first | assumption | decide | (show _ < 124; omega) | (show _ < 61; omega) | (show _ < 20; omega)) ⟨by first | exact Nat.le_of_ble_eq_true rfl | (simp only [ab_rm]; omega), by first | exact Nat.le_of_ble_eq_true rfl | (simp only [ab_rm]; omega)⟩ ⟨by first | exact Nat.le_of_ble_eq_true rfl | (simp only [ab_rm]; omega), by first | exact Nat.le_of_ble_eq_true rfl | (simp only [ab_rm]; omega)⟩ (Nat.le_of_ble_eq_true rfl) (fun u9 r9 h9 => ?_)
  obtain ⟨q9, rfl⟩ := h9
  have P9 := q9.1
  refine ab_aload_n X 0 d_MO_sayAside_12 rfl rfl ?_
  refine ab_iload_n X 2 d_MO_sayAside_13 rfl rfl ?_
  refine ab_callV (as := [ab_I (nI g)]) X (fun h => by cases h) (x_MO_sayForm u0 u9 b _ q9 hb g w2 hf2 hd2 G2 (by first | omega | (simp only [List.length_append, List.length_cons, List.length_nil]; omega))) lk_MO_239 d_MO_sayAside_14 rfl rfl (by first | assumption | decide | (show _ < 124; omega) | (show _ < 61; omega) | (show _ < 20; omega)) ⟨by first | exact Nat.le_of_ble_eq_true rfl | (simp only [ab_rm]; omega), by first | exact Nat.le_of_ble_eq_true rfl | (simp only [ab_rm]; omega)⟩ ⟨by first | exact Nat.le_of_ble_eq_true rfl | (simp only [ab_rm]; omega), by first | exact Nat.le_of_ble_eq_true rfl | (simp only [ab_rm]; omega)⟩ (Nat.le_of_ble_eq_true rfl) (fun u14 r14 h14 => ?_)
  obtain ⟨q14, rfl⟩ := h14
  have P14 := q14.1
  refine ab_aload_n X 0 d_MO_sayAside_17 rfl rfl ?_
  refine ab_bipush (v := 11) X d_MO_sayAside_18 (by decide) ?_
  refine ab_iconst (v := 0) X d_MO_sayAside_20 (by decide) ?_
  refine ab_callV (as := [ab_I (nI 11), ab_I (nI 0)]) X (fun h => by cases h) (x_MO_say u0 u14 b _ q14 (by first | omega | (simp only [List.length_append, List.length_cons, List.length_nil]; omega)) hb 11 0) lk_MO_242 d_MO_sayAside_21 rfl rfl (by first | assumption | decide | (show _ < 124; omega) | (show _ < 61; omega) | (show _ < 20; omega)) ⟨by first | exact Nat.le_of_ble_eq_true rfl | (simp only [ab_rm]; omega), by first | exact Nat.le_of_ble_eq_true rfl | (simp only [ab_rm]; omega)⟩ ⟨by first | exact Nat.le_of_ble_eq_true rfl | (simp only [ab_rm]; omega), by first | exact Nat.le_of_ble_eq_true rfl | (simp only [ab_rm]; omega)⟩ (Nat.le_of_ble_eq_true rfl) (fun u21 r21 h21 => ?_)
  obtain ⟨q21, rfl⟩ := h21
  have P21 := q21.1
  refine ab_aload_n X 0 d_MO_sayAside_24 rfl rfl ?_
  refine ab_iload_n X 3 d_MO_sayAside_25 rfl rfl ?_
  refine ab_iconst (v := 0) X d_MO_sayAside_26 (by decide) ?_
  refine ab_callV (as := [ab_I (nI op), ab_I (nI 0)]) X (fun h => by cases h) (x_MO_say u0 u21 b _ q21 (by first | omega | (simp only [List.length_append, List.length_cons, List.length_nil]; omega)) hb op 0) lk_MO_242 d_MO_sayAside_27 rfl rfl (by first | assumption | decide | (show _ < 124; omega) | (show _ < 61; omega) | (show _ < 20; omega)) ⟨by first | exact Nat.le_of_ble_eq_true rfl | (simp only [ab_rm]; omega), by first | exact Nat.le_of_ble_eq_true rfl | (simp only [ab_rm]; omega)⟩ ⟨by first | exact Nat.le_of_ble_eq_true rfl | (simp only [ab_rm]; omega), by first | exact Nat.le_of_ble_eq_true rfl | (simp only [ab_rm]; omega)⟩ (Nat.le_of_ble_eq_true rfl) (fun u27 r27 h27 => ?_)
  obtain ⟨q27, rfl⟩ := h27
  have P27 := q27.1
  exact ab_retv X hr0 hlk d_MO_sayAside_30 ⟨q27.cast (by simp [List.append_assoc]), rfl⟩
set_option maxRecDepth 100000 in
set_option maxHeartbeats 1000000 in
theorem x_MO_sayThreshold (u0 u : ab_S) (P : Nat) (kd ar cn lf : Nat → Nat) (ch : Nat → Nat → Nat) (W : tW P kd ar cn lf ch) (T : tR P kd ar cn ch u0) (p1 j : Nat) (Wq : Nat → Nat → List Nat) (hp : p1 < P) (hj : j < 3) (hk : kd p1 = 7) (G : ∀ c, p1 < c → c < P → rg u0 (3 * c) (Wq c 0) ∧ rg u0 (3 * c + 1) (Wq c 1) ∧ rg u0 (3 * c + 2) (Wq c 2)) (hK : (asd (fun i => Wq (ch p1 i) 1) 8000 (cn p1)).length + 1 ≤ 100) (h : ww u0 u (100 * (3 * p1 + j)) []) : ab_C false l D ca y_MO_sayThreshold b_MO_sayThreshold 3 none 1 ab_nQ u [ab_O 17 0, ab_I (nI p1)] (fun u' v => ww u0 u' (100 * (3 * p1 + j)) (asd (fun i => Wq (ch p1 i) 1) 8000 (cn p1) ++ [9000 + ar p1]) ∧ v = none) := by
  refine ab_C.of (by decide) (Nat.le_of_ble_eq_true rfl) ?_
  intro p e s m args below meth c ad X hZ hr0 hlk
  have P0 : gP [16, 109] u0 u := h.1
  have hP19 := W.2.1
  obtain ⟨⟨-, -, -, -, ar9⟩, -, a3⟩ := W.2.2 p1 hp
  obtain ⟨n2, n4, -, -, b5, b6⟩ := a3 (by omega)
  obtain ⟨-, ea, ec, ech⟩ := T.2 p1 hp
  have al : ∀ i, (asd (fun i => Wq (ch p1 i) 1) 8000 i).length = sm (fun i => (Wq (ch p1 i) 1).length) i + 3 * (i - 1) := fun i => asd_len i (fun _ _ => rfl)
  have am : ∀ i, i ≤ cn p1 → sm (fun i => (Wq (ch p1 i) 1).length) i ≤ sm (fun i => (Wq (ch p1 i) 1).length) (cn p1) := fun i hi => sm_mono _ hi
  rw [al] at hK
  have loop : ∀ (k i : Nat) (u1 : ab_S), i + k = cn p1 → 1 ≤ i → ww u0 u1 (100 * (3 * p1 + j)) (asd (fun i => Wq (ch p1 i) 1) 8000 i) → ab_J p l e (ab_rm 1 0 0) s m args below meth c (MQ below (ab_Q D ca ad ab_nQ s.heap.size (fun u' v => ww u0 u' (100 * (3 * p1 + j)) (asd (fun i => Wq (ch p1 i) 1) 8000 (cn p1) ++ [9000 + ar p1]) ∧ v = none)) args s 0 0 (ab_A ad ab_nQ s.heap.size)) D ca (ab_A ad ab_nQ s.heap.size) s.heap 3 0 0 ad ab_nQ u1 17 [(2, ab_I (nI i)), (0, ab_O 17 0), (1, ab_I (nI p1))] [] := by
    intro k
    induction k with
    | zero =>
      intro i u1 hi h1 hw
      obtain rfl : i = cn p1 := by omega
      have P1 := hw.1
      refine ab_iload_n X 0 d_MO_sayThreshold_17 rfl rfl ?_
      refine ab_aload_n X 1 d_MO_sayThreshold_18 rfl rfl ?_
      refine ab_gR X fl_MO_39 d_MO_sayThreshold_19 (by first | assumption | decide | (show _ < 124; omega) | (show _ < 61; omega) | (show _ < 20; omega)) (P1.1.mo9) ?_
      refine ab_iload_n X 2 d_MO_sayThreshold_22 rfl rfl ?_
      refine ab_iald X (p1) ⟨rfl, rfl⟩ d_MO_sayThreshold_23 (by first | assumption | decide | (show _ < 124; omega) | (show _ < 61; omega) | (show _ < 20; omega)) (rfl) (show p1 < 40 by omega) (ab_ln_lt _ _) ?_
      refine ab_top (hw.1.ai (by decide) ec) ?_
      refine ab_icmp_ge X 71 d_MO_sayThreshold_24 rfl (fun _ => ?_) (fun hb => absurd ((nI_le (Nat.le_refl _) (by omega))) hb)
      refine ab_aload_n X 1 d_MO_sayThreshold_71 rfl rfl ?_
      refine ab_bipush (v := 9) X d_MO_sayThreshold_72 (by decide) ?_
      refine ab_aload_n X 1 d_MO_sayThreshold_74 rfl rfl ?_
      refine ab_gR X fl_MO_36 d_MO_sayThreshold_75 (by first | assumption | decide | (show _ < 124; omega) | (show _ < 61; omega) | (show _ < 20; omega)) (P1.1.mo8) ?_
      refine ab_iload_n X 2 d_MO_sayThreshold_78 rfl rfl ?_
      refine ab_iald X (p1) ⟨rfl, rfl⟩ d_MO_sayThreshold_79 (by first | assumption | decide | (show _ < 124; omega) | (show _ < 61; omega) | (show _ < 20; omega)) (rfl) (show p1 < 40 by omega) (ab_ln_lt _ _) ?_
      refine ab_top (hw.1.ai (by decide) ea) ?_
      refine ab_callV (as := [ab_I (nI 9), ab_I (nI (ar p1))]) X (fun h => by cases h) (x_MO_say u0 u1 _ _ hw (by rw [al]; omega) (by omega) 9 (ar p1)) lk_MO_242 d_MO_sayThreshold_80 rfl rfl (by first | assumption | decide | (show _ < 124; omega) | (show _ < 61; omega) | (show _ < 20; omega)) ⟨by first | exact Nat.le_of_ble_eq_true rfl | (simp only [ab_rm]; omega), by first | exact Nat.le_of_ble_eq_true rfl | (simp only [ab_rm]; omega)⟩ ⟨by first | exact Nat.le_of_ble_eq_true rfl | (simp only [ab_rm]; omega), by first | exact Nat.le_of_ble_eq_true rfl | (simp only [ab_rm]; omega)⟩ (Nat.le_of_ble_eq_true rfl) (fun u80 r80 h80 => ?_)
      obtain ⟨q80, rfl⟩ := h80
      have P80 := q80.1
      exact ab_retv X hr0 hlk d_MO_sayThreshold_83 ⟨q80, rfl⟩
    | succ k ih =>
      intro i u1 hi h1 hw
      obtain ⟨c1, c2⟩ := b5 i (by omega)
      obtain ⟨-, g1, -⟩ := G _ c1 c2
      have m1 := am (i + 1) (by omega)
      have m2 : sm (fun i => (Wq (ch p1 i) 1).length) (i + 1) = sm (fun i => (Wq (ch p1 i) 1).length) i + (Wq (ch p1 i) 1).length := rfl
      have ea1 : asd (fun i => Wq (ch p1 i) 1) 8000 (i + 1) = asd (fun i => Wq (ch p1 i) 1) 8000 i ++ ([10000] ++ Wq (ch p1 i) 1 ++ [11000] ++ [8000]) := by show _ ++ (if i = 0 then _ else _) = _; rw [if_neg (by omega)]
      have P1 := hw.1
      refine ab_iload_n X 0 d_MO_sayThreshold_17 rfl rfl ?_
      refine ab_aload_n X 1 d_MO_sayThreshold_18 rfl rfl ?_
      refine ab_gR X fl_MO_39 d_MO_sayThreshold_19 (by first | assumption | decide | (show _ < 124; omega) | (show _ < 61; omega) | (show _ < 20; omega)) (P1.1.mo9) ?_
      refine ab_iload_n X 2 d_MO_sayThreshold_22 rfl rfl ?_
      refine ab_iald X (p1) ⟨rfl, rfl⟩ d_MO_sayThreshold_23 (by first | assumption | decide | (show _ < 124; omega) | (show _ < 61; omega) | (show _ < 20; omega)) (rfl) (show p1 < 40 by omega) (ab_ln_lt _ _) ?_
      refine ab_top (hw.1.ai (by decide) ec) ?_
      refine ab_icmp_ge X 71 d_MO_sayThreshold_24 rfl (fun hb => absurd hb ((nI_ge (by omega) (by omega)))) (fun _ => ?_)
      refine ab_aload_n X 1 d_MO_sayThreshold_27 rfl rfl ?_
      refine ab_bipush (v := 10) X d_MO_sayThreshold_28 (by decide) ?_
      refine ab_iconst (v := 0) X d_MO_sayThreshold_30 (by decide) ?_
      refine ab_callV (as := [ab_I (nI 10), ab_I (nI 0)]) X (fun h => by cases h) (x_MO_say u0 u1 _ _ hw (by rw [al]; omega) (by omega) 10 0) lk_MO_242 d_MO_sayThreshold_31 rfl rfl (by first | assumption | decide | (show _ < 124; omega) | (show _ < 61; omega) | (show _ < 20; omega)) ⟨by first | exact Nat.le_of_ble_eq_true rfl | (simp only [ab_rm]; omega), by first | exact Nat.le_of_ble_eq_true rfl | (simp only [ab_rm]; omega)⟩ ⟨by first | exact Nat.le_of_ble_eq_true rfl | (simp only [ab_rm]; omega), by first | exact Nat.le_of_ble_eq_true rfl | (simp only [ab_rm]; omega)⟩ (Nat.le_of_ble_eq_true rfl) (fun u31 r31 h31 => ?_)
      obtain ⟨q31, rfl⟩ := h31
      have P31 := q31.1
      refine ab_aload_n X 1 d_MO_sayThreshold_34 rfl rfl ?_
      refine ab_aload_n X 1 d_MO_sayThreshold_35 rfl rfl ?_
      refine ab_gR X fl_MO_42 d_MO_sayThreshold_36 (by first | assumption | decide | (show _ < 124; omega) | (show _ < 61; omega) | (show _ < 20; omega)) (P31.1.mo10) ?_
      refine ab_iconst (v := 4) X d_MO_sayThreshold_39 (by decide) ?_
      refine ab_iload_n X 2 d_MO_sayThreshold_40 rfl rfl ?_
      refine ab_imul X d_MO_sayThreshold_41 ?_
      refine ab_iload_n X 0 d_MO_sayThreshold_42 rfl rfl ?_
      refine ab_iadd X d_MO_sayThreshold_43 ?_
      refine ab_iald X (4 * p1 + i) ⟨rfl, rfl⟩ d_MO_sayThreshold_44 (by first | assumption | decide | (show _ < 124; omega) | (show _ < 61; omega) | (show _ < 20; omega)) (nI_4a p1 i) (show 4 * p1 + i < 160 by omega) (ab_ln_lt _ _) ?_
      refine ab_top (q31.1.ai (by decide) (ech i (by omega))) ?_
      refine ab_callS (as := [ab_I (nI (ch p1 i))]) X (fun h => by cases h) (t_MO_d u31 (ch p1 i)) ls_MO_195 d_MO_sayThreshold_45 rfl rfl ⟨by first | exact Nat.le_of_ble_eq_true rfl | (simp only [ab_rm]; omega), by first | exact Nat.le_of_ble_eq_true rfl | (simp only [ab_rm]; omega)⟩ ⟨by first | exact Nat.le_of_ble_eq_true rfl | (simp only [ab_rm]; omega), by first | exact Nat.le_of_ble_eq_true rfl | (simp only [ab_rm]; omega)⟩ (Nat.le_of_ble_eq_true rfl) (fun u45 r45 h45 => ?_)
      obtain ⟨e45, rfl⟩ := h45
      subst u45
      refine ab_callV (as := [ab_I (nI (3 * ch p1 i + 1))]) X (fun h => by cases h) (x_MO_sayForm u0 u31 _ _ q31 (by omega) (3 * ch p1 i + 1) (Wq (ch p1 i) 1) (by omega) (by omega) g1 (by simp only [List.length_append, List.length_cons, List.length_nil, al]; omega)) lk_MO_239 d_MO_sayThreshold_48 rfl rfl (by first | assumption | decide | (show _ < 124; omega) | (show _ < 61; omega) | (show _ < 20; omega)) ⟨by first | exact Nat.le_of_ble_eq_true rfl | (simp only [ab_rm]; omega), by first | exact Nat.le_of_ble_eq_true rfl | (simp only [ab_rm]; omega)⟩ ⟨by first | exact Nat.le_of_ble_eq_true rfl | (simp only [ab_rm]; omega), by first | exact Nat.le_of_ble_eq_true rfl | (simp only [ab_rm]; omega)⟩ (Nat.le_of_ble_eq_true rfl) (fun u48 r48 h48 => ?_)
      obtain ⟨q48, rfl⟩ := h48
      have P48 := q48.1
      refine ab_aload_n X 1 d_MO_sayThreshold_51 rfl rfl ?_
      refine ab_bipush (v := 11) X d_MO_sayThreshold_52 (by decide) ?_
      refine ab_iconst (v := 0) X d_MO_sayThreshold_54 (by decide) ?_
      refine ab_callV (as := [ab_I (nI 11), ab_I (nI 0)]) X (fun h => by cases h) (x_MO_say u0 u48 _ _ q48 (by simp only [List.length_append, List.length_cons, List.length_nil, al]; omega) (by omega) 11 0) lk_MO_242 d_MO_sayThreshold_55 rfl rfl (by first | assumption | decide | (show _ < 124; omega) | (show _ < 61; omega) | (show _ < 20; omega)) ⟨by first | exact Nat.le_of_ble_eq_true rfl | (simp only [ab_rm]; omega), by first | exact Nat.le_of_ble_eq_true rfl | (simp only [ab_rm]; omega)⟩ ⟨by first | exact Nat.le_of_ble_eq_true rfl | (simp only [ab_rm]; omega), by first | exact Nat.le_of_ble_eq_true rfl | (simp only [ab_rm]; omega)⟩ (Nat.le_of_ble_eq_true rfl) (fun u55 r55 h55 => ?_)
      obtain ⟨q55, rfl⟩ := h55
      have P55 := q55.1
      refine ab_aload_n X 1 d_MO_sayThreshold_58 rfl rfl ?_
      refine ab_bipush (v := 8) X d_MO_sayThreshold_59 (by decide) ?_
      refine ab_iconst (v := 0) X d_MO_sayThreshold_61 (by decide) ?_
      refine ab_callV (as := [ab_I (nI 8), ab_I (nI 0)]) X (fun h => by cases h) (x_MO_say u0 u55 _ _ q55 (by simp only [List.length_append, List.length_cons, List.length_nil, al]; omega) (by omega) 8 0) lk_MO_242 d_MO_sayThreshold_62 rfl rfl (by first | assumption | decide | (show _ < 124; omega) | (show _ < 61; omega) | (show _ < 20; omega)) ⟨by first | exact Nat.le_of_ble_eq_true rfl | (simp only [ab_rm]; omega), by first | exact Nat.le_of_ble_eq_true rfl | (simp only [ab_rm]; omega)⟩ ⟨by first | exact Nat.le_of_ble_eq_true rfl | (simp only [ab_rm]; omega), by first | exact Nat.le_of_ble_eq_true rfl | (simp only [ab_rm]; omega)⟩ (Nat.le_of_ble_eq_true rfl) (fun u62 r62 h62 => ?_)
      obtain ⟨q62, rfl⟩ := h62
      have P62 := q62.1
      refine ab_iinc2 X 0 1 2 d_MO_sayThreshold_65 rfl (by decide) rfl rfl rfl rfl ?_
      refine ab_goto X 17 d_MO_sayThreshold_68 rfl ?_
      rw [show nI i + Int32.ofInt 1 = nI (i + 1) from nI_1 i]
      exact ih (i + 1) _ (by omega) (by omega) (q62.cast (by rw [ea1]; simp [List.append_assoc]))
  obtain ⟨c1, c2⟩ := b5 0 (by omega)
  obtain ⟨-, g1, -⟩ := G _ c1 c2
  have m1 := am 1 (by omega)
  have m2 : sm (fun i => (Wq (ch p1 i) 1).length) 1 = 0 + (Wq (ch p1 0) 1).length := rfl
  refine ab_aload_n X 0 d_MO_sayThreshold_0 rfl rfl ?_
  refine ab_aload_n X 0 d_MO_sayThreshold_1 rfl rfl ?_
  refine ab_gR X fl_MO_42 d_MO_sayThreshold_2 (by first | assumption | decide | (show _ < 124; omega) | (show _ < 61; omega) | (show _ < 20; omega)) (P0.1.mo10) ?_
  refine ab_iconst (v := 4) X d_MO_sayThreshold_5 (by decide) ?_
  refine ab_iload_n X 1 d_MO_sayThreshold_6 rfl rfl ?_
  refine ab_imul X d_MO_sayThreshold_7 ?_
  refine ab_iald X (4 * p1) ⟨rfl, rfl⟩ d_MO_sayThreshold_8 (by first | assumption | decide | (show _ < 124; omega) | (show _ < 61; omega) | (show _ < 20; omega)) (nI_4m p1) (show 4 * p1 < 160 by omega) (ab_ln_lt _ _) ?_
  refine ab_top (h.1.ai (by decide) (ech 0 (by omega))) ?_
  refine ab_callS (as := [ab_I (nI (ch p1 0))]) X (fun h => by cases h) (t_MO_d u (ch p1 0)) ls_MO_195 d_MO_sayThreshold_9 rfl rfl ⟨by first | exact Nat.le_of_ble_eq_true rfl | (simp only [ab_rm]; omega), by first | exact Nat.le_of_ble_eq_true rfl | (simp only [ab_rm]; omega)⟩ ⟨by first | exact Nat.le_of_ble_eq_true rfl | (simp only [ab_rm]; omega), by first | exact Nat.le_of_ble_eq_true rfl | (simp only [ab_rm]; omega)⟩ (Nat.le_of_ble_eq_true rfl) (fun u9 r9 h9 => ?_)
  obtain ⟨e9, rfl⟩ := h9
  subst u9
  refine ab_callV (as := [ab_I (nI (3 * ch p1 0 + 1))]) X (fun h => by cases h) (x_MO_sayForm u0 u _ _ h (by omega) (3 * ch p1 0 + 1) (Wq (ch p1 0) 1) (by omega) (by omega) g1 (by show 0 + _ ≤ 100; omega)) lk_MO_239 d_MO_sayThreshold_12 rfl rfl (by first | assumption | decide | (show _ < 124; omega) | (show _ < 61; omega) | (show _ < 20; omega)) ⟨by first | exact Nat.le_of_ble_eq_true rfl | (simp only [ab_rm]; omega), by first | exact Nat.le_of_ble_eq_true rfl | (simp only [ab_rm]; omega)⟩ ⟨by first | exact Nat.le_of_ble_eq_true rfl | (simp only [ab_rm]; omega), by first | exact Nat.le_of_ble_eq_true rfl | (simp only [ab_rm]; omega)⟩ (Nat.le_of_ble_eq_true rfl) (fun u12 r12 h12 => ?_)
  obtain ⟨q12, rfl⟩ := h12
  have P12 := q12.1
  refine ab_iconst (v := 1) X d_MO_sayThreshold_15 (by decide) ?_
  refine ab_istore_n2 X 0 1 d_MO_sayThreshold_16 rfl (by decide) rfl rfl rfl rfl ?_
  exact loop (cn p1 - 1) 1 _ (by omega) (by omega) q12
set_option maxRecDepth 100000 in
set_option maxHeartbeats 1000000 in
theorem x_MO_writeMore18 (u0 u : ab_S) (P : Nat) (kd ar cn lf : Nat → Nat) (ch : Nat → Nat → Nat) (W : tW P kd ar cn lf ch) (T : tR P kd ar cn ch u0) (p1 j : Nat) (a b : Int32) (Wq : Nat → Nat → List Nat) (hp : p1 < P) (hj : j < 3) (hk : kd p1 = 7) (G : ∀ c, p1 < c → c < P → rg u0 (3 * c) (Wq c 0) ∧ rg u0 (3 * c + 1) (Wq c 1) ∧ rg u0 (3 * c + 2) (Wq c 2)) (hK : (cat (fun i => if i + 1 < cn p1 then Wq (ch p1 i) 2 else Wq (ch p1 i) 0) (cn p1)).length ≤ 100) (h : ww u0 u (100 * (3 * p1 + j)) []) : ab_C false l D ca y_MO_writeMore b_MO_writeMore 6 none 2 ab_nQ u [ab_O 17 0, ab_I (nI p1), ab_I (nI 18), ab_I a, ab_I b] (fun u' v => ww u0 u' (100 * (3 * p1 + j)) (cat (fun i => if i + 1 < cn p1 then Wq (ch p1 i) 2 else Wq (ch p1 i) 0) (cn p1)) ∧ v = none) := by
  refine ab_C.of (by decide) (Nat.le_of_ble_eq_true rfl) ?_
  intro p e s m args below meth c ad X hZ hr0 hlk
  have P0 : gP [16, 109] u0 u := h.1
  have hP19 := W.2.1
  obtain ⟨-, -, a3⟩ := W.2.2 p1 hp
  obtain ⟨n2, n4, -, -, b5, b6⟩ := a3 (by omega)
  obtain ⟨-, ea, ec, ech⟩ := T.2 p1 hp
  have am : ∀ i, i ≤ cn p1 → (cat (fun i => if i + 1 < cn p1 then Wq (ch p1 i) 2 else Wq (ch p1 i) 0) i).length ≤ 100 := fun i hi => by
    rw [cat_len] at hK ⊢
    exact Nat.le_trans (sm_mono _ hi) hK
  have loop : ∀ (k i : Nat) (u1 : ab_S), i + k = cn p1 → ww u0 u1 (100 * (3 * p1 + j)) (cat (fun i => if i + 1 < cn p1 then Wq (ch p1 i) 2 else Wq (ch p1 i) 0) i) → ab_J p l e (ab_rm 2 0 0) s m args below meth c (MQ below (ab_Q D ca ad ab_nQ s.heap.size (fun u' v => ww u0 u' (100 * (3 * p1 + j)) (cat (fun i => if i + 1 < cn p1 then Wq (ch p1 i) 2 else Wq (ch p1 i) 0) (cn p1)) ∧ v = none)) args s 0 0 (ab_A ad ab_nQ s.heap.size)) D ca (ab_A ad ab_nQ s.heap.size) s.heap 6 0 0 ad ab_nQ u1 126 [(5, ab_I (nI i)), (0, ab_O 17 0), (1, ab_I (nI p1)), (2, ab_I (nI 18)), (3, ab_I a), (4, ab_I b)] [] := by
    intro k
    induction k with
    | zero =>
      intro i u1 hi hw
      obtain rfl : i = cn p1 := by omega
      have P1 := hw.1
      refine ab_iload X 0 d_MO_writeMore_126 rfl ?_
      refine ab_aload_n X 1 d_MO_writeMore_128 rfl rfl ?_
      refine ab_gR X fl_MO_39 d_MO_writeMore_129 (by first | assumption | decide | (show _ < 124; omega) | (show _ < 61; omega) | (show _ < 20; omega)) (P1.1.mo9) ?_
      refine ab_iload_n X 2 d_MO_writeMore_132 rfl rfl ?_
      refine ab_iald X (p1) ⟨rfl, rfl⟩ d_MO_writeMore_133 (by first | assumption | decide | (show _ < 124; omega) | (show _ < 61; omega) | (show _ < 20; omega)) (rfl) (show p1 < 40 by omega) (ab_ln_lt _ _) ?_
      refine ab_top (hw.1.ai (by decide) ec) ?_
      refine ab_icmp_ge X 197 d_MO_writeMore_134 rfl (fun _ => ?_) (fun hb => absurd ((nI_le (Nat.le_refl _) (by omega))) hb)
      refine ab_iload_n X 3 d_MO_writeMore_197 rfl rfl ?_
      refine ab_bipush (v := 22) X d_MO_writeMore_198 (by decide) ?_
      refine ab_icmp_ne X 234 d_MO_writeMore_200 rfl (fun _ => ?_) (fun hb => absurd hb ((by decide)))
      refine ab_iload_n X 3 d_MO_writeMore_234 rfl rfl ?_
      refine ab_bipush (v := 23) X d_MO_writeMore_235 (by decide) ?_
      refine ab_icmp_ne X 253 d_MO_writeMore_237 rfl (fun _ => ?_) (fun hb => absurd hb ((by decide)))
      refine ab_iload_n X 3 d_MO_writeMore_253 rfl rfl ?_
      refine ab_bipush (v := 24) X d_MO_writeMore_254 (by decide) ?_
      refine ab_icmp_ne X 273 d_MO_writeMore_256 rfl (fun _ => ?_) (fun hb => absurd hb ((by decide)))
      exact ab_retv X hr0 hlk d_MO_writeMore_273 ⟨hw, rfl⟩
    | succ k ih =>
      intro i u1 hi hw
      obtain ⟨c1, c2⟩ := b5 i (by omega)
      obtain ⟨g0, -, g2⟩ := G _ c1 c2
      have m1 := am (i + 1) (by omega)
      have m2 : (cat (fun i => if i + 1 < cn p1 then Wq (ch p1 i) 2 else Wq (ch p1 i) 0) (i + 1)).length = (cat (fun i => if i + 1 < cn p1 then Wq (ch p1 i) 2 else Wq (ch p1 i) 0) i).length + ((fun i => if i + 1 < cn p1 then Wq (ch p1 i) 2 else Wq (ch p1 i) 0) i).length := List.length_append
      have m3 : (fun i => if i + 1 < cn p1 then Wq (ch p1 i) 2 else Wq (ch p1 i) 0) i = if i + 1 < cn p1 then Wq (ch p1 i) 2 else Wq (ch p1 i) 0 := rfl
      have P1 := hw.1
      by_cases hl : i + 1 < cn p1
      · rw [if_pos hl] at m3
        rw [m3] at m2
        have em : cat (fun i => if i + 1 < cn p1 then Wq (ch p1 i) 2 else Wq (ch p1 i) 0) (i + 1) = cat (fun i => if i + 1 < cn p1 then Wq (ch p1 i) 2 else Wq (ch p1 i) 0) i ++ Wq (ch p1 i) 2 := by show _ ++ _ = _; rw [m3]
        refine ab_iload X 0 d_MO_writeMore_126 rfl ?_
        refine ab_aload_n X 1 d_MO_writeMore_128 rfl rfl ?_
        refine ab_gR X fl_MO_39 d_MO_writeMore_129 (by first | assumption | decide | (show _ < 124; omega) | (show _ < 61; omega) | (show _ < 20; omega)) (P1.1.mo9) ?_
        refine ab_iload_n X 2 d_MO_writeMore_132 rfl rfl ?_
        refine ab_iald X (p1) ⟨rfl, rfl⟩ d_MO_writeMore_133 (by first | assumption | decide | (show _ < 124; omega) | (show _ < 61; omega) | (show _ < 20; omega)) (rfl) (show p1 < 40 by omega) (ab_ln_lt _ _) ?_
        refine ab_top (hw.1.ai (by decide) ec) ?_
        refine ab_icmp_ge X 197 d_MO_writeMore_134 rfl (fun hb => absurd hb ((nI_ge (by omega) (by omega)))) (fun _ => ?_)
        refine ab_iload_n X 3 d_MO_writeMore_137 rfl rfl ?_
        refine ab_bipush (v := 18) X d_MO_writeMore_138 (by decide) ?_
        refine ab_icmp_ne X 197 d_MO_writeMore_140 rfl (fun hb => absurd ((by decide)) hb) (fun _ => ?_)
        refine ab_aload_n X 1 d_MO_writeMore_143 rfl rfl ?_
        refine ab_iload X 0 d_MO_writeMore_144 rfl ?_
        refine ab_iconst (v := 1) X d_MO_writeMore_146 (by decide) ?_
        refine ab_iadd X d_MO_writeMore_147 ?_
        refine ab_top (nI_1 _) ?_
        refine ab_aload_n X 1 d_MO_writeMore_148 rfl rfl ?_
        refine ab_gR X fl_MO_39 d_MO_writeMore_149 (by first | assumption | decide | (show _ < 124; omega) | (show _ < 61; omega) | (show _ < 20; omega)) (P1.1.mo9) ?_
        refine ab_iload_n X 2 d_MO_writeMore_152 rfl rfl ?_
        refine ab_iald X (p1) ⟨rfl, rfl⟩ d_MO_writeMore_153 (by first | assumption | decide | (show _ < 124; omega) | (show _ < 61; omega) | (show _ < 20; omega)) (rfl) (show p1 < 40 by omega) (ab_ln_lt _ _) ?_
        refine ab_top (hw.1.ai (by decide) ec) ?_
        refine ab_icmp_ge X 174 d_MO_writeMore_154 rfl (fun hb => absurd hb ((nI_ge (by omega) (by omega)))) (fun _ => ?_)
        refine ab_aload_n X 1 d_MO_writeMore_157 rfl rfl ?_
        refine ab_gR X fl_MO_42 d_MO_writeMore_158 (by first | assumption | decide | (show _ < 124; omega) | (show _ < 61; omega) | (show _ < 20; omega)) (P1.1.mo10) ?_
        refine ab_iconst (v := 4) X d_MO_writeMore_161 (by decide) ?_
        refine ab_iload_n X 2 d_MO_writeMore_162 rfl rfl ?_
        refine ab_imul X d_MO_writeMore_163 ?_
        refine ab_iload X 0 d_MO_writeMore_164 rfl ?_
        refine ab_iadd X d_MO_writeMore_166 ?_
        refine ab_iald X (4 * p1 + i) ⟨rfl, rfl⟩ d_MO_writeMore_167 (by first | assumption | decide | (show _ < 124; omega) | (show _ < 61; omega) | (show _ < 20; omega)) (nI_4a p1 i) (show 4 * p1 + i < 160 by omega) (ab_ln_lt _ _) ?_
        refine ab_top (hw.1.ai (by decide) (ech i (by omega))) ?_
        refine ab_callS (as := [ab_I (nI (ch p1 i))]) X (fun h => by cases h) (t_MO_v u1 (ch p1 i)) ls_MO_201 d_MO_writeMore_168 rfl rfl ⟨by first | exact Nat.le_of_ble_eq_true rfl | (simp only [ab_rm]; omega), by first | exact Nat.le_of_ble_eq_true rfl | (simp only [ab_rm]; omega)⟩ ⟨by first | exact Nat.le_of_ble_eq_true rfl | (simp only [ab_rm]; omega), by first | exact Nat.le_of_ble_eq_true rfl | (simp only [ab_rm]; omega)⟩ (Nat.le_of_ble_eq_true rfl) (fun u168 r168 h168 => ?_)
        obtain ⟨e168, rfl⟩ := h168
        subst u168
        refine ab_goto X 188 d_MO_writeMore_171 rfl ?_
        refine ab_callV (as := [ab_I (nI (3 * ch p1 i + 2))]) X (fun h => by cases h) (x_MO_sayForm u0 u1 _ _ hw (by omega) (3 * ch p1 i + 2) (Wq (ch p1 i) 2) (by omega) (by omega) g2 (by omega)) lk_MO_239 d_MO_writeMore_188 rfl rfl (by first | assumption | decide | (show _ < 124; omega) | (show _ < 61; omega) | (show _ < 20; omega)) ⟨by first | exact Nat.le_of_ble_eq_true rfl | (simp only [ab_rm]; omega), by first | exact Nat.le_of_ble_eq_true rfl | (simp only [ab_rm]; omega)⟩ ⟨by first | exact Nat.le_of_ble_eq_true rfl | (simp only [ab_rm]; omega), by first | exact Nat.le_of_ble_eq_true rfl | (simp only [ab_rm]; omega)⟩ (Nat.le_of_ble_eq_true rfl) (fun u188 r188 h188 => ?_)
        obtain ⟨q188, rfl⟩ := h188
        have P188 := q188.1
        refine ab_iinc5 X 0 1 2 3 4 5 d_MO_writeMore_191 rfl (by decide) rfl rfl rfl rfl rfl rfl rfl rfl rfl rfl ?_
        refine ab_goto X 126 d_MO_writeMore_194 rfl ?_
        rw [show nI i + Int32.ofInt 1 = nI (i + 1) from nI_1 i]
        exact ih (i + 1) _ (by omega) (q188.cast em.symm)
      · rw [if_neg hl] at m3
        rw [m3] at m2
        have em : cat (fun i => if i + 1 < cn p1 then Wq (ch p1 i) 2 else Wq (ch p1 i) 0) (i + 1) = cat (fun i => if i + 1 < cn p1 then Wq (ch p1 i) 2 else Wq (ch p1 i) 0) i ++ Wq (ch p1 i) 0 := by show _ ++ _ = _; rw [m3]
        refine ab_iload X 0 d_MO_writeMore_126 rfl ?_
        refine ab_aload_n X 1 d_MO_writeMore_128 rfl rfl ?_
        refine ab_gR X fl_MO_39 d_MO_writeMore_129 (by first | assumption | decide | (show _ < 124; omega) | (show _ < 61; omega) | (show _ < 20; omega)) (P1.1.mo9) ?_
        refine ab_iload_n X 2 d_MO_writeMore_132 rfl rfl ?_
        refine ab_iald X (p1) ⟨rfl, rfl⟩ d_MO_writeMore_133 (by first | assumption | decide | (show _ < 124; omega) | (show _ < 61; omega) | (show _ < 20; omega)) (rfl) (show p1 < 40 by omega) (ab_ln_lt _ _) ?_
        refine ab_top (hw.1.ai (by decide) ec) ?_
        refine ab_icmp_ge X 197 d_MO_writeMore_134 rfl (fun hb => absurd hb ((nI_ge (by omega) (by omega)))) (fun _ => ?_)
        refine ab_iload_n X 3 d_MO_writeMore_137 rfl rfl ?_
        refine ab_bipush (v := 18) X d_MO_writeMore_138 (by decide) ?_
        refine ab_icmp_ne X 197 d_MO_writeMore_140 rfl (fun hb => absurd ((by decide)) hb) (fun _ => ?_)
        refine ab_aload_n X 1 d_MO_writeMore_143 rfl rfl ?_
        refine ab_iload X 0 d_MO_writeMore_144 rfl ?_
        refine ab_iconst (v := 1) X d_MO_writeMore_146 (by decide) ?_
        refine ab_iadd X d_MO_writeMore_147 ?_
        refine ab_top (nI_1 _) ?_
        refine ab_aload_n X 1 d_MO_writeMore_148 rfl rfl ?_
        refine ab_gR X fl_MO_39 d_MO_writeMore_149 (by first | assumption | decide | (show _ < 124; omega) | (show _ < 61; omega) | (show _ < 20; omega)) (P1.1.mo9) ?_
        refine ab_iload_n X 2 d_MO_writeMore_152 rfl rfl ?_
        refine ab_iald X (p1) ⟨rfl, rfl⟩ d_MO_writeMore_153 (by first | assumption | decide | (show _ < 124; omega) | (show _ < 61; omega) | (show _ < 20; omega)) (rfl) (show p1 < 40 by omega) (ab_ln_lt _ _) ?_
        refine ab_top (hw.1.ai (by decide) ec) ?_
        refine ab_icmp_ge X 174 d_MO_writeMore_154 rfl (fun _ => ?_) (fun hb => absurd ((nI_le (by omega) (by omega))) hb)
        refine ab_aload_n X 1 d_MO_writeMore_174 rfl rfl ?_
        refine ab_gR X fl_MO_42 d_MO_writeMore_175 (by first | assumption | decide | (show _ < 124; omega) | (show _ < 61; omega) | (show _ < 20; omega)) (P1.1.mo10) ?_
        refine ab_iconst (v := 4) X d_MO_writeMore_178 (by decide) ?_
        refine ab_iload_n X 2 d_MO_writeMore_179 rfl rfl ?_
        refine ab_imul X d_MO_writeMore_180 ?_
        refine ab_iload X 0 d_MO_writeMore_181 rfl ?_
        refine ab_iadd X d_MO_writeMore_183 ?_
        refine ab_iald X (4 * p1 + i) ⟨rfl, rfl⟩ d_MO_writeMore_184 (by first | assumption | decide | (show _ < 124; omega) | (show _ < 61; omega) | (show _ < 20; omega)) (nI_4a p1 i) (show 4 * p1 + i < 160 by omega) (ab_ln_lt _ _) ?_
        refine ab_top (hw.1.ai (by decide) (ech i (by omega))) ?_
        refine ab_callS (as := [ab_I (nI (ch p1 i))]) X (fun h => by cases h) (t_MO_b u1 (ch p1 i)) ls_MO_204 d_MO_writeMore_185 rfl rfl ⟨by first | exact Nat.le_of_ble_eq_true rfl | (simp only [ab_rm]; omega), by first | exact Nat.le_of_ble_eq_true rfl | (simp only [ab_rm]; omega)⟩ ⟨by first | exact Nat.le_of_ble_eq_true rfl | (simp only [ab_rm]; omega), by first | exact Nat.le_of_ble_eq_true rfl | (simp only [ab_rm]; omega)⟩ (Nat.le_of_ble_eq_true rfl) (fun u185 r185 h185 => ?_)
        obtain ⟨e185, rfl⟩ := h185
        subst u185
        refine ab_callV (as := [ab_I (nI (3 * ch p1 i))]) X (fun h => by cases h) (x_MO_sayForm u0 u1 _ _ hw (by omega) (3 * ch p1 i) (Wq (ch p1 i) 0) (by omega) (by omega) g0 (by omega)) lk_MO_239 d_MO_writeMore_188 rfl rfl (by first | assumption | decide | (show _ < 124; omega) | (show _ < 61; omega) | (show _ < 20; omega)) ⟨by first | exact Nat.le_of_ble_eq_true rfl | (simp only [ab_rm]; omega), by first | exact Nat.le_of_ble_eq_true rfl | (simp only [ab_rm]; omega)⟩ ⟨by first | exact Nat.le_of_ble_eq_true rfl | (simp only [ab_rm]; omega), by first | exact Nat.le_of_ble_eq_true rfl | (simp only [ab_rm]; omega)⟩ (Nat.le_of_ble_eq_true rfl) (fun u188 r188 h188 => ?_)
        obtain ⟨q188, rfl⟩ := h188
        have P188 := q188.1
        refine ab_iinc5 X 0 1 2 3 4 5 d_MO_writeMore_191 rfl (by decide) rfl rfl rfl rfl rfl rfl rfl rfl rfl rfl ?_
        refine ab_goto X 126 d_MO_writeMore_194 rfl ?_
        rw [show nI i + Int32.ofInt 1 = nI (i + 1) from nI_1 i]
        exact ih (i + 1) _ (by omega) (q188.cast em.symm)
  refine ab_iload_n X 2 d_MO_writeMore_0 rfl rfl ?_
  refine ab_bipush (v := 13) X d_MO_writeMore_1 (by decide) ?_
  refine ab_icmp_eq X 12 d_MO_writeMore_3 rfl (fun hb => absurd hb ((by decide))) (fun _ => ?_)
  refine ab_iload_n X 2 d_MO_writeMore_6 rfl rfl ?_
  refine ab_bipush (v := 21) X d_MO_writeMore_7 (by decide) ?_
  refine ab_icmp_ne X 43 d_MO_writeMore_9 rfl (fun _ => ?_) (fun hb => absurd hb ((by decide)))
  refine ab_iload_n X 2 d_MO_writeMore_43 rfl rfl ?_
  refine ab_bipush (v := 14) X d_MO_writeMore_44 (by decide) ?_
  refine ab_icmp_ne X 66 d_MO_writeMore_46 rfl (fun _ => ?_) (fun hb => absurd hb ((by decide)))
  refine ab_iload_n X 2 d_MO_writeMore_66 rfl rfl ?_
  refine ab_bipush (v := 15) X d_MO_writeMore_67 (by decide) ?_
  refine ab_icmp_ne X 85 d_MO_writeMore_69 rfl (fun _ => ?_) (fun hb => absurd hb ((by decide)))
  refine ab_iload_n X 2 d_MO_writeMore_85 rfl rfl ?_
  refine ab_bipush (v := 16) X d_MO_writeMore_86 (by decide) ?_
  refine ab_icmp_ne X 104 d_MO_writeMore_88 rfl (fun _ => ?_) (fun hb => absurd hb ((by decide)))
  refine ab_iload_n X 2 d_MO_writeMore_104 rfl rfl ?_
  refine ab_bipush (v := 17) X d_MO_writeMore_105 (by decide) ?_
  refine ab_icmp_ne X 123 d_MO_writeMore_107 rfl (fun _ => ?_) (fun hb => absurd hb ((by decide)))
  refine ab_iconst (v := 0) X d_MO_writeMore_123 (by decide) ?_
  refine ab_istore5 X 0 1 2 3 4 d_MO_writeMore_124 (by decide) rfl rfl rfl rfl rfl rfl rfl rfl rfl rfl ?_
  exact loop (cn p1) 0 _ (by omega) h
set_option maxRecDepth 100000 in
set_option maxHeartbeats 1000000 in
theorem x_MO_writeMore24 (u0 u : ab_S) (p1 j : Nat) (a b : Int32) (w0 : List Nat) (hp : p1 < 19) (hj : j < 3) (hj0 : 0 < j) (G : rg u0 (3 * p1) w0) (hK : w0.length + 1 ≤ 100) (h : ww u0 u (100 * (3 * p1 + j)) []) : ab_C false l D ca y_MO_writeMore b_MO_writeMore 6 none 2 ab_nQ u [ab_O 17 0, ab_I (nI p1), ab_I (nI 24), ab_I a, ab_I b] (fun u' v => ww u0 u' (100 * (3 * p1 + j)) (w0 ++ [5000]) ∧ v = none) := by
  refine ab_C.of (by decide) (Nat.le_of_ble_eq_true rfl) ?_
  intro p e s m args below meth c ad X hZ hr0 hlk
  have P0 : gP [16, 109] u0 u := h.1
  refine ab_iload_n X 2 d_MO_writeMore_0 rfl rfl ?_
  refine ab_bipush (v := 13) X d_MO_writeMore_1 (by decide) ?_
  refine ab_icmp_eq X 12 d_MO_writeMore_3 rfl (fun hb => absurd hb ((by decide))) (fun _ => ?_)
  refine ab_iload_n X 2 d_MO_writeMore_6 rfl rfl ?_
  refine ab_bipush (v := 21) X d_MO_writeMore_7 (by decide) ?_
  refine ab_icmp_ne X 43 d_MO_writeMore_9 rfl (fun _ => ?_) (fun hb => absurd hb ((by decide)))
  refine ab_iload_n X 2 d_MO_writeMore_43 rfl rfl ?_
  refine ab_bipush (v := 14) X d_MO_writeMore_44 (by decide) ?_
  refine ab_icmp_ne X 66 d_MO_writeMore_46 rfl (fun _ => ?_) (fun hb => absurd hb ((by decide)))
  refine ab_iload_n X 2 d_MO_writeMore_66 rfl rfl ?_
  refine ab_bipush (v := 15) X d_MO_writeMore_67 (by decide) ?_
  refine ab_icmp_ne X 85 d_MO_writeMore_69 rfl (fun _ => ?_) (fun hb => absurd hb ((by decide)))
  refine ab_iload_n X 2 d_MO_writeMore_85 rfl rfl ?_
  refine ab_bipush (v := 16) X d_MO_writeMore_86 (by decide) ?_
  refine ab_icmp_ne X 104 d_MO_writeMore_88 rfl (fun _ => ?_) (fun hb => absurd hb ((by decide)))
  refine ab_iload_n X 2 d_MO_writeMore_104 rfl rfl ?_
  refine ab_bipush (v := 17) X d_MO_writeMore_105 (by decide) ?_
  refine ab_icmp_ne X 123 d_MO_writeMore_107 rfl (fun _ => ?_) (fun hb => absurd hb ((by decide)))
  refine ab_iconst (v := 0) X d_MO_writeMore_123 (by decide) ?_
  refine ab_istore5 X 0 1 2 3 4 d_MO_writeMore_124 (by decide) rfl rfl rfl rfl rfl rfl rfl rfl rfl rfl ?_
  refine ab_iload X 0 d_MO_writeMore_126 rfl ?_
  refine ab_aload_n X 1 d_MO_writeMore_128 rfl rfl ?_
  refine ab_gR X fl_MO_39 d_MO_writeMore_129 (by first | assumption | decide | (show _ < 124; omega) | (show _ < 61; omega) | (show _ < 20; omega)) (P0.1.mo9) ?_
  refine ab_iload_n X 2 d_MO_writeMore_132 rfl rfl ?_
  refine ab_iald X (p1) ⟨rfl, rfl⟩ d_MO_writeMore_133 (by first | assumption | decide | (show _ < 124; omega) | (show _ < 61; omega) | (show _ < 20; omega)) (rfl) (show p1 < 40 by omega) (ab_ln_lt _ _) ?_
  refine ab_icmp_ge X 197 d_MO_writeMore_134 rfl (fun h134 => ?_) (fun h134 => ?_)
  ·
    refine ab_iload_n X 3 d_MO_writeMore_197 rfl rfl ?_
    refine ab_bipush (v := 22) X d_MO_writeMore_198 (by decide) ?_
    refine ab_icmp_ne X 234 d_MO_writeMore_200 rfl (fun _ => ?_) (fun hb => absurd hb ((by decide)))
    refine ab_iload_n X 3 d_MO_writeMore_234 rfl rfl ?_
    refine ab_bipush (v := 23) X d_MO_writeMore_235 (by decide) ?_
    refine ab_icmp_ne X 253 d_MO_writeMore_237 rfl (fun _ => ?_) (fun hb => absurd hb ((by decide)))
    refine ab_iload_n X 3 d_MO_writeMore_253 rfl rfl ?_
    refine ab_bipush (v := 24) X d_MO_writeMore_254 (by decide) ?_
    refine ab_icmp_ne X 273 d_MO_writeMore_256 rfl (fun hb => absurd ((by decide)) hb) (fun _ => ?_)
    refine ab_aload_n X 1 d_MO_writeMore_259 rfl rfl ?_
    refine ab_iload_n X 2 d_MO_writeMore_260 rfl rfl ?_
    refine ab_callS (as := [ab_I (nI p1)]) X (fun h => by cases h) (t_MO_b u p1) ls_MO_204 d_MO_writeMore_261 rfl rfl ⟨by first | exact Nat.le_of_ble_eq_true rfl | (simp only [ab_rm]; omega), by first | exact Nat.le_of_ble_eq_true rfl | (simp only [ab_rm]; omega)⟩ ⟨by first | exact Nat.le_of_ble_eq_true rfl | (simp only [ab_rm]; omega), by first | exact Nat.le_of_ble_eq_true rfl | (simp only [ab_rm]; omega)⟩ (Nat.le_of_ble_eq_true rfl) (fun u261 r261 h261 => ?_)
    obtain ⟨e261, rfl⟩ := h261
    subst u261
    refine ab_callV (as := [ab_I (nI (3 * p1))]) X (fun h => by cases h) (x_MO_sayForm u0 u _ _ h (by omega) (3 * p1) w0 (by omega) (by omega) G (by show 0 + _ ≤ 100; omega)) lk_MO_239 d_MO_writeMore_264 rfl rfl (by first | assumption | decide | (show _ < 124; omega) | (show _ < 61; omega) | (show _ < 20; omega)) ⟨by first | exact Nat.le_of_ble_eq_true rfl | (simp only [ab_rm]; omega), by first | exact Nat.le_of_ble_eq_true rfl | (simp only [ab_rm]; omega)⟩ ⟨by first | exact Nat.le_of_ble_eq_true rfl | (simp only [ab_rm]; omega), by first | exact Nat.le_of_ble_eq_true rfl | (simp only [ab_rm]; omega)⟩ (Nat.le_of_ble_eq_true rfl) (fun u264 r264 h264 => ?_)
    obtain ⟨q264, rfl⟩ := h264
    have P264 := q264.1
    refine ab_aload_n X 1 d_MO_writeMore_267 rfl rfl ?_
    refine ab_iconst (v := 5) X d_MO_writeMore_268 (by decide) ?_
    refine ab_iconst (v := 0) X d_MO_writeMore_269 (by decide) ?_
    refine ab_callV (as := [ab_I (nI 5), ab_I (nI 0)]) X (fun h => by cases h) (x_MO_say u0 u264 _ _ q264 (by rw [List.nil_append]; omega) (by omega) 5 0) lk_MO_242 d_MO_writeMore_270 rfl rfl (by first | assumption | decide | (show _ < 124; omega) | (show _ < 61; omega) | (show _ < 20; omega)) ⟨by first | exact Nat.le_of_ble_eq_true rfl | (simp only [ab_rm]; omega), by first | exact Nat.le_of_ble_eq_true rfl | (simp only [ab_rm]; omega)⟩ ⟨by first | exact Nat.le_of_ble_eq_true rfl | (simp only [ab_rm]; omega), by first | exact Nat.le_of_ble_eq_true rfl | (simp only [ab_rm]; omega)⟩ (Nat.le_of_ble_eq_true rfl) (fun u270 r270 h270 => ?_)
    obtain ⟨q270, rfl⟩ := h270
    have P270 := q270.1
    exact ab_retv X hr0 hlk d_MO_writeMore_273 ⟨q270, rfl⟩
  ·
    refine ab_iload_n X 3 d_MO_writeMore_137 rfl rfl ?_
    refine ab_bipush (v := 18) X d_MO_writeMore_138 (by decide) ?_
    refine ab_icmp_ne X 197 d_MO_writeMore_140 rfl (fun _ => ?_) (fun hb => absurd hb ((by decide)))
    refine ab_iload_n X 3 d_MO_writeMore_197 rfl rfl ?_
    refine ab_bipush (v := 22) X d_MO_writeMore_198 (by decide) ?_
    refine ab_icmp_ne X 234 d_MO_writeMore_200 rfl (fun _ => ?_) (fun hb => absurd hb ((by decide)))
    refine ab_iload_n X 3 d_MO_writeMore_234 rfl rfl ?_
    refine ab_bipush (v := 23) X d_MO_writeMore_235 (by decide) ?_
    refine ab_icmp_ne X 253 d_MO_writeMore_237 rfl (fun _ => ?_) (fun hb => absurd hb ((by decide)))
    refine ab_iload_n X 3 d_MO_writeMore_253 rfl rfl ?_
    refine ab_bipush (v := 24) X d_MO_writeMore_254 (by decide) ?_
    refine ab_icmp_ne X 273 d_MO_writeMore_256 rfl (fun hb => absurd ((by decide)) hb) (fun _ => ?_)
    refine ab_aload_n X 1 d_MO_writeMore_259 rfl rfl ?_
    refine ab_iload_n X 2 d_MO_writeMore_260 rfl rfl ?_
    refine ab_callS (as := [ab_I (nI p1)]) X (fun h => by cases h) (t_MO_b u p1) ls_MO_204 d_MO_writeMore_261 rfl rfl ⟨by first | exact Nat.le_of_ble_eq_true rfl | (simp only [ab_rm]; omega), by first | exact Nat.le_of_ble_eq_true rfl | (simp only [ab_rm]; omega)⟩ ⟨by first | exact Nat.le_of_ble_eq_true rfl | (simp only [ab_rm]; omega), by first | exact Nat.le_of_ble_eq_true rfl | (simp only [ab_rm]; omega)⟩ (Nat.le_of_ble_eq_true rfl) (fun u261 r261 h261 => ?_)
    obtain ⟨e261, rfl⟩ := h261
    subst u261
    refine ab_callV (as := [ab_I (nI (3 * p1))]) X (fun h => by cases h) (x_MO_sayForm u0 u _ _ h (by omega) (3 * p1) w0 (by omega) (by omega) G (by show 0 + _ ≤ 100; omega)) lk_MO_239 d_MO_writeMore_264 rfl rfl (by first | assumption | decide | (show _ < 124; omega) | (show _ < 61; omega) | (show _ < 20; omega)) ⟨by first | exact Nat.le_of_ble_eq_true rfl | (simp only [ab_rm]; omega), by first | exact Nat.le_of_ble_eq_true rfl | (simp only [ab_rm]; omega)⟩ ⟨by first | exact Nat.le_of_ble_eq_true rfl | (simp only [ab_rm]; omega), by first | exact Nat.le_of_ble_eq_true rfl | (simp only [ab_rm]; omega)⟩ (Nat.le_of_ble_eq_true rfl) (fun u264 r264 h264 => ?_)
    obtain ⟨q264, rfl⟩ := h264
    have P264 := q264.1
    refine ab_aload_n X 1 d_MO_writeMore_267 rfl rfl ?_
    refine ab_iconst (v := 5) X d_MO_writeMore_268 (by decide) ?_
    refine ab_iconst (v := 0) X d_MO_writeMore_269 (by decide) ?_
    refine ab_callV (as := [ab_I (nI 5), ab_I (nI 0)]) X (fun h => by cases h) (x_MO_say u0 u264 _ _ q264 (by rw [List.nil_append]; omega) (by omega) 5 0) lk_MO_242 d_MO_writeMore_270 rfl rfl (by first | assumption | decide | (show _ < 124; omega) | (show _ < 61; omega) | (show _ < 20; omega)) ⟨by first | exact Nat.le_of_ble_eq_true rfl | (simp only [ab_rm]; omega), by first | exact Nat.le_of_ble_eq_true rfl | (simp only [ab_rm]; omega)⟩ ⟨by first | exact Nat.le_of_ble_eq_true rfl | (simp only [ab_rm]; omega), by first | exact Nat.le_of_ble_eq_true rfl | (simp only [ab_rm]; omega)⟩ (Nat.le_of_ble_eq_true rfl) (fun u270 r270 h270 => ?_)
    obtain ⟨q270, rfl⟩ := h270
    have P270 := q270.1
    exact ab_retv X hr0 hlk d_MO_writeMore_273 ⟨q270, rfl⟩
set_option maxRecDepth 100000 in
set_option maxHeartbeats 1000000 in
theorem x_MO_writeMore13 (u0 u : ab_S) (p1 j x y : Nat) (Wq : Nat → Nat → List Nat) (hp : p1 < 19) (hj : j < 3) (hx : p1 < x) (hx2 : x < 19) (hy : p1 < y) (hy2 : y < 19) (gx : rg u0 (3 * x) (Wq x 0) ∧ rg u0 (3 * x + 1) (Wq x 1) ∧ rg u0 (3 * x + 2) (Wq x 2)) (gy : rg u0 (3 * y) (Wq y 0) ∧ rg u0 (3 * y + 1) (Wq y 1) ∧ rg u0 (3 * y + 2) (Wq y 2)) (hK : (Wq x 2).length + (Wq y 0).length ≤ 100) (h : ww u0 u (100 * (3 * p1 + j)) []) : ab_C false l D ca y_MO_writeMore b_MO_writeMore 6 none 2 ab_nQ u [ab_O 17 0, ab_I (nI p1), ab_I (nI 13), ab_I (nI x), ab_I (nI y)] (fun u' v => ww u0 u' (100 * (3 * p1 + j)) ((Wq x 2) ++ (Wq y 0)) ∧ v = none) := by
  refine ab_C.of (by decide) (Nat.le_of_ble_eq_true rfl) ?_
  intro p e s m args below meth c ad X hZ hr0 hlk
  have P0 : gP [16, 109] u0 u := h.1
  refine ab_iload_n X 2 d_MO_writeMore_0 rfl rfl ?_
  refine ab_bipush (v := 13) X d_MO_writeMore_1 (by decide) ?_
  refine ab_icmp_eq X 12 d_MO_writeMore_3 rfl (fun _ => ?_) (fun hb => absurd ((by decide)) hb)
  refine ab_aload_n X 0 d_MO_writeMore_12 rfl rfl ?_
  refine ab_iload_n X 3 d_MO_writeMore_13 rfl rfl ?_
  refine ab_callS (as := [ab_I (nI x)]) X (fun h => by cases h) (t_MO_v u x) ls_MO_201 d_MO_writeMore_14 rfl rfl ⟨by first | exact Nat.le_of_ble_eq_true rfl | (simp only [ab_rm]; omega), by first | exact Nat.le_of_ble_eq_true rfl | (simp only [ab_rm]; omega)⟩ ⟨by first | exact Nat.le_of_ble_eq_true rfl | (simp only [ab_rm]; omega), by first | exact Nat.le_of_ble_eq_true rfl | (simp only [ab_rm]; omega)⟩ (Nat.le_of_ble_eq_true rfl) (fun u14 r14 h14 => ?_)
  obtain ⟨e14, rfl⟩ := h14
  subst u14
  refine ab_callV (as := [ab_I (nI (3 * x + 2))]) X (fun h => by cases h) (x_MO_sayForm u0 u _ _ h (by omega) (3 * x + 2) (Wq x 2) (by omega) (by omega) gx.2.2 (by simp only [List.length_append, List.length_cons, List.length_nil]; omega)) lk_MO_239 d_MO_writeMore_17 rfl rfl (by first | assumption | decide | (show _ < 124; omega) | (show _ < 61; omega) | (show _ < 20; omega)) ⟨by first | exact Nat.le_of_ble_eq_true rfl | (simp only [ab_rm]; omega), by first | exact Nat.le_of_ble_eq_true rfl | (simp only [ab_rm]; omega)⟩ ⟨by first | exact Nat.le_of_ble_eq_true rfl | (simp only [ab_rm]; omega), by first | exact Nat.le_of_ble_eq_true rfl | (simp only [ab_rm]; omega)⟩ (Nat.le_of_ble_eq_true rfl) (fun u17 r17 h17 => ?_)
  obtain ⟨q17, rfl⟩ := h17
  have P17 := q17.1
  refine ab_aload_n X 0 d_MO_writeMore_20 rfl rfl ?_
  refine ab_iload_n X 2 d_MO_writeMore_21 rfl rfl ?_
  refine ab_bipush (v := 13) X d_MO_writeMore_22 (by decide) ?_
  refine ab_icmp_ne X 35 d_MO_writeMore_24 rfl (fun hb => absurd ((by decide)) hb) (fun _ => ?_)
  refine ab_iload X 4 d_MO_writeMore_27 rfl ?_
  refine ab_callS (as := [ab_I (nI y)]) X (fun h => by cases h) (t_MO_b u17 y) ls_MO_204 d_MO_writeMore_29 rfl rfl ⟨by first | exact Nat.le_of_ble_eq_true rfl | (simp only [ab_rm]; omega), by first | exact Nat.le_of_ble_eq_true rfl | (simp only [ab_rm]; omega)⟩ ⟨by first | exact Nat.le_of_ble_eq_true rfl | (simp only [ab_rm]; omega), by first | exact Nat.le_of_ble_eq_true rfl | (simp only [ab_rm]; omega)⟩ (Nat.le_of_ble_eq_true rfl) (fun u29 r29 h29 => ?_)
  obtain ⟨e29, rfl⟩ := h29
  subst u29
  refine ab_goto X 40 d_MO_writeMore_32 rfl ?_
  refine ab_callV (as := [ab_I (nI (3 * y))]) X (fun h => by cases h) (x_MO_sayForm u0 u17 _ _ q17 (by omega) (3 * y) (Wq y 0) (by omega) (by omega) gy.1 (by simp only [List.length_append, List.length_cons, List.length_nil]; omega)) lk_MO_239 d_MO_writeMore_40 rfl rfl (by first | assumption | decide | (show _ < 124; omega) | (show _ < 61; omega) | (show _ < 20; omega)) ⟨by first | exact Nat.le_of_ble_eq_true rfl | (simp only [ab_rm]; omega), by first | exact Nat.le_of_ble_eq_true rfl | (simp only [ab_rm]; omega)⟩ ⟨by first | exact Nat.le_of_ble_eq_true rfl | (simp only [ab_rm]; omega), by first | exact Nat.le_of_ble_eq_true rfl | (simp only [ab_rm]; omega)⟩ (Nat.le_of_ble_eq_true rfl) (fun u40 r40 h40 => ?_)
  obtain ⟨q40, rfl⟩ := h40
  have P40 := q40.1
  refine ab_iload_n X 2 d_MO_writeMore_43 rfl rfl ?_
  refine ab_bipush (v := 14) X d_MO_writeMore_44 (by decide) ?_
  refine ab_icmp_ne X 66 d_MO_writeMore_46 rfl (fun _ => ?_) (fun hb => absurd hb ((by decide)))
  refine ab_iload_n X 2 d_MO_writeMore_66 rfl rfl ?_
  refine ab_bipush (v := 15) X d_MO_writeMore_67 (by decide) ?_
  refine ab_icmp_ne X 85 d_MO_writeMore_69 rfl (fun _ => ?_) (fun hb => absurd hb ((by decide)))
  refine ab_iload_n X 2 d_MO_writeMore_85 rfl rfl ?_
  refine ab_bipush (v := 16) X d_MO_writeMore_86 (by decide) ?_
  refine ab_icmp_ne X 104 d_MO_writeMore_88 rfl (fun _ => ?_) (fun hb => absurd hb ((by decide)))
  refine ab_iload_n X 2 d_MO_writeMore_104 rfl rfl ?_
  refine ab_bipush (v := 17) X d_MO_writeMore_105 (by decide) ?_
  refine ab_icmp_ne X 123 d_MO_writeMore_107 rfl (fun _ => ?_) (fun hb => absurd hb ((by decide)))
  refine ab_iconst (v := 0) X d_MO_writeMore_123 (by decide) ?_
  refine ab_istore5 X 0 1 2 3 4 d_MO_writeMore_124 (by decide) rfl rfl rfl rfl rfl rfl rfl rfl rfl rfl ?_
  refine ab_iload X 0 d_MO_writeMore_126 rfl ?_
  refine ab_aload_n X 1 d_MO_writeMore_128 rfl rfl ?_
  refine ab_gR X fl_MO_39 d_MO_writeMore_129 (by first | assumption | decide | (show _ < 124; omega) | (show _ < 61; omega) | (show _ < 20; omega)) (P40.1.mo9) ?_
  refine ab_iload_n X 2 d_MO_writeMore_132 rfl rfl ?_
  refine ab_iald X (p1) ⟨rfl, rfl⟩ d_MO_writeMore_133 (by first | assumption | decide | (show _ < 124; omega) | (show _ < 61; omega) | (show _ < 20; omega)) (rfl) (show p1 < 40 by omega) (ab_ln_lt _ _) ?_
  refine ab_icmp_ge X 197 d_MO_writeMore_134 rfl (fun h134 => ?_) (fun h134 => ?_)
  ·
    refine ab_iload_n X 3 d_MO_writeMore_197 rfl rfl ?_
    refine ab_bipush (v := 22) X d_MO_writeMore_198 (by decide) ?_
    refine ab_icmp_ne X 234 d_MO_writeMore_200 rfl (fun _ => ?_) (fun hb => absurd hb ((by decide)))
    refine ab_iload_n X 3 d_MO_writeMore_234 rfl rfl ?_
    refine ab_bipush (v := 23) X d_MO_writeMore_235 (by decide) ?_
    refine ab_icmp_ne X 253 d_MO_writeMore_237 rfl (fun _ => ?_) (fun hb => absurd hb ((by decide)))
    refine ab_iload_n X 3 d_MO_writeMore_253 rfl rfl ?_
    refine ab_bipush (v := 24) X d_MO_writeMore_254 (by decide) ?_
    refine ab_icmp_ne X 273 d_MO_writeMore_256 rfl (fun _ => ?_) (fun hb => absurd hb ((by decide)))
    exact ab_retv X hr0 hlk d_MO_writeMore_273 ⟨q40.cast (by simp [List.append_assoc]), rfl⟩
  ·
    refine ab_iload_n X 3 d_MO_writeMore_137 rfl rfl ?_
    refine ab_bipush (v := 18) X d_MO_writeMore_138 (by decide) ?_
    refine ab_icmp_ne X 197 d_MO_writeMore_140 rfl (fun _ => ?_) (fun hb => absurd hb ((by decide)))
    refine ab_iload_n X 3 d_MO_writeMore_197 rfl rfl ?_
    refine ab_bipush (v := 22) X d_MO_writeMore_198 (by decide) ?_
    refine ab_icmp_ne X 234 d_MO_writeMore_200 rfl (fun _ => ?_) (fun hb => absurd hb ((by decide)))
    refine ab_iload_n X 3 d_MO_writeMore_234 rfl rfl ?_
    refine ab_bipush (v := 23) X d_MO_writeMore_235 (by decide) ?_
    refine ab_icmp_ne X 253 d_MO_writeMore_237 rfl (fun _ => ?_) (fun hb => absurd hb ((by decide)))
    refine ab_iload_n X 3 d_MO_writeMore_253 rfl rfl ?_
    refine ab_bipush (v := 24) X d_MO_writeMore_254 (by decide) ?_
    refine ab_icmp_ne X 273 d_MO_writeMore_256 rfl (fun _ => ?_) (fun hb => absurd hb ((by decide)))
    exact ab_retv X hr0 hlk d_MO_writeMore_273 ⟨q40.cast (by simp [List.append_assoc]), rfl⟩
set_option maxRecDepth 100000 in
set_option maxHeartbeats 1000000 in
theorem x_MO_writeMore14 (u0 u : ab_S) (p1 j x y : Nat) (Wq : Nat → Nat → List Nat) (hp : p1 < 19) (hj : j < 3) (hx : p1 < x) (hx2 : x < 19) (hy : p1 < y) (hy2 : y < 19) (gx : rg u0 (3 * x) (Wq x 0) ∧ rg u0 (3 * x + 1) (Wq x 1) ∧ rg u0 (3 * x + 2) (Wq x 2)) (gy : rg u0 (3 * y) (Wq y 0) ∧ rg u0 (3 * y + 1) (Wq y 1) ∧ rg u0 (3 * y + 2) (Wq y 2)) (hK : (Wq y 2).length + (Wq x 0).length ≤ 100) (h : ww u0 u (100 * (3 * p1 + j)) []) : ab_C false l D ca y_MO_writeMore b_MO_writeMore 6 none 2 ab_nQ u [ab_O 17 0, ab_I (nI p1), ab_I (nI 14), ab_I (nI x), ab_I (nI y)] (fun u' v => ww u0 u' (100 * (3 * p1 + j)) ((Wq y 2) ++ (Wq x 0)) ∧ v = none) := by
  refine ab_C.of (by decide) (Nat.le_of_ble_eq_true rfl) ?_
  intro p e s m args below meth c ad X hZ hr0 hlk
  have P0 : gP [16, 109] u0 u := h.1
  refine ab_iload_n X 2 d_MO_writeMore_0 rfl rfl ?_
  refine ab_bipush (v := 13) X d_MO_writeMore_1 (by decide) ?_
  refine ab_icmp_eq X 12 d_MO_writeMore_3 rfl (fun hb => absurd hb ((by decide))) (fun _ => ?_)
  refine ab_iload_n X 2 d_MO_writeMore_6 rfl rfl ?_
  refine ab_bipush (v := 21) X d_MO_writeMore_7 (by decide) ?_
  refine ab_icmp_ne X 43 d_MO_writeMore_9 rfl (fun _ => ?_) (fun hb => absurd hb ((by decide)))
  refine ab_iload_n X 2 d_MO_writeMore_43 rfl rfl ?_
  refine ab_bipush (v := 14) X d_MO_writeMore_44 (by decide) ?_
  refine ab_icmp_ne X 66 d_MO_writeMore_46 rfl (fun hb => absurd ((by decide)) hb) (fun _ => ?_)
  refine ab_aload_n X 0 d_MO_writeMore_49 rfl rfl ?_
  refine ab_iload X 4 d_MO_writeMore_50 rfl ?_
  refine ab_callS (as := [ab_I (nI y)]) X (fun h => by cases h) (t_MO_v u y) ls_MO_201 d_MO_writeMore_52 rfl rfl ⟨by first | exact Nat.le_of_ble_eq_true rfl | (simp only [ab_rm]; omega), by first | exact Nat.le_of_ble_eq_true rfl | (simp only [ab_rm]; omega)⟩ ⟨by first | exact Nat.le_of_ble_eq_true rfl | (simp only [ab_rm]; omega), by first | exact Nat.le_of_ble_eq_true rfl | (simp only [ab_rm]; omega)⟩ (Nat.le_of_ble_eq_true rfl) (fun u52 r52 h52 => ?_)
  obtain ⟨e52, rfl⟩ := h52
  subst u52
  refine ab_callV (as := [ab_I (nI (3 * y + 2))]) X (fun h => by cases h) (x_MO_sayForm u0 u _ _ h (by omega) (3 * y + 2) (Wq y 2) (by omega) (by omega) gy.2.2 (by simp only [List.length_append, List.length_cons, List.length_nil]; omega)) lk_MO_239 d_MO_writeMore_55 rfl rfl (by first | assumption | decide | (show _ < 124; omega) | (show _ < 61; omega) | (show _ < 20; omega)) ⟨by first | exact Nat.le_of_ble_eq_true rfl | (simp only [ab_rm]; omega), by first | exact Nat.le_of_ble_eq_true rfl | (simp only [ab_rm]; omega)⟩ ⟨by first | exact Nat.le_of_ble_eq_true rfl | (simp only [ab_rm]; omega), by first | exact Nat.le_of_ble_eq_true rfl | (simp only [ab_rm]; omega)⟩ (Nat.le_of_ble_eq_true rfl) (fun u55 r55 h55 => ?_)
  obtain ⟨q55, rfl⟩ := h55
  have P55 := q55.1
  refine ab_aload_n X 0 d_MO_writeMore_58 rfl rfl ?_
  refine ab_iload_n X 3 d_MO_writeMore_59 rfl rfl ?_
  refine ab_callS (as := [ab_I (nI x)]) X (fun h => by cases h) (t_MO_b u55 x) ls_MO_204 d_MO_writeMore_60 rfl rfl ⟨by first | exact Nat.le_of_ble_eq_true rfl | (simp only [ab_rm]; omega), by first | exact Nat.le_of_ble_eq_true rfl | (simp only [ab_rm]; omega)⟩ ⟨by first | exact Nat.le_of_ble_eq_true rfl | (simp only [ab_rm]; omega), by first | exact Nat.le_of_ble_eq_true rfl | (simp only [ab_rm]; omega)⟩ (Nat.le_of_ble_eq_true rfl) (fun u60 r60 h60 => ?_)
  obtain ⟨e60, rfl⟩ := h60
  subst u60
  refine ab_callV (as := [ab_I (nI (3 * x))]) X (fun h => by cases h) (x_MO_sayForm u0 u55 _ _ q55 (by omega) (3 * x) (Wq x 0) (by omega) (by omega) gx.1 (by simp only [List.length_append, List.length_cons, List.length_nil]; omega)) lk_MO_239 d_MO_writeMore_63 rfl rfl (by first | assumption | decide | (show _ < 124; omega) | (show _ < 61; omega) | (show _ < 20; omega)) ⟨by first | exact Nat.le_of_ble_eq_true rfl | (simp only [ab_rm]; omega), by first | exact Nat.le_of_ble_eq_true rfl | (simp only [ab_rm]; omega)⟩ ⟨by first | exact Nat.le_of_ble_eq_true rfl | (simp only [ab_rm]; omega), by first | exact Nat.le_of_ble_eq_true rfl | (simp only [ab_rm]; omega)⟩ (Nat.le_of_ble_eq_true rfl) (fun u63 r63 h63 => ?_)
  obtain ⟨q63, rfl⟩ := h63
  have P63 := q63.1
  refine ab_iload_n X 2 d_MO_writeMore_66 rfl rfl ?_
  refine ab_bipush (v := 15) X d_MO_writeMore_67 (by decide) ?_
  refine ab_icmp_ne X 85 d_MO_writeMore_69 rfl (fun _ => ?_) (fun hb => absurd hb ((by decide)))
  refine ab_iload_n X 2 d_MO_writeMore_85 rfl rfl ?_
  refine ab_bipush (v := 16) X d_MO_writeMore_86 (by decide) ?_
  refine ab_icmp_ne X 104 d_MO_writeMore_88 rfl (fun _ => ?_) (fun hb => absurd hb ((by decide)))
  refine ab_iload_n X 2 d_MO_writeMore_104 rfl rfl ?_
  refine ab_bipush (v := 17) X d_MO_writeMore_105 (by decide) ?_
  refine ab_icmp_ne X 123 d_MO_writeMore_107 rfl (fun _ => ?_) (fun hb => absurd hb ((by decide)))
  refine ab_iconst (v := 0) X d_MO_writeMore_123 (by decide) ?_
  refine ab_istore5 X 0 1 2 3 4 d_MO_writeMore_124 (by decide) rfl rfl rfl rfl rfl rfl rfl rfl rfl rfl ?_
  refine ab_iload X 0 d_MO_writeMore_126 rfl ?_
  refine ab_aload_n X 1 d_MO_writeMore_128 rfl rfl ?_
  refine ab_gR X fl_MO_39 d_MO_writeMore_129 (by first | assumption | decide | (show _ < 124; omega) | (show _ < 61; omega) | (show _ < 20; omega)) (P63.1.mo9) ?_
  refine ab_iload_n X 2 d_MO_writeMore_132 rfl rfl ?_
  refine ab_iald X (p1) ⟨rfl, rfl⟩ d_MO_writeMore_133 (by first | assumption | decide | (show _ < 124; omega) | (show _ < 61; omega) | (show _ < 20; omega)) (rfl) (show p1 < 40 by omega) (ab_ln_lt _ _) ?_
  refine ab_icmp_ge X 197 d_MO_writeMore_134 rfl (fun h134 => ?_) (fun h134 => ?_)
  ·
    refine ab_iload_n X 3 d_MO_writeMore_197 rfl rfl ?_
    refine ab_bipush (v := 22) X d_MO_writeMore_198 (by decide) ?_
    refine ab_icmp_ne X 234 d_MO_writeMore_200 rfl (fun _ => ?_) (fun hb => absurd hb ((by decide)))
    refine ab_iload_n X 3 d_MO_writeMore_234 rfl rfl ?_
    refine ab_bipush (v := 23) X d_MO_writeMore_235 (by decide) ?_
    refine ab_icmp_ne X 253 d_MO_writeMore_237 rfl (fun _ => ?_) (fun hb => absurd hb ((by decide)))
    refine ab_iload_n X 3 d_MO_writeMore_253 rfl rfl ?_
    refine ab_bipush (v := 24) X d_MO_writeMore_254 (by decide) ?_
    refine ab_icmp_ne X 273 d_MO_writeMore_256 rfl (fun _ => ?_) (fun hb => absurd hb ((by decide)))
    exact ab_retv X hr0 hlk d_MO_writeMore_273 ⟨q63.cast (by simp [List.append_assoc]), rfl⟩
  ·
    refine ab_iload_n X 3 d_MO_writeMore_137 rfl rfl ?_
    refine ab_bipush (v := 18) X d_MO_writeMore_138 (by decide) ?_
    refine ab_icmp_ne X 197 d_MO_writeMore_140 rfl (fun _ => ?_) (fun hb => absurd hb ((by decide)))
    refine ab_iload_n X 3 d_MO_writeMore_197 rfl rfl ?_
    refine ab_bipush (v := 22) X d_MO_writeMore_198 (by decide) ?_
    refine ab_icmp_ne X 234 d_MO_writeMore_200 rfl (fun _ => ?_) (fun hb => absurd hb ((by decide)))
    refine ab_iload_n X 3 d_MO_writeMore_234 rfl rfl ?_
    refine ab_bipush (v := 23) X d_MO_writeMore_235 (by decide) ?_
    refine ab_icmp_ne X 253 d_MO_writeMore_237 rfl (fun _ => ?_) (fun hb => absurd hb ((by decide)))
    refine ab_iload_n X 3 d_MO_writeMore_253 rfl rfl ?_
    refine ab_bipush (v := 24) X d_MO_writeMore_254 (by decide) ?_
    refine ab_icmp_ne X 273 d_MO_writeMore_256 rfl (fun _ => ?_) (fun hb => absurd hb ((by decide)))
    exact ab_retv X hr0 hlk d_MO_writeMore_273 ⟨q63.cast (by simp [List.append_assoc]), rfl⟩
set_option maxRecDepth 100000 in
set_option maxHeartbeats 1000000 in
theorem x_MO_writeMore15 (u0 u : ab_S) (p1 j x y : Nat) (Wq : Nat → Nat → List Nat) (hp : p1 < 19) (hj : j < 3) (hx : p1 < x) (hx2 : x < 19) (hy : p1 < y) (hy2 : y < 19) (gx : rg u0 (3 * x) (Wq x 0) ∧ rg u0 (3 * x + 1) (Wq x 1) ∧ rg u0 (3 * x + 2) (Wq x 2)) (gy : rg u0 (3 * y) (Wq y 0) ∧ rg u0 (3 * y + 1) (Wq y 1) ∧ rg u0 (3 * y + 2) (Wq y 2)) (hK : (Wq x 1).length + (Wq y 0).length + 3 ≤ 100) (h : ww u0 u (100 * (3 * p1 + j)) []) : ab_C false l D ca y_MO_writeMore b_MO_writeMore 6 none 2 ab_nQ u [ab_O 17 0, ab_I (nI p1), ab_I (nI 15), ab_I (nI x), ab_I (nI y)] (fun u' v => ww u0 u' (100 * (3 * p1 + j)) ((Wq x 1) ++ [16000] ++ [15000] ++ (Wq y 0) ++ [14000]) ∧ v = none) := by
  refine ab_C.of (by decide) (Nat.le_of_ble_eq_true rfl) ?_
  intro p e s m args below meth c ad X hZ hr0 hlk
  have P0 : gP [16, 109] u0 u := h.1
  refine ab_iload_n X 2 d_MO_writeMore_0 rfl rfl ?_
  refine ab_bipush (v := 13) X d_MO_writeMore_1 (by decide) ?_
  refine ab_icmp_eq X 12 d_MO_writeMore_3 rfl (fun hb => absurd hb ((by decide))) (fun _ => ?_)
  refine ab_iload_n X 2 d_MO_writeMore_6 rfl rfl ?_
  refine ab_bipush (v := 21) X d_MO_writeMore_7 (by decide) ?_
  refine ab_icmp_ne X 43 d_MO_writeMore_9 rfl (fun _ => ?_) (fun hb => absurd hb ((by decide)))
  refine ab_iload_n X 2 d_MO_writeMore_43 rfl rfl ?_
  refine ab_bipush (v := 14) X d_MO_writeMore_44 (by decide) ?_
  refine ab_icmp_ne X 66 d_MO_writeMore_46 rfl (fun _ => ?_) (fun hb => absurd hb ((by decide)))
  refine ab_iload_n X 2 d_MO_writeMore_66 rfl rfl ?_
  refine ab_bipush (v := 15) X d_MO_writeMore_67 (by decide) ?_
  refine ab_icmp_ne X 85 d_MO_writeMore_69 rfl (fun hb => absurd ((by decide)) hb) (fun _ => ?_)
  refine ab_aload_n X 0 d_MO_writeMore_72 rfl rfl ?_
  refine ab_iload_n X 3 d_MO_writeMore_73 rfl rfl ?_
  refine ab_callS (as := [ab_I (nI x)]) X (fun h => by cases h) (t_MO_d u x) ls_MO_195 d_MO_writeMore_74 rfl rfl ⟨by first | exact Nat.le_of_ble_eq_true rfl | (simp only [ab_rm]; omega), by first | exact Nat.le_of_ble_eq_true rfl | (simp only [ab_rm]; omega)⟩ ⟨by first | exact Nat.le_of_ble_eq_true rfl | (simp only [ab_rm]; omega), by first | exact Nat.le_of_ble_eq_true rfl | (simp only [ab_rm]; omega)⟩ (Nat.le_of_ble_eq_true rfl) (fun u74 r74 h74 => ?_)
  obtain ⟨e74, rfl⟩ := h74
  subst u74
  refine ab_iload X 4 d_MO_writeMore_77 rfl ?_
  refine ab_callS (as := [ab_I (nI y)]) X (fun h => by cases h) (t_MO_b u y) ls_MO_204 d_MO_writeMore_79 rfl rfl ⟨by first | exact Nat.le_of_ble_eq_true rfl | (simp only [ab_rm]; omega), by first | exact Nat.le_of_ble_eq_true rfl | (simp only [ab_rm]; omega)⟩ ⟨by first | exact Nat.le_of_ble_eq_true rfl | (simp only [ab_rm]; omega), by first | exact Nat.le_of_ble_eq_true rfl | (simp only [ab_rm]; omega)⟩ (Nat.le_of_ble_eq_true rfl) (fun u79 r79 h79 => ?_)
  obtain ⟨e79, rfl⟩ := h79
  subst u79
  refine ab_callV (as := [ab_I (nI (3 * x + 1)), ab_I (nI (3 * y))]) X (fun h => by cases h) (x_MO_sayTwice u0 u _ _ h (by omega) (3 * x + 1) (3 * y) (Wq x 1) (Wq y 0) (by omega) (by omega) gx.2.1 (by omega) (by omega) gy.1 (by show 0 + _ + _ + 3 ≤ 100; omega)) lk_MO_248 d_MO_writeMore_82 rfl rfl (by first | assumption | decide | (show _ < 124; omega) | (show _ < 61; omega) | (show _ < 20; omega)) ⟨by first | exact Nat.le_of_ble_eq_true rfl | (simp only [ab_rm]; omega), by first | exact Nat.le_of_ble_eq_true rfl | (simp only [ab_rm]; omega)⟩ ⟨by first | exact Nat.le_of_ble_eq_true rfl | (simp only [ab_rm]; omega), by first | exact Nat.le_of_ble_eq_true rfl | (simp only [ab_rm]; omega)⟩ (Nat.le_of_ble_eq_true rfl) (fun u82 r82 h82 => ?_)
  obtain ⟨q82, rfl⟩ := h82
  have P82 := q82.1
  refine ab_iload_n X 2 d_MO_writeMore_85 rfl rfl ?_
  refine ab_bipush (v := 16) X d_MO_writeMore_86 (by decide) ?_
  refine ab_icmp_ne X 104 d_MO_writeMore_88 rfl (fun _ => ?_) (fun hb => absurd hb ((by decide)))
  refine ab_iload_n X 2 d_MO_writeMore_104 rfl rfl ?_
  refine ab_bipush (v := 17) X d_MO_writeMore_105 (by decide) ?_
  refine ab_icmp_ne X 123 d_MO_writeMore_107 rfl (fun _ => ?_) (fun hb => absurd hb ((by decide)))
  refine ab_iconst (v := 0) X d_MO_writeMore_123 (by decide) ?_
  refine ab_istore5 X 0 1 2 3 4 d_MO_writeMore_124 (by decide) rfl rfl rfl rfl rfl rfl rfl rfl rfl rfl ?_
  refine ab_iload X 0 d_MO_writeMore_126 rfl ?_
  refine ab_aload_n X 1 d_MO_writeMore_128 rfl rfl ?_
  refine ab_gR X fl_MO_39 d_MO_writeMore_129 (by first | assumption | decide | (show _ < 124; omega) | (show _ < 61; omega) | (show _ < 20; omega)) (P82.1.mo9) ?_
  refine ab_iload_n X 2 d_MO_writeMore_132 rfl rfl ?_
  refine ab_iald X (p1) ⟨rfl, rfl⟩ d_MO_writeMore_133 (by first | assumption | decide | (show _ < 124; omega) | (show _ < 61; omega) | (show _ < 20; omega)) (rfl) (show p1 < 40 by omega) (ab_ln_lt _ _) ?_
  refine ab_icmp_ge X 197 d_MO_writeMore_134 rfl (fun h134 => ?_) (fun h134 => ?_)
  ·
    refine ab_iload_n X 3 d_MO_writeMore_197 rfl rfl ?_
    refine ab_bipush (v := 22) X d_MO_writeMore_198 (by decide) ?_
    refine ab_icmp_ne X 234 d_MO_writeMore_200 rfl (fun _ => ?_) (fun hb => absurd hb ((by decide)))
    refine ab_iload_n X 3 d_MO_writeMore_234 rfl rfl ?_
    refine ab_bipush (v := 23) X d_MO_writeMore_235 (by decide) ?_
    refine ab_icmp_ne X 253 d_MO_writeMore_237 rfl (fun _ => ?_) (fun hb => absurd hb ((by decide)))
    refine ab_iload_n X 3 d_MO_writeMore_253 rfl rfl ?_
    refine ab_bipush (v := 24) X d_MO_writeMore_254 (by decide) ?_
    refine ab_icmp_ne X 273 d_MO_writeMore_256 rfl (fun _ => ?_) (fun hb => absurd hb ((by decide)))
    exact ab_retv X hr0 hlk d_MO_writeMore_273 ⟨q82.cast (by simp [List.append_assoc]), rfl⟩
  ·
    refine ab_iload_n X 3 d_MO_writeMore_137 rfl rfl ?_
    refine ab_bipush (v := 18) X d_MO_writeMore_138 (by decide) ?_
    refine ab_icmp_ne X 197 d_MO_writeMore_140 rfl (fun _ => ?_) (fun hb => absurd hb ((by decide)))
    refine ab_iload_n X 3 d_MO_writeMore_197 rfl rfl ?_
    refine ab_bipush (v := 22) X d_MO_writeMore_198 (by decide) ?_
    refine ab_icmp_ne X 234 d_MO_writeMore_200 rfl (fun _ => ?_) (fun hb => absurd hb ((by decide)))
    refine ab_iload_n X 3 d_MO_writeMore_234 rfl rfl ?_
    refine ab_bipush (v := 23) X d_MO_writeMore_235 (by decide) ?_
    refine ab_icmp_ne X 253 d_MO_writeMore_237 rfl (fun _ => ?_) (fun hb => absurd hb ((by decide)))
    refine ab_iload_n X 3 d_MO_writeMore_253 rfl rfl ?_
    refine ab_bipush (v := 24) X d_MO_writeMore_254 (by decide) ?_
    refine ab_icmp_ne X 273 d_MO_writeMore_256 rfl (fun _ => ?_) (fun hb => absurd hb ((by decide)))
    exact ab_retv X hr0 hlk d_MO_writeMore_273 ⟨q82.cast (by simp [List.append_assoc]), rfl⟩
set_option maxRecDepth 100000 in
set_option maxHeartbeats 1000000 in
theorem x_MO_writeMore16 (u0 u : ab_S) (p1 j x y : Nat) (Wq : Nat → Nat → List Nat) (hp : p1 < 19) (hj : j < 3) (hx : p1 < x) (hx2 : x < 19) (hy : p1 < y) (hy2 : y < 19) (gx : rg u0 (3 * x) (Wq x 0) ∧ rg u0 (3 * x + 1) (Wq x 1) ∧ rg u0 (3 * x + 2) (Wq x 2)) (gy : rg u0 (3 * y) (Wq y 0) ∧ rg u0 (3 * y + 1) (Wq y 1) ∧ rg u0 (3 * y + 2) (Wq y 2)) (hK : (Wq y 1).length + (Wq x 0).length + 3 ≤ 100) (h : ww u0 u (100 * (3 * p1 + j)) []) : ab_C false l D ca y_MO_writeMore b_MO_writeMore 6 none 2 ab_nQ u [ab_O 17 0, ab_I (nI p1), ab_I (nI 16), ab_I (nI x), ab_I (nI y)] (fun u' v => ww u0 u' (100 * (3 * p1 + j)) ((Wq y 1) ++ [16000] ++ [15000] ++ (Wq x 0) ++ [14000]) ∧ v = none) := by
  refine ab_C.of (by decide) (Nat.le_of_ble_eq_true rfl) ?_
  intro p e s m args below meth c ad X hZ hr0 hlk
  have P0 : gP [16, 109] u0 u := h.1
  refine ab_iload_n X 2 d_MO_writeMore_0 rfl rfl ?_
  refine ab_bipush (v := 13) X d_MO_writeMore_1 (by decide) ?_
  refine ab_icmp_eq X 12 d_MO_writeMore_3 rfl (fun hb => absurd hb ((by decide))) (fun _ => ?_)
  refine ab_iload_n X 2 d_MO_writeMore_6 rfl rfl ?_
  refine ab_bipush (v := 21) X d_MO_writeMore_7 (by decide) ?_
  refine ab_icmp_ne X 43 d_MO_writeMore_9 rfl (fun _ => ?_) (fun hb => absurd hb ((by decide)))
  refine ab_iload_n X 2 d_MO_writeMore_43 rfl rfl ?_
  refine ab_bipush (v := 14) X d_MO_writeMore_44 (by decide) ?_
  refine ab_icmp_ne X 66 d_MO_writeMore_46 rfl (fun _ => ?_) (fun hb => absurd hb ((by decide)))
  refine ab_iload_n X 2 d_MO_writeMore_66 rfl rfl ?_
  refine ab_bipush (v := 15) X d_MO_writeMore_67 (by decide) ?_
  refine ab_icmp_ne X 85 d_MO_writeMore_69 rfl (fun _ => ?_) (fun hb => absurd hb ((by decide)))
  refine ab_iload_n X 2 d_MO_writeMore_85 rfl rfl ?_
  refine ab_bipush (v := 16) X d_MO_writeMore_86 (by decide) ?_
  refine ab_icmp_ne X 104 d_MO_writeMore_88 rfl (fun hb => absurd ((by decide)) hb) (fun _ => ?_)
  refine ab_aload_n X 0 d_MO_writeMore_91 rfl rfl ?_
  refine ab_iload X 4 d_MO_writeMore_92 rfl ?_
  refine ab_callS (as := [ab_I (nI y)]) X (fun h => by cases h) (t_MO_d u y) ls_MO_195 d_MO_writeMore_94 rfl rfl ⟨by first | exact Nat.le_of_ble_eq_true rfl | (simp only [ab_rm]; omega), by first | exact Nat.le_of_ble_eq_true rfl | (simp only [ab_rm]; omega)⟩ ⟨by first | exact Nat.le_of_ble_eq_true rfl | (simp only [ab_rm]; omega), by first | exact Nat.le_of_ble_eq_true rfl | (simp only [ab_rm]; omega)⟩ (Nat.le_of_ble_eq_true rfl) (fun u94 r94 h94 => ?_)
  obtain ⟨e94, rfl⟩ := h94
  subst u94
  refine ab_iload_n X 3 d_MO_writeMore_97 rfl rfl ?_
  refine ab_callS (as := [ab_I (nI x)]) X (fun h => by cases h) (t_MO_b u x) ls_MO_204 d_MO_writeMore_98 rfl rfl ⟨by first | exact Nat.le_of_ble_eq_true rfl | (simp only [ab_rm]; omega), by first | exact Nat.le_of_ble_eq_true rfl | (simp only [ab_rm]; omega)⟩ ⟨by first | exact Nat.le_of_ble_eq_true rfl | (simp only [ab_rm]; omega), by first | exact Nat.le_of_ble_eq_true rfl | (simp only [ab_rm]; omega)⟩ (Nat.le_of_ble_eq_true rfl) (fun u98 r98 h98 => ?_)
  obtain ⟨e98, rfl⟩ := h98
  subst u98
  refine ab_callV (as := [ab_I (nI (3 * y + 1)), ab_I (nI (3 * x))]) X (fun h => by cases h) (x_MO_sayTwice u0 u _ _ h (by omega) (3 * y + 1) (3 * x) (Wq y 1) (Wq x 0) (by omega) (by omega) gy.2.1 (by omega) (by omega) gx.1 (by show 0 + _ + _ + 3 ≤ 100; omega)) lk_MO_248 d_MO_writeMore_101 rfl rfl (by first | assumption | decide | (show _ < 124; omega) | (show _ < 61; omega) | (show _ < 20; omega)) ⟨by first | exact Nat.le_of_ble_eq_true rfl | (simp only [ab_rm]; omega), by first | exact Nat.le_of_ble_eq_true rfl | (simp only [ab_rm]; omega)⟩ ⟨by first | exact Nat.le_of_ble_eq_true rfl | (simp only [ab_rm]; omega), by first | exact Nat.le_of_ble_eq_true rfl | (simp only [ab_rm]; omega)⟩ (Nat.le_of_ble_eq_true rfl) (fun u101 r101 h101 => ?_)
  obtain ⟨q101, rfl⟩ := h101
  have P101 := q101.1
  refine ab_iload_n X 2 d_MO_writeMore_104 rfl rfl ?_
  refine ab_bipush (v := 17) X d_MO_writeMore_105 (by decide) ?_
  refine ab_icmp_ne X 123 d_MO_writeMore_107 rfl (fun _ => ?_) (fun hb => absurd hb ((by decide)))
  refine ab_iconst (v := 0) X d_MO_writeMore_123 (by decide) ?_
  refine ab_istore5 X 0 1 2 3 4 d_MO_writeMore_124 (by decide) rfl rfl rfl rfl rfl rfl rfl rfl rfl rfl ?_
  refine ab_iload X 0 d_MO_writeMore_126 rfl ?_
  refine ab_aload_n X 1 d_MO_writeMore_128 rfl rfl ?_
  refine ab_gR X fl_MO_39 d_MO_writeMore_129 (by first | assumption | decide | (show _ < 124; omega) | (show _ < 61; omega) | (show _ < 20; omega)) (P101.1.mo9) ?_
  refine ab_iload_n X 2 d_MO_writeMore_132 rfl rfl ?_
  refine ab_iald X (p1) ⟨rfl, rfl⟩ d_MO_writeMore_133 (by first | assumption | decide | (show _ < 124; omega) | (show _ < 61; omega) | (show _ < 20; omega)) (rfl) (show p1 < 40 by omega) (ab_ln_lt _ _) ?_
  refine ab_icmp_ge X 197 d_MO_writeMore_134 rfl (fun h134 => ?_) (fun h134 => ?_)
  ·
    refine ab_iload_n X 3 d_MO_writeMore_197 rfl rfl ?_
    refine ab_bipush (v := 22) X d_MO_writeMore_198 (by decide) ?_
    refine ab_icmp_ne X 234 d_MO_writeMore_200 rfl (fun _ => ?_) (fun hb => absurd hb ((by decide)))
    refine ab_iload_n X 3 d_MO_writeMore_234 rfl rfl ?_
    refine ab_bipush (v := 23) X d_MO_writeMore_235 (by decide) ?_
    refine ab_icmp_ne X 253 d_MO_writeMore_237 rfl (fun _ => ?_) (fun hb => absurd hb ((by decide)))
    refine ab_iload_n X 3 d_MO_writeMore_253 rfl rfl ?_
    refine ab_bipush (v := 24) X d_MO_writeMore_254 (by decide) ?_
    refine ab_icmp_ne X 273 d_MO_writeMore_256 rfl (fun _ => ?_) (fun hb => absurd hb ((by decide)))
    exact ab_retv X hr0 hlk d_MO_writeMore_273 ⟨q101.cast (by simp [List.append_assoc]), rfl⟩
  ·
    refine ab_iload_n X 3 d_MO_writeMore_137 rfl rfl ?_
    refine ab_bipush (v := 18) X d_MO_writeMore_138 (by decide) ?_
    refine ab_icmp_ne X 197 d_MO_writeMore_140 rfl (fun _ => ?_) (fun hb => absurd hb ((by decide)))
    refine ab_iload_n X 3 d_MO_writeMore_197 rfl rfl ?_
    refine ab_bipush (v := 22) X d_MO_writeMore_198 (by decide) ?_
    refine ab_icmp_ne X 234 d_MO_writeMore_200 rfl (fun _ => ?_) (fun hb => absurd hb ((by decide)))
    refine ab_iload_n X 3 d_MO_writeMore_234 rfl rfl ?_
    refine ab_bipush (v := 23) X d_MO_writeMore_235 (by decide) ?_
    refine ab_icmp_ne X 253 d_MO_writeMore_237 rfl (fun _ => ?_) (fun hb => absurd hb ((by decide)))
    refine ab_iload_n X 3 d_MO_writeMore_253 rfl rfl ?_
    refine ab_bipush (v := 24) X d_MO_writeMore_254 (by decide) ?_
    refine ab_icmp_ne X 273 d_MO_writeMore_256 rfl (fun _ => ?_) (fun hb => absurd hb ((by decide)))
    exact ab_retv X hr0 hlk d_MO_writeMore_273 ⟨q101.cast (by simp [List.append_assoc]), rfl⟩
set_option maxRecDepth 100000 in
set_option maxHeartbeats 1000000 in
theorem x_MO_writeMore17 (u0 u : ab_S) (p1 j x y : Nat) (Wq : Nat → Nat → List Nat) (hp : p1 < 19) (hj : j < 3) (hx : p1 < x) (hx2 : x < 19) (hy : p1 < y) (hy2 : y < 19) (gx : rg u0 (3 * x) (Wq x 0) ∧ rg u0 (3 * x + 1) (Wq x 1) ∧ rg u0 (3 * x + 2) (Wq x 2)) (gy : rg u0 (3 * y) (Wq y 0) ∧ rg u0 (3 * y + 1) (Wq y 1) ∧ rg u0 (3 * y + 2) (Wq y 2)) (hK : (Wq x 0).length + (Wq y 0).length + 3 ≤ 100) (h : ww u0 u (100 * (3 * p1 + j)) []) : ab_C false l D ca y_MO_writeMore b_MO_writeMore 6 none 2 ab_nQ u [ab_O 17 0, ab_I (nI p1), ab_I (nI 17), ab_I (nI x), ab_I (nI y)] (fun u' v => ww u0 u' (100 * (3 * p1 + j)) ([12000] ++ (Wq x 0) ++ [13000] ++ (Wq y 0) ++ [14000]) ∧ v = none) := by
  refine ab_C.of (by decide) (Nat.le_of_ble_eq_true rfl) ?_
  intro p e s m args below meth c ad X hZ hr0 hlk
  have P0 : gP [16, 109] u0 u := h.1
  refine ab_iload_n X 2 d_MO_writeMore_0 rfl rfl ?_
  refine ab_bipush (v := 13) X d_MO_writeMore_1 (by decide) ?_
  refine ab_icmp_eq X 12 d_MO_writeMore_3 rfl (fun hb => absurd hb ((by decide))) (fun _ => ?_)
  refine ab_iload_n X 2 d_MO_writeMore_6 rfl rfl ?_
  refine ab_bipush (v := 21) X d_MO_writeMore_7 (by decide) ?_
  refine ab_icmp_ne X 43 d_MO_writeMore_9 rfl (fun _ => ?_) (fun hb => absurd hb ((by decide)))
  refine ab_iload_n X 2 d_MO_writeMore_43 rfl rfl ?_
  refine ab_bipush (v := 14) X d_MO_writeMore_44 (by decide) ?_
  refine ab_icmp_ne X 66 d_MO_writeMore_46 rfl (fun _ => ?_) (fun hb => absurd hb ((by decide)))
  refine ab_iload_n X 2 d_MO_writeMore_66 rfl rfl ?_
  refine ab_bipush (v := 15) X d_MO_writeMore_67 (by decide) ?_
  refine ab_icmp_ne X 85 d_MO_writeMore_69 rfl (fun _ => ?_) (fun hb => absurd hb ((by decide)))
  refine ab_iload_n X 2 d_MO_writeMore_85 rfl rfl ?_
  refine ab_bipush (v := 16) X d_MO_writeMore_86 (by decide) ?_
  refine ab_icmp_ne X 104 d_MO_writeMore_88 rfl (fun _ => ?_) (fun hb => absurd hb ((by decide)))
  refine ab_iload_n X 2 d_MO_writeMore_104 rfl rfl ?_
  refine ab_bipush (v := 17) X d_MO_writeMore_105 (by decide) ?_
  refine ab_icmp_ne X 123 d_MO_writeMore_107 rfl (fun hb => absurd ((by decide)) hb) (fun _ => ?_)
  refine ab_aload_n X 0 d_MO_writeMore_110 rfl rfl ?_
  refine ab_iload_n X 3 d_MO_writeMore_111 rfl rfl ?_
  refine ab_callS (as := [ab_I (nI x)]) X (fun h => by cases h) (t_MO_b u x) ls_MO_204 d_MO_writeMore_112 rfl rfl ⟨by first | exact Nat.le_of_ble_eq_true rfl | (simp only [ab_rm]; omega), by first | exact Nat.le_of_ble_eq_true rfl | (simp only [ab_rm]; omega)⟩ ⟨by first | exact Nat.le_of_ble_eq_true rfl | (simp only [ab_rm]; omega), by first | exact Nat.le_of_ble_eq_true rfl | (simp only [ab_rm]; omega)⟩ (Nat.le_of_ble_eq_true rfl) (fun u112 r112 h112 => ?_)
  obtain ⟨e112, rfl⟩ := h112
  subst u112
  refine ab_iload X 4 d_MO_writeMore_115 rfl ?_
  refine ab_callS (as := [ab_I (nI y)]) X (fun h => by cases h) (t_MO_b u y) ls_MO_204 d_MO_writeMore_117 rfl rfl ⟨by first | exact Nat.le_of_ble_eq_true rfl | (simp only [ab_rm]; omega), by first | exact Nat.le_of_ble_eq_true rfl | (simp only [ab_rm]; omega)⟩ ⟨by first | exact Nat.le_of_ble_eq_true rfl | (simp only [ab_rm]; omega), by first | exact Nat.le_of_ble_eq_true rfl | (simp only [ab_rm]; omega)⟩ (Nat.le_of_ble_eq_true rfl) (fun u117 r117 h117 => ?_)
  obtain ⟨e117, rfl⟩ := h117
  subst u117
  refine ab_callV (as := [ab_I (nI (3 * x)), ab_I (nI (3 * y))]) X (fun h => by cases h) (x_MO_sayIf u0 u _ _ h (by omega) (3 * x) (3 * y) (Wq x 0) (Wq y 0) (by omega) (by omega) gx.1 (by omega) (by omega) gy.1 (by show 0 + _ + _ + 3 ≤ 100; omega)) lk_MO_251 d_MO_writeMore_120 rfl rfl (by first | assumption | decide | (show _ < 124; omega) | (show _ < 61; omega) | (show _ < 20; omega)) ⟨by first | exact Nat.le_of_ble_eq_true rfl | (simp only [ab_rm]; omega), by first | exact Nat.le_of_ble_eq_true rfl | (simp only [ab_rm]; omega)⟩ ⟨by first | exact Nat.le_of_ble_eq_true rfl | (simp only [ab_rm]; omega), by first | exact Nat.le_of_ble_eq_true rfl | (simp only [ab_rm]; omega)⟩ (Nat.le_of_ble_eq_true rfl) (fun u120 r120 h120 => ?_)
  obtain ⟨q120, rfl⟩ := h120
  have P120 := q120.1
  refine ab_iconst (v := 0) X d_MO_writeMore_123 (by decide) ?_
  refine ab_istore5 X 0 1 2 3 4 d_MO_writeMore_124 (by decide) rfl rfl rfl rfl rfl rfl rfl rfl rfl rfl ?_
  refine ab_iload X 0 d_MO_writeMore_126 rfl ?_
  refine ab_aload_n X 1 d_MO_writeMore_128 rfl rfl ?_
  refine ab_gR X fl_MO_39 d_MO_writeMore_129 (by first | assumption | decide | (show _ < 124; omega) | (show _ < 61; omega) | (show _ < 20; omega)) (P120.1.mo9) ?_
  refine ab_iload_n X 2 d_MO_writeMore_132 rfl rfl ?_
  refine ab_iald X (p1) ⟨rfl, rfl⟩ d_MO_writeMore_133 (by first | assumption | decide | (show _ < 124; omega) | (show _ < 61; omega) | (show _ < 20; omega)) (rfl) (show p1 < 40 by omega) (ab_ln_lt _ _) ?_
  refine ab_icmp_ge X 197 d_MO_writeMore_134 rfl (fun h134 => ?_) (fun h134 => ?_)
  ·
    refine ab_iload_n X 3 d_MO_writeMore_197 rfl rfl ?_
    refine ab_bipush (v := 22) X d_MO_writeMore_198 (by decide) ?_
    refine ab_icmp_ne X 234 d_MO_writeMore_200 rfl (fun _ => ?_) (fun hb => absurd hb ((by decide)))
    refine ab_iload_n X 3 d_MO_writeMore_234 rfl rfl ?_
    refine ab_bipush (v := 23) X d_MO_writeMore_235 (by decide) ?_
    refine ab_icmp_ne X 253 d_MO_writeMore_237 rfl (fun _ => ?_) (fun hb => absurd hb ((by decide)))
    refine ab_iload_n X 3 d_MO_writeMore_253 rfl rfl ?_
    refine ab_bipush (v := 24) X d_MO_writeMore_254 (by decide) ?_
    refine ab_icmp_ne X 273 d_MO_writeMore_256 rfl (fun _ => ?_) (fun hb => absurd hb ((by decide)))
    exact ab_retv X hr0 hlk d_MO_writeMore_273 ⟨q120.cast (by simp [List.append_assoc]), rfl⟩
  ·
    refine ab_iload_n X 3 d_MO_writeMore_137 rfl rfl ?_
    refine ab_bipush (v := 18) X d_MO_writeMore_138 (by decide) ?_
    refine ab_icmp_ne X 197 d_MO_writeMore_140 rfl (fun _ => ?_) (fun hb => absurd hb ((by decide)))
    refine ab_iload_n X 3 d_MO_writeMore_197 rfl rfl ?_
    refine ab_bipush (v := 22) X d_MO_writeMore_198 (by decide) ?_
    refine ab_icmp_ne X 234 d_MO_writeMore_200 rfl (fun _ => ?_) (fun hb => absurd hb ((by decide)))
    refine ab_iload_n X 3 d_MO_writeMore_234 rfl rfl ?_
    refine ab_bipush (v := 23) X d_MO_writeMore_235 (by decide) ?_
    refine ab_icmp_ne X 253 d_MO_writeMore_237 rfl (fun _ => ?_) (fun hb => absurd hb ((by decide)))
    refine ab_iload_n X 3 d_MO_writeMore_253 rfl rfl ?_
    refine ab_bipush (v := 24) X d_MO_writeMore_254 (by decide) ?_
    refine ab_icmp_ne X 273 d_MO_writeMore_256 rfl (fun _ => ?_) (fun hb => absurd hb ((by decide)))
    exact ab_retv X hr0 hlk d_MO_writeMore_273 ⟨q120.cast (by simp [List.append_assoc]), rfl⟩
set_option maxRecDepth 100000 in
set_option maxHeartbeats 1000000 in
theorem x_MO_writeMore21 (u0 u : ab_S) (p1 j x y : Nat) (Wq : Nat → Nat → List Nat) (hp : p1 < 19) (hj : j < 3) (hx : p1 < x) (hx2 : x < 19) (hy : p1 < y) (hy2 : y < 19) (gx : rg u0 (3 * x) (Wq x 0) ∧ rg u0 (3 * x + 1) (Wq x 1) ∧ rg u0 (3 * x + 2) (Wq x 2)) (gy : rg u0 (3 * y) (Wq y 0) ∧ rg u0 (3 * y + 1) (Wq y 1) ∧ rg u0 (3 * y + 2) (Wq y 2)) (hK : (Wq x 2).length + (Wq y 2).length ≤ 100) (h : ww u0 u (100 * (3 * p1 + j)) []) : ab_C false l D ca y_MO_writeMore b_MO_writeMore 6 none 2 ab_nQ u [ab_O 17 0, ab_I (nI p1), ab_I (nI 21), ab_I (nI x), ab_I (nI y)] (fun u' v => ww u0 u' (100 * (3 * p1 + j)) ((Wq x 2) ++ (Wq y 2)) ∧ v = none) := by
  refine ab_C.of (by decide) (Nat.le_of_ble_eq_true rfl) ?_
  intro p e s m args below meth c ad X hZ hr0 hlk
  have P0 : gP [16, 109] u0 u := h.1
  refine ab_iload_n X 2 d_MO_writeMore_0 rfl rfl ?_
  refine ab_bipush (v := 13) X d_MO_writeMore_1 (by decide) ?_
  refine ab_icmp_eq X 12 d_MO_writeMore_3 rfl (fun hb => absurd hb ((by decide))) (fun _ => ?_)
  refine ab_iload_n X 2 d_MO_writeMore_6 rfl rfl ?_
  refine ab_bipush (v := 21) X d_MO_writeMore_7 (by decide) ?_
  refine ab_icmp_ne X 43 d_MO_writeMore_9 rfl (fun hb => absurd ((by decide)) hb) (fun _ => ?_)
  refine ab_aload_n X 0 d_MO_writeMore_12 rfl rfl ?_
  refine ab_iload_n X 3 d_MO_writeMore_13 rfl rfl ?_
  refine ab_callS (as := [ab_I (nI x)]) X (fun h => by cases h) (t_MO_v u x) ls_MO_201 d_MO_writeMore_14 rfl rfl ⟨by first | exact Nat.le_of_ble_eq_true rfl | (simp only [ab_rm]; omega), by first | exact Nat.le_of_ble_eq_true rfl | (simp only [ab_rm]; omega)⟩ ⟨by first | exact Nat.le_of_ble_eq_true rfl | (simp only [ab_rm]; omega), by first | exact Nat.le_of_ble_eq_true rfl | (simp only [ab_rm]; omega)⟩ (Nat.le_of_ble_eq_true rfl) (fun u14 r14 h14 => ?_)
  obtain ⟨e14, rfl⟩ := h14
  subst u14
  refine ab_callV (as := [ab_I (nI (3 * x + 2))]) X (fun h => by cases h) (x_MO_sayForm u0 u _ _ h (by omega) (3 * x + 2) (Wq x 2) (by omega) (by omega) gx.2.2 (by simp only [List.length_append, List.length_cons, List.length_nil]; omega)) lk_MO_239 d_MO_writeMore_17 rfl rfl (by first | assumption | decide | (show _ < 124; omega) | (show _ < 61; omega) | (show _ < 20; omega)) ⟨by first | exact Nat.le_of_ble_eq_true rfl | (simp only [ab_rm]; omega), by first | exact Nat.le_of_ble_eq_true rfl | (simp only [ab_rm]; omega)⟩ ⟨by first | exact Nat.le_of_ble_eq_true rfl | (simp only [ab_rm]; omega), by first | exact Nat.le_of_ble_eq_true rfl | (simp only [ab_rm]; omega)⟩ (Nat.le_of_ble_eq_true rfl) (fun u17 r17 h17 => ?_)
  obtain ⟨q17, rfl⟩ := h17
  have P17 := q17.1
  refine ab_aload_n X 0 d_MO_writeMore_20 rfl rfl ?_
  refine ab_iload_n X 2 d_MO_writeMore_21 rfl rfl ?_
  refine ab_bipush (v := 13) X d_MO_writeMore_22 (by decide) ?_
  refine ab_icmp_ne X 35 d_MO_writeMore_24 rfl (fun _ => ?_) (fun hb => absurd hb ((by decide)))
  refine ab_iload X 4 d_MO_writeMore_35 rfl ?_
  refine ab_callS (as := [ab_I (nI y)]) X (fun h => by cases h) (t_MO_v u17 y) ls_MO_201 d_MO_writeMore_37 rfl rfl ⟨by first | exact Nat.le_of_ble_eq_true rfl | (simp only [ab_rm]; omega), by first | exact Nat.le_of_ble_eq_true rfl | (simp only [ab_rm]; omega)⟩ ⟨by first | exact Nat.le_of_ble_eq_true rfl | (simp only [ab_rm]; omega), by first | exact Nat.le_of_ble_eq_true rfl | (simp only [ab_rm]; omega)⟩ (Nat.le_of_ble_eq_true rfl) (fun u37 r37 h37 => ?_)
  obtain ⟨e37, rfl⟩ := h37
  subst u37
  refine ab_callV (as := [ab_I (nI (3 * y + 2))]) X (fun h => by cases h) (x_MO_sayForm u0 u17 _ _ q17 (by omega) (3 * y + 2) (Wq y 2) (by omega) (by omega) gy.2.2 (by simp only [List.length_append, List.length_cons, List.length_nil]; omega)) lk_MO_239 d_MO_writeMore_40 rfl rfl (by first | assumption | decide | (show _ < 124; omega) | (show _ < 61; omega) | (show _ < 20; omega)) ⟨by first | exact Nat.le_of_ble_eq_true rfl | (simp only [ab_rm]; omega), by first | exact Nat.le_of_ble_eq_true rfl | (simp only [ab_rm]; omega)⟩ ⟨by first | exact Nat.le_of_ble_eq_true rfl | (simp only [ab_rm]; omega), by first | exact Nat.le_of_ble_eq_true rfl | (simp only [ab_rm]; omega)⟩ (Nat.le_of_ble_eq_true rfl) (fun u40 r40 h40 => ?_)
  obtain ⟨q40, rfl⟩ := h40
  have P40 := q40.1
  refine ab_iload_n X 2 d_MO_writeMore_43 rfl rfl ?_
  refine ab_bipush (v := 14) X d_MO_writeMore_44 (by decide) ?_
  refine ab_icmp_ne X 66 d_MO_writeMore_46 rfl (fun _ => ?_) (fun hb => absurd hb ((by decide)))
  refine ab_iload_n X 2 d_MO_writeMore_66 rfl rfl ?_
  refine ab_bipush (v := 15) X d_MO_writeMore_67 (by decide) ?_
  refine ab_icmp_ne X 85 d_MO_writeMore_69 rfl (fun _ => ?_) (fun hb => absurd hb ((by decide)))
  refine ab_iload_n X 2 d_MO_writeMore_85 rfl rfl ?_
  refine ab_bipush (v := 16) X d_MO_writeMore_86 (by decide) ?_
  refine ab_icmp_ne X 104 d_MO_writeMore_88 rfl (fun _ => ?_) (fun hb => absurd hb ((by decide)))
  refine ab_iload_n X 2 d_MO_writeMore_104 rfl rfl ?_
  refine ab_bipush (v := 17) X d_MO_writeMore_105 (by decide) ?_
  refine ab_icmp_ne X 123 d_MO_writeMore_107 rfl (fun _ => ?_) (fun hb => absurd hb ((by decide)))
  refine ab_iconst (v := 0) X d_MO_writeMore_123 (by decide) ?_
  refine ab_istore5 X 0 1 2 3 4 d_MO_writeMore_124 (by decide) rfl rfl rfl rfl rfl rfl rfl rfl rfl rfl ?_
  refine ab_iload X 0 d_MO_writeMore_126 rfl ?_
  refine ab_aload_n X 1 d_MO_writeMore_128 rfl rfl ?_
  refine ab_gR X fl_MO_39 d_MO_writeMore_129 (by first | assumption | decide | (show _ < 124; omega) | (show _ < 61; omega) | (show _ < 20; omega)) (P40.1.mo9) ?_
  refine ab_iload_n X 2 d_MO_writeMore_132 rfl rfl ?_
  refine ab_iald X (p1) ⟨rfl, rfl⟩ d_MO_writeMore_133 (by first | assumption | decide | (show _ < 124; omega) | (show _ < 61; omega) | (show _ < 20; omega)) (rfl) (show p1 < 40 by omega) (ab_ln_lt _ _) ?_
  refine ab_icmp_ge X 197 d_MO_writeMore_134 rfl (fun h134 => ?_) (fun h134 => ?_)
  ·
    refine ab_iload_n X 3 d_MO_writeMore_197 rfl rfl ?_
    refine ab_bipush (v := 22) X d_MO_writeMore_198 (by decide) ?_
    refine ab_icmp_ne X 234 d_MO_writeMore_200 rfl (fun _ => ?_) (fun hb => absurd hb ((by decide)))
    refine ab_iload_n X 3 d_MO_writeMore_234 rfl rfl ?_
    refine ab_bipush (v := 23) X d_MO_writeMore_235 (by decide) ?_
    refine ab_icmp_ne X 253 d_MO_writeMore_237 rfl (fun _ => ?_) (fun hb => absurd hb ((by decide)))
    refine ab_iload_n X 3 d_MO_writeMore_253 rfl rfl ?_
    refine ab_bipush (v := 24) X d_MO_writeMore_254 (by decide) ?_
    refine ab_icmp_ne X 273 d_MO_writeMore_256 rfl (fun _ => ?_) (fun hb => absurd hb ((by decide)))
    exact ab_retv X hr0 hlk d_MO_writeMore_273 ⟨q40.cast (by simp [List.append_assoc]), rfl⟩
  ·
    refine ab_iload_n X 3 d_MO_writeMore_137 rfl rfl ?_
    refine ab_bipush (v := 18) X d_MO_writeMore_138 (by decide) ?_
    refine ab_icmp_ne X 197 d_MO_writeMore_140 rfl (fun _ => ?_) (fun hb => absurd hb ((by decide)))
    refine ab_iload_n X 3 d_MO_writeMore_197 rfl rfl ?_
    refine ab_bipush (v := 22) X d_MO_writeMore_198 (by decide) ?_
    refine ab_icmp_ne X 234 d_MO_writeMore_200 rfl (fun _ => ?_) (fun hb => absurd hb ((by decide)))
    refine ab_iload_n X 3 d_MO_writeMore_234 rfl rfl ?_
    refine ab_bipush (v := 23) X d_MO_writeMore_235 (by decide) ?_
    refine ab_icmp_ne X 253 d_MO_writeMore_237 rfl (fun _ => ?_) (fun hb => absurd hb ((by decide)))
    refine ab_iload_n X 3 d_MO_writeMore_253 rfl rfl ?_
    refine ab_bipush (v := 24) X d_MO_writeMore_254 (by decide) ?_
    refine ab_icmp_ne X 273 d_MO_writeMore_256 rfl (fun _ => ?_) (fun hb => absurd hb ((by decide)))
    exact ab_retv X hr0 hlk d_MO_writeMore_273 ⟨q40.cast (by simp [List.append_assoc]), rfl⟩
set_option maxRecDepth 100000 in
set_option maxHeartbeats 1000000 in
theorem x_MO_writeMore22 (u0 u : ab_S) (p1 j x y : Nat) (Wq : Nat → Nat → List Nat) (hp : p1 < 19) (hj : j < 3) (hx : p1 < x) (hx2 : x < 19) (hy : p1 < y) (hy2 : y < 19) (gx : rg u0 (3 * x) (Wq x 0) ∧ rg u0 (3 * x + 1) (Wq x 1) ∧ rg u0 (3 * x + 2) (Wq x 2)) (gy : rg u0 (3 * y) (Wq y 0) ∧ rg u0 (3 * y + 1) (Wq y 1) ∧ rg u0 (3 * y + 2) (Wq y 2)) (hK : (Wq x 1).length + (Wq y 2).length + 2 ≤ 100) (h : ww u0 u (100 * (3 * p1 + j)) []) : ab_C false l D ca y_MO_writeMore b_MO_writeMore 6 none 2 ab_nQ u [ab_O 17 0, ab_I (nI p1), ab_I (nI 22), ab_I (nI x), ab_I (nI y)] (fun u' v => ww u0 u' (100 * (3 * p1 + j)) ((Wq x 1) ++ [15000] ++ (Wq y 2) ++ [14000]) ∧ v = none) := by
  refine ab_C.of (by decide) (Nat.le_of_ble_eq_true rfl) ?_
  intro p e s m args below meth c ad X hZ hr0 hlk
  have P0 : gP [16, 109] u0 u := h.1
  refine ab_iload_n X 2 d_MO_writeMore_0 rfl rfl ?_
  refine ab_bipush (v := 13) X d_MO_writeMore_1 (by decide) ?_
  refine ab_icmp_eq X 12 d_MO_writeMore_3 rfl (fun hb => absurd hb ((by decide))) (fun _ => ?_)
  refine ab_iload_n X 2 d_MO_writeMore_6 rfl rfl ?_
  refine ab_bipush (v := 21) X d_MO_writeMore_7 (by decide) ?_
  refine ab_icmp_ne X 43 d_MO_writeMore_9 rfl (fun _ => ?_) (fun hb => absurd hb ((by decide)))
  refine ab_iload_n X 2 d_MO_writeMore_43 rfl rfl ?_
  refine ab_bipush (v := 14) X d_MO_writeMore_44 (by decide) ?_
  refine ab_icmp_ne X 66 d_MO_writeMore_46 rfl (fun _ => ?_) (fun hb => absurd hb ((by decide)))
  refine ab_iload_n X 2 d_MO_writeMore_66 rfl rfl ?_
  refine ab_bipush (v := 15) X d_MO_writeMore_67 (by decide) ?_
  refine ab_icmp_ne X 85 d_MO_writeMore_69 rfl (fun _ => ?_) (fun hb => absurd hb ((by decide)))
  refine ab_iload_n X 2 d_MO_writeMore_85 rfl rfl ?_
  refine ab_bipush (v := 16) X d_MO_writeMore_86 (by decide) ?_
  refine ab_icmp_ne X 104 d_MO_writeMore_88 rfl (fun _ => ?_) (fun hb => absurd hb ((by decide)))
  refine ab_iload_n X 2 d_MO_writeMore_104 rfl rfl ?_
  refine ab_bipush (v := 17) X d_MO_writeMore_105 (by decide) ?_
  refine ab_icmp_ne X 123 d_MO_writeMore_107 rfl (fun _ => ?_) (fun hb => absurd hb ((by decide)))
  refine ab_iconst (v := 0) X d_MO_writeMore_123 (by decide) ?_
  refine ab_istore5 X 0 1 2 3 4 d_MO_writeMore_124 (by decide) rfl rfl rfl rfl rfl rfl rfl rfl rfl rfl ?_
  refine ab_iload X 0 d_MO_writeMore_126 rfl ?_
  refine ab_aload_n X 1 d_MO_writeMore_128 rfl rfl ?_
  refine ab_gR X fl_MO_39 d_MO_writeMore_129 (by first | assumption | decide | (show _ < 124; omega) | (show _ < 61; omega) | (show _ < 20; omega)) (P0.1.mo9) ?_
  refine ab_iload_n X 2 d_MO_writeMore_132 rfl rfl ?_
  refine ab_iald X (p1) ⟨rfl, rfl⟩ d_MO_writeMore_133 (by first | assumption | decide | (show _ < 124; omega) | (show _ < 61; omega) | (show _ < 20; omega)) (rfl) (show p1 < 40 by omega) (ab_ln_lt _ _) ?_
  refine ab_icmp_ge X 197 d_MO_writeMore_134 rfl (fun h134 => ?_) (fun h134 => ?_)
  ·
    refine ab_iload_n X 3 d_MO_writeMore_197 rfl rfl ?_
    refine ab_bipush (v := 22) X d_MO_writeMore_198 (by decide) ?_
    refine ab_icmp_ne X 234 d_MO_writeMore_200 rfl (fun hb => absurd ((by decide)) hb) (fun _ => ?_)
    refine ab_aload_n X 1 d_MO_writeMore_203 rfl rfl ?_
    refine ab_iload_n X 4 d_MO_writeMore_204 rfl rfl ?_
    refine ab_callS (as := [ab_I (nI x)]) X (fun h => by cases h) (t_MO_d u x) ls_MO_195 d_MO_writeMore_205 rfl rfl ⟨by first | exact Nat.le_of_ble_eq_true rfl | (simp only [ab_rm]; omega), by first | exact Nat.le_of_ble_eq_true rfl | (simp only [ab_rm]; omega)⟩ ⟨by first | exact Nat.le_of_ble_eq_true rfl | (simp only [ab_rm]; omega), by first | exact Nat.le_of_ble_eq_true rfl | (simp only [ab_rm]; omega)⟩ (Nat.le_of_ble_eq_true rfl) (fun u205 r205 h205 => ?_)
    obtain ⟨e205, rfl⟩ := h205
    subst u205
    refine ab_callV (as := [ab_I (nI (3 * x + 1))]) X (fun h => by cases h) (x_MO_sayForm u0 u _ _ h (by omega) (3 * x + 1) (Wq x 1) (by omega) (by omega) gx.2.1 (by simp only [List.length_append, List.length_cons, List.length_nil]; omega)) lk_MO_239 d_MO_writeMore_208 rfl rfl (by first | assumption | decide | (show _ < 124; omega) | (show _ < 61; omega) | (show _ < 20; omega)) ⟨by first | exact Nat.le_of_ble_eq_true rfl | (simp only [ab_rm]; omega), by first | exact Nat.le_of_ble_eq_true rfl | (simp only [ab_rm]; omega)⟩ ⟨by first | exact Nat.le_of_ble_eq_true rfl | (simp only [ab_rm]; omega), by first | exact Nat.le_of_ble_eq_true rfl | (simp only [ab_rm]; omega)⟩ (Nat.le_of_ble_eq_true rfl) (fun u208 r208 h208 => ?_)
    obtain ⟨q208, rfl⟩ := h208
    have P208 := q208.1
    refine ab_aload_n X 1 d_MO_writeMore_211 rfl rfl ?_
    refine ab_bipush (v := 15) X d_MO_writeMore_212 (by decide) ?_
    refine ab_iconst (v := 0) X d_MO_writeMore_214 (by decide) ?_
    refine ab_callV (as := [ab_I (nI 15), ab_I (nI 0)]) X (fun h => by cases h) (x_MO_say u0 u208 _ _ q208 (by simp only [List.length_append, List.length_cons, List.length_nil]; omega) (by omega) 15 0) lk_MO_242 d_MO_writeMore_215 rfl rfl (by first | assumption | decide | (show _ < 124; omega) | (show _ < 61; omega) | (show _ < 20; omega)) ⟨by first | exact Nat.le_of_ble_eq_true rfl | (simp only [ab_rm]; omega), by first | exact Nat.le_of_ble_eq_true rfl | (simp only [ab_rm]; omega)⟩ ⟨by first | exact Nat.le_of_ble_eq_true rfl | (simp only [ab_rm]; omega), by first | exact Nat.le_of_ble_eq_true rfl | (simp only [ab_rm]; omega)⟩ (Nat.le_of_ble_eq_true rfl) (fun u215 r215 h215 => ?_)
    obtain ⟨q215, rfl⟩ := h215
    have P215 := q215.1
    refine ab_aload_n X 1 d_MO_writeMore_218 rfl rfl ?_
    refine ab_iload X 5 d_MO_writeMore_219 rfl ?_
    refine ab_callS (as := [ab_I (nI y)]) X (fun h => by cases h) (t_MO_v u215 y) ls_MO_201 d_MO_writeMore_221 rfl rfl ⟨by first | exact Nat.le_of_ble_eq_true rfl | (simp only [ab_rm]; omega), by first | exact Nat.le_of_ble_eq_true rfl | (simp only [ab_rm]; omega)⟩ ⟨by first | exact Nat.le_of_ble_eq_true rfl | (simp only [ab_rm]; omega), by first | exact Nat.le_of_ble_eq_true rfl | (simp only [ab_rm]; omega)⟩ (Nat.le_of_ble_eq_true rfl) (fun u221 r221 h221 => ?_)
    obtain ⟨e221, rfl⟩ := h221
    subst u221
    refine ab_callV (as := [ab_I (nI (3 * y + 2))]) X (fun h => by cases h) (x_MO_sayForm u0 u215 _ _ q215 (by omega) (3 * y + 2) (Wq y 2) (by omega) (by omega) gy.2.2 (by simp only [List.length_append, List.length_cons, List.length_nil]; omega)) lk_MO_239 d_MO_writeMore_224 rfl rfl (by first | assumption | decide | (show _ < 124; omega) | (show _ < 61; omega) | (show _ < 20; omega)) ⟨by first | exact Nat.le_of_ble_eq_true rfl | (simp only [ab_rm]; omega), by first | exact Nat.le_of_ble_eq_true rfl | (simp only [ab_rm]; omega)⟩ ⟨by first | exact Nat.le_of_ble_eq_true rfl | (simp only [ab_rm]; omega), by first | exact Nat.le_of_ble_eq_true rfl | (simp only [ab_rm]; omega)⟩ (Nat.le_of_ble_eq_true rfl) (fun u224 r224 h224 => ?_)
    obtain ⟨q224, rfl⟩ := h224
    have P224 := q224.1
    refine ab_aload_n X 1 d_MO_writeMore_227 rfl rfl ?_
    refine ab_bipush (v := 14) X d_MO_writeMore_228 (by decide) ?_
    refine ab_iconst (v := 0) X d_MO_writeMore_230 (by decide) ?_
    refine ab_callV (as := [ab_I (nI 14), ab_I (nI 0)]) X (fun h => by cases h) (x_MO_say u0 u224 _ _ q224 (by simp only [List.length_append, List.length_cons, List.length_nil]; omega) (by omega) 14 0) lk_MO_242 d_MO_writeMore_231 rfl rfl (by first | assumption | decide | (show _ < 124; omega) | (show _ < 61; omega) | (show _ < 20; omega)) ⟨by first | exact Nat.le_of_ble_eq_true rfl | (simp only [ab_rm]; omega), by first | exact Nat.le_of_ble_eq_true rfl | (simp only [ab_rm]; omega)⟩ ⟨by first | exact Nat.le_of_ble_eq_true rfl | (simp only [ab_rm]; omega), by first | exact Nat.le_of_ble_eq_true rfl | (simp only [ab_rm]; omega)⟩ (Nat.le_of_ble_eq_true rfl) (fun u231 r231 h231 => ?_)
    obtain ⟨q231, rfl⟩ := h231
    have P231 := q231.1
    refine ab_iload_n X 3 d_MO_writeMore_234 rfl rfl ?_
    refine ab_bipush (v := 23) X d_MO_writeMore_235 (by decide) ?_
    refine ab_icmp_ne X 253 d_MO_writeMore_237 rfl (fun _ => ?_) (fun hb => absurd hb ((by decide)))
    refine ab_iload_n X 3 d_MO_writeMore_253 rfl rfl ?_
    refine ab_bipush (v := 24) X d_MO_writeMore_254 (by decide) ?_
    refine ab_icmp_ne X 273 d_MO_writeMore_256 rfl (fun _ => ?_) (fun hb => absurd hb ((by decide)))
    exact ab_retv X hr0 hlk d_MO_writeMore_273 ⟨q231.cast (by simp [List.append_assoc]), rfl⟩
  ·
    refine ab_iload_n X 3 d_MO_writeMore_137 rfl rfl ?_
    refine ab_bipush (v := 18) X d_MO_writeMore_138 (by decide) ?_
    refine ab_icmp_ne X 197 d_MO_writeMore_140 rfl (fun _ => ?_) (fun hb => absurd hb ((by decide)))
    refine ab_iload_n X 3 d_MO_writeMore_197 rfl rfl ?_
    refine ab_bipush (v := 22) X d_MO_writeMore_198 (by decide) ?_
    refine ab_icmp_ne X 234 d_MO_writeMore_200 rfl (fun hb => absurd ((by decide)) hb) (fun _ => ?_)
    refine ab_aload_n X 1 d_MO_writeMore_203 rfl rfl ?_
    refine ab_iload_n X 4 d_MO_writeMore_204 rfl rfl ?_
    refine ab_callS (as := [ab_I (nI x)]) X (fun h => by cases h) (t_MO_d u x) ls_MO_195 d_MO_writeMore_205 rfl rfl ⟨by first | exact Nat.le_of_ble_eq_true rfl | (simp only [ab_rm]; omega), by first | exact Nat.le_of_ble_eq_true rfl | (simp only [ab_rm]; omega)⟩ ⟨by first | exact Nat.le_of_ble_eq_true rfl | (simp only [ab_rm]; omega), by first | exact Nat.le_of_ble_eq_true rfl | (simp only [ab_rm]; omega)⟩ (Nat.le_of_ble_eq_true rfl) (fun u205 r205 h205 => ?_)
    obtain ⟨e205, rfl⟩ := h205
    subst u205
    refine ab_callV (as := [ab_I (nI (3 * x + 1))]) X (fun h => by cases h) (x_MO_sayForm u0 u _ _ h (by omega) (3 * x + 1) (Wq x 1) (by omega) (by omega) gx.2.1 (by simp only [List.length_append, List.length_cons, List.length_nil]; omega)) lk_MO_239 d_MO_writeMore_208 rfl rfl (by first | assumption | decide | (show _ < 124; omega) | (show _ < 61; omega) | (show _ < 20; omega)) ⟨by first | exact Nat.le_of_ble_eq_true rfl | (simp only [ab_rm]; omega), by first | exact Nat.le_of_ble_eq_true rfl | (simp only [ab_rm]; omega)⟩ ⟨by first | exact Nat.le_of_ble_eq_true rfl | (simp only [ab_rm]; omega), by first | exact Nat.le_of_ble_eq_true rfl | (simp only [ab_rm]; omega)⟩ (Nat.le_of_ble_eq_true rfl) (fun u208 r208 h208 => ?_)
    obtain ⟨q208, rfl⟩ := h208
    have P208 := q208.1
    refine ab_aload_n X 1 d_MO_writeMore_211 rfl rfl ?_
    refine ab_bipush (v := 15) X d_MO_writeMore_212 (by decide) ?_
    refine ab_iconst (v := 0) X d_MO_writeMore_214 (by decide) ?_
    refine ab_callV (as := [ab_I (nI 15), ab_I (nI 0)]) X (fun h => by cases h) (x_MO_say u0 u208 _ _ q208 (by simp only [List.length_append, List.length_cons, List.length_nil]; omega) (by omega) 15 0) lk_MO_242 d_MO_writeMore_215 rfl rfl (by first | assumption | decide | (show _ < 124; omega) | (show _ < 61; omega) | (show _ < 20; omega)) ⟨by first | exact Nat.le_of_ble_eq_true rfl | (simp only [ab_rm]; omega), by first | exact Nat.le_of_ble_eq_true rfl | (simp only [ab_rm]; omega)⟩ ⟨by first | exact Nat.le_of_ble_eq_true rfl | (simp only [ab_rm]; omega), by first | exact Nat.le_of_ble_eq_true rfl | (simp only [ab_rm]; omega)⟩ (Nat.le_of_ble_eq_true rfl) (fun u215 r215 h215 => ?_)
    obtain ⟨q215, rfl⟩ := h215
    have P215 := q215.1
    refine ab_aload_n X 1 d_MO_writeMore_218 rfl rfl ?_
    refine ab_iload X 5 d_MO_writeMore_219 rfl ?_
    refine ab_callS (as := [ab_I (nI y)]) X (fun h => by cases h) (t_MO_v u215 y) ls_MO_201 d_MO_writeMore_221 rfl rfl ⟨by first | exact Nat.le_of_ble_eq_true rfl | (simp only [ab_rm]; omega), by first | exact Nat.le_of_ble_eq_true rfl | (simp only [ab_rm]; omega)⟩ ⟨by first | exact Nat.le_of_ble_eq_true rfl | (simp only [ab_rm]; omega), by first | exact Nat.le_of_ble_eq_true rfl | (simp only [ab_rm]; omega)⟩ (Nat.le_of_ble_eq_true rfl) (fun u221 r221 h221 => ?_)
    obtain ⟨e221, rfl⟩ := h221
    subst u221
    refine ab_callV (as := [ab_I (nI (3 * y + 2))]) X (fun h => by cases h) (x_MO_sayForm u0 u215 _ _ q215 (by omega) (3 * y + 2) (Wq y 2) (by omega) (by omega) gy.2.2 (by simp only [List.length_append, List.length_cons, List.length_nil]; omega)) lk_MO_239 d_MO_writeMore_224 rfl rfl (by first | assumption | decide | (show _ < 124; omega) | (show _ < 61; omega) | (show _ < 20; omega)) ⟨by first | exact Nat.le_of_ble_eq_true rfl | (simp only [ab_rm]; omega), by first | exact Nat.le_of_ble_eq_true rfl | (simp only [ab_rm]; omega)⟩ ⟨by first | exact Nat.le_of_ble_eq_true rfl | (simp only [ab_rm]; omega), by first | exact Nat.le_of_ble_eq_true rfl | (simp only [ab_rm]; omega)⟩ (Nat.le_of_ble_eq_true rfl) (fun u224 r224 h224 => ?_)
    obtain ⟨q224, rfl⟩ := h224
    have P224 := q224.1
    refine ab_aload_n X 1 d_MO_writeMore_227 rfl rfl ?_
    refine ab_bipush (v := 14) X d_MO_writeMore_228 (by decide) ?_
    refine ab_iconst (v := 0) X d_MO_writeMore_230 (by decide) ?_
    refine ab_callV (as := [ab_I (nI 14), ab_I (nI 0)]) X (fun h => by cases h) (x_MO_say u0 u224 _ _ q224 (by simp only [List.length_append, List.length_cons, List.length_nil]; omega) (by omega) 14 0) lk_MO_242 d_MO_writeMore_231 rfl rfl (by first | assumption | decide | (show _ < 124; omega) | (show _ < 61; omega) | (show _ < 20; omega)) ⟨by first | exact Nat.le_of_ble_eq_true rfl | (simp only [ab_rm]; omega), by first | exact Nat.le_of_ble_eq_true rfl | (simp only [ab_rm]; omega)⟩ ⟨by first | exact Nat.le_of_ble_eq_true rfl | (simp only [ab_rm]; omega), by first | exact Nat.le_of_ble_eq_true rfl | (simp only [ab_rm]; omega)⟩ (Nat.le_of_ble_eq_true rfl) (fun u231 r231 h231 => ?_)
    obtain ⟨q231, rfl⟩ := h231
    have P231 := q231.1
    refine ab_iload_n X 3 d_MO_writeMore_234 rfl rfl ?_
    refine ab_bipush (v := 23) X d_MO_writeMore_235 (by decide) ?_
    refine ab_icmp_ne X 253 d_MO_writeMore_237 rfl (fun _ => ?_) (fun hb => absurd hb ((by decide)))
    refine ab_iload_n X 3 d_MO_writeMore_253 rfl rfl ?_
    refine ab_bipush (v := 24) X d_MO_writeMore_254 (by decide) ?_
    refine ab_icmp_ne X 273 d_MO_writeMore_256 rfl (fun _ => ?_) (fun hb => absurd hb ((by decide)))
    exact ab_retv X hr0 hlk d_MO_writeMore_273 ⟨q231.cast (by simp [List.append_assoc]), rfl⟩
set_option maxRecDepth 100000 in
set_option maxHeartbeats 1000000 in
theorem x_MO_writeMore23 (u0 u : ab_S) (p1 j x y : Nat) (Wq : Nat → Nat → List Nat) (hp : p1 < 19) (hj : j < 3) (hx : p1 < x) (hx2 : x < 19) (hy : p1 < y) (hy2 : y < 19) (gx : rg u0 (3 * x) (Wq x 0) ∧ rg u0 (3 * x + 1) (Wq x 1) ∧ rg u0 (3 * x + 2) (Wq x 2)) (gy : rg u0 (3 * y) (Wq y 0) ∧ rg u0 (3 * y + 1) (Wq y 1) ∧ rg u0 (3 * y + 2) (Wq y 2)) (hK : (Wq x 2).length + (Wq y 2).length + 3 ≤ 100) (h : ww u0 u (100 * (3 * p1 + j)) []) : ab_C false l D ca y_MO_writeMore b_MO_writeMore 6 none 2 ab_nQ u [ab_O 17 0, ab_I (nI p1), ab_I (nI 23), ab_I (nI x), ab_I (nI y)] (fun u' v => ww u0 u' (100 * (3 * p1 + j)) ([12000] ++ (Wq x 2) ++ [13000] ++ (Wq y 2) ++ [14000]) ∧ v = none) := by
  refine ab_C.of (by decide) (Nat.le_of_ble_eq_true rfl) ?_
  intro p e s m args below meth c ad X hZ hr0 hlk
  have P0 : gP [16, 109] u0 u := h.1
  refine ab_iload_n X 2 d_MO_writeMore_0 rfl rfl ?_
  refine ab_bipush (v := 13) X d_MO_writeMore_1 (by decide) ?_
  refine ab_icmp_eq X 12 d_MO_writeMore_3 rfl (fun hb => absurd hb ((by decide))) (fun _ => ?_)
  refine ab_iload_n X 2 d_MO_writeMore_6 rfl rfl ?_
  refine ab_bipush (v := 21) X d_MO_writeMore_7 (by decide) ?_
  refine ab_icmp_ne X 43 d_MO_writeMore_9 rfl (fun _ => ?_) (fun hb => absurd hb ((by decide)))
  refine ab_iload_n X 2 d_MO_writeMore_43 rfl rfl ?_
  refine ab_bipush (v := 14) X d_MO_writeMore_44 (by decide) ?_
  refine ab_icmp_ne X 66 d_MO_writeMore_46 rfl (fun _ => ?_) (fun hb => absurd hb ((by decide)))
  refine ab_iload_n X 2 d_MO_writeMore_66 rfl rfl ?_
  refine ab_bipush (v := 15) X d_MO_writeMore_67 (by decide) ?_
  refine ab_icmp_ne X 85 d_MO_writeMore_69 rfl (fun _ => ?_) (fun hb => absurd hb ((by decide)))
  refine ab_iload_n X 2 d_MO_writeMore_85 rfl rfl ?_
  refine ab_bipush (v := 16) X d_MO_writeMore_86 (by decide) ?_
  refine ab_icmp_ne X 104 d_MO_writeMore_88 rfl (fun _ => ?_) (fun hb => absurd hb ((by decide)))
  refine ab_iload_n X 2 d_MO_writeMore_104 rfl rfl ?_
  refine ab_bipush (v := 17) X d_MO_writeMore_105 (by decide) ?_
  refine ab_icmp_ne X 123 d_MO_writeMore_107 rfl (fun _ => ?_) (fun hb => absurd hb ((by decide)))
  refine ab_iconst (v := 0) X d_MO_writeMore_123 (by decide) ?_
  refine ab_istore5 X 0 1 2 3 4 d_MO_writeMore_124 (by decide) rfl rfl rfl rfl rfl rfl rfl rfl rfl rfl ?_
  refine ab_iload X 0 d_MO_writeMore_126 rfl ?_
  refine ab_aload_n X 1 d_MO_writeMore_128 rfl rfl ?_
  refine ab_gR X fl_MO_39 d_MO_writeMore_129 (by first | assumption | decide | (show _ < 124; omega) | (show _ < 61; omega) | (show _ < 20; omega)) (P0.1.mo9) ?_
  refine ab_iload_n X 2 d_MO_writeMore_132 rfl rfl ?_
  refine ab_iald X (p1) ⟨rfl, rfl⟩ d_MO_writeMore_133 (by first | assumption | decide | (show _ < 124; omega) | (show _ < 61; omega) | (show _ < 20; omega)) (rfl) (show p1 < 40 by omega) (ab_ln_lt _ _) ?_
  refine ab_icmp_ge X 197 d_MO_writeMore_134 rfl (fun h134 => ?_) (fun h134 => ?_)
  ·
    refine ab_iload_n X 3 d_MO_writeMore_197 rfl rfl ?_
    refine ab_bipush (v := 22) X d_MO_writeMore_198 (by decide) ?_
    refine ab_icmp_ne X 234 d_MO_writeMore_200 rfl (fun _ => ?_) (fun hb => absurd hb ((by decide)))
    refine ab_iload_n X 3 d_MO_writeMore_234 rfl rfl ?_
    refine ab_bipush (v := 23) X d_MO_writeMore_235 (by decide) ?_
    refine ab_icmp_ne X 253 d_MO_writeMore_237 rfl (fun hb => absurd ((by decide)) hb) (fun _ => ?_)
    refine ab_aload_n X 1 d_MO_writeMore_240 rfl rfl ?_
    refine ab_iload_n X 4 d_MO_writeMore_241 rfl rfl ?_
    refine ab_callS (as := [ab_I (nI x)]) X (fun h => by cases h) (t_MO_v u x) ls_MO_201 d_MO_writeMore_242 rfl rfl ⟨by first | exact Nat.le_of_ble_eq_true rfl | (simp only [ab_rm]; omega), by first | exact Nat.le_of_ble_eq_true rfl | (simp only [ab_rm]; omega)⟩ ⟨by first | exact Nat.le_of_ble_eq_true rfl | (simp only [ab_rm]; omega), by first | exact Nat.le_of_ble_eq_true rfl | (simp only [ab_rm]; omega)⟩ (Nat.le_of_ble_eq_true rfl) (fun u242 r242 h242 => ?_)
    obtain ⟨e242, rfl⟩ := h242
    subst u242
    refine ab_iload X 5 d_MO_writeMore_245 rfl ?_
    refine ab_callS (as := [ab_I (nI y)]) X (fun h => by cases h) (t_MO_v u y) ls_MO_201 d_MO_writeMore_247 rfl rfl ⟨by first | exact Nat.le_of_ble_eq_true rfl | (simp only [ab_rm]; omega), by first | exact Nat.le_of_ble_eq_true rfl | (simp only [ab_rm]; omega)⟩ ⟨by first | exact Nat.le_of_ble_eq_true rfl | (simp only [ab_rm]; omega), by first | exact Nat.le_of_ble_eq_true rfl | (simp only [ab_rm]; omega)⟩ (Nat.le_of_ble_eq_true rfl) (fun u247 r247 h247 => ?_)
    obtain ⟨e247, rfl⟩ := h247
    subst u247
    refine ab_callV (as := [ab_I (nI (3 * x + 2)), ab_I (nI (3 * y + 2))]) X (fun h => by cases h) (x_MO_sayIf u0 u _ _ h (by omega) (3 * x + 2) (3 * y + 2) (Wq x 2) (Wq y 2) (by omega) (by omega) gx.2.2 (by omega) (by omega) gy.2.2 (by show 0 + _ + _ + 3 ≤ 100; omega)) lk_MO_251 d_MO_writeMore_250 rfl rfl (by first | assumption | decide | (show _ < 124; omega) | (show _ < 61; omega) | (show _ < 20; omega)) ⟨by first | exact Nat.le_of_ble_eq_true rfl | (simp only [ab_rm]; omega), by first | exact Nat.le_of_ble_eq_true rfl | (simp only [ab_rm]; omega)⟩ ⟨by first | exact Nat.le_of_ble_eq_true rfl | (simp only [ab_rm]; omega), by first | exact Nat.le_of_ble_eq_true rfl | (simp only [ab_rm]; omega)⟩ (Nat.le_of_ble_eq_true rfl) (fun u250 r250 h250 => ?_)
    obtain ⟨q250, rfl⟩ := h250
    have P250 := q250.1
    refine ab_iload_n X 3 d_MO_writeMore_253 rfl rfl ?_
    refine ab_bipush (v := 24) X d_MO_writeMore_254 (by decide) ?_
    refine ab_icmp_ne X 273 d_MO_writeMore_256 rfl (fun _ => ?_) (fun hb => absurd hb ((by decide)))
    exact ab_retv X hr0 hlk d_MO_writeMore_273 ⟨q250.cast (by simp [List.append_assoc]), rfl⟩
  ·
    refine ab_iload_n X 3 d_MO_writeMore_137 rfl rfl ?_
    refine ab_bipush (v := 18) X d_MO_writeMore_138 (by decide) ?_
    refine ab_icmp_ne X 197 d_MO_writeMore_140 rfl (fun _ => ?_) (fun hb => absurd hb ((by decide)))
    refine ab_iload_n X 3 d_MO_writeMore_197 rfl rfl ?_
    refine ab_bipush (v := 22) X d_MO_writeMore_198 (by decide) ?_
    refine ab_icmp_ne X 234 d_MO_writeMore_200 rfl (fun _ => ?_) (fun hb => absurd hb ((by decide)))
    refine ab_iload_n X 3 d_MO_writeMore_234 rfl rfl ?_
    refine ab_bipush (v := 23) X d_MO_writeMore_235 (by decide) ?_
    refine ab_icmp_ne X 253 d_MO_writeMore_237 rfl (fun hb => absurd ((by decide)) hb) (fun _ => ?_)
    refine ab_aload_n X 1 d_MO_writeMore_240 rfl rfl ?_
    refine ab_iload_n X 4 d_MO_writeMore_241 rfl rfl ?_
    refine ab_callS (as := [ab_I (nI x)]) X (fun h => by cases h) (t_MO_v u x) ls_MO_201 d_MO_writeMore_242 rfl rfl ⟨by first | exact Nat.le_of_ble_eq_true rfl | (simp only [ab_rm]; omega), by first | exact Nat.le_of_ble_eq_true rfl | (simp only [ab_rm]; omega)⟩ ⟨by first | exact Nat.le_of_ble_eq_true rfl | (simp only [ab_rm]; omega), by first | exact Nat.le_of_ble_eq_true rfl | (simp only [ab_rm]; omega)⟩ (Nat.le_of_ble_eq_true rfl) (fun u242 r242 h242 => ?_)
    obtain ⟨e242, rfl⟩ := h242
    subst u242
    refine ab_iload X 5 d_MO_writeMore_245 rfl ?_
    refine ab_callS (as := [ab_I (nI y)]) X (fun h => by cases h) (t_MO_v u y) ls_MO_201 d_MO_writeMore_247 rfl rfl ⟨by first | exact Nat.le_of_ble_eq_true rfl | (simp only [ab_rm]; omega), by first | exact Nat.le_of_ble_eq_true rfl | (simp only [ab_rm]; omega)⟩ ⟨by first | exact Nat.le_of_ble_eq_true rfl | (simp only [ab_rm]; omega), by first | exact Nat.le_of_ble_eq_true rfl | (simp only [ab_rm]; omega)⟩ (Nat.le_of_ble_eq_true rfl) (fun u247 r247 h247 => ?_)
    obtain ⟨e247, rfl⟩ := h247
    subst u247
    refine ab_callV (as := [ab_I (nI (3 * x + 2)), ab_I (nI (3 * y + 2))]) X (fun h => by cases h) (x_MO_sayIf u0 u _ _ h (by omega) (3 * x + 2) (3 * y + 2) (Wq x 2) (Wq y 2) (by omega) (by omega) gx.2.2 (by omega) (by omega) gy.2.2 (by show 0 + _ + _ + 3 ≤ 100; omega)) lk_MO_251 d_MO_writeMore_250 rfl rfl (by first | assumption | decide | (show _ < 124; omega) | (show _ < 61; omega) | (show _ < 20; omega)) ⟨by first | exact Nat.le_of_ble_eq_true rfl | (simp only [ab_rm]; omega), by first | exact Nat.le_of_ble_eq_true rfl | (simp only [ab_rm]; omega)⟩ ⟨by first | exact Nat.le_of_ble_eq_true rfl | (simp only [ab_rm]; omega), by first | exact Nat.le_of_ble_eq_true rfl | (simp only [ab_rm]; omega)⟩ (Nat.le_of_ble_eq_true rfl) (fun u250 r250 h250 => ?_)
    obtain ⟨q250, rfl⟩ := h250
    have P250 := q250.1
    refine ab_iload_n X 3 d_MO_writeMore_253 rfl rfl ?_
    refine ab_bipush (v := 24) X d_MO_writeMore_254 (by decide) ?_
    refine ab_icmp_ne X 273 d_MO_writeMore_256 rfl (fun _ => ?_) (fun hb => absurd hb ((by decide)))
    exact ab_retv X hr0 hlk d_MO_writeMore_273 ⟨q250.cast (by simp [List.append_assoc]), rfl⟩
theorem ww.done {u u0 u' : ab_S} {b : Nat} {L L' : List Nat} (h0 : gP [16, 17] u u0) (h : ww u0 u' b L) (e : L = L') : gP [16, 17, 109] u u' ∧ (∀ q, (q < b ∨ b + 100 ≤ q) → u'.1 18 9 q = u.1 18 9 q) ∧ ∀ i, i < L'.length → u'.1 18 9 (b + i) = nI (L'.getD i 0) := by
  subst e
  exact ⟨(h0.wk (by decide)).trans h.1 (by decide), fun q hq => (h.2.2.2.2 q hq).trans (h0.ai (by decide) rfl), h.2.2.2.1⟩
set_option maxRecDepth 100000 in
set_option maxHeartbeats 20000000 in
theorem x_MO_write (u : ab_S) (P : Nat) (kd ar cn lf : Nat → Nat) (ch : Nat → Nat → Nat) (W : tW P kd ar cn lf ch) (T : tR P kd ar cn ch u) (p1 j w : Nat) (Wq : Nat → Nat → List Nat) (h : mR u.2.1) (hp : p1 < P) (hj : j < 3) (hw : wok (kd p1) (ar p1) (cn p1) j w) (ew : u.1 18 5 (3 * p1 + j) = nI w) (G : ∀ c, p1 < c → c < P → rg u (3 * c) (Wq c 0) ∧ rg u (3 * c + 1) (Wq c 1) ∧ rg u (3 * c + 2) (Wq c 2)) (hO : w = 8 ∨ w = 24 → rg u (3 * p1) (Wq p1 0)) (hK : (wds kd ar cn w p1 (fun i => Wq (cp ch w p1 i) (cj cn w p1 i))).length ≤ 100) : ab_C false l D ca y_MO_write b_MO_write 6 none 3 ab_nQ u [ab_O 17 0, ab_I (nI p1), ab_I (nI (3 * p1 + j))] (fun u' v => (gP [16, 17, 109] u u' ∧ (∀ q, (q < 100 * (3 * p1 + j) ∨ 100 * (3 * p1 + j) + 100 ≤ q) → u'.1 18 9 q = u.1 18 9 q) ∧ ∀ i, i < (wds kd ar cn w p1 (fun i => Wq (cp ch w p1 i) (cj cn w p1 i))).length → u'.1 18 9 (100 * (3 * p1 + j) + i) = nI ((wds kd ar cn w p1 (fun i => Wq (cp ch w p1 i) (cj cn w p1 i))).getD i 0)) ∧ v = none) := by
  refine ab_C.of (by decide) (Nat.le_of_ble_eq_true rfl) ?_
  intro p e s m args below meth c ad X hZ hr0 hlk
  have P0 : gP [16, 17] u u := gP.rf h
  have hP19 := W.2.1
  obtain ⟨⟨lp, -, k1, k7, ar9⟩, -, kb⟩ := W.2.2 p1 hp
  obtain ⟨ek, ea, ec, ech⟩ := T.2 p1 hp
  have c2 : kd p1 = 5 ∨ kd p1 = 6 → cn p1 = 2 := fun z => (kb (by omega)).2.2.1 (by omega)
  have cw : (w = 1 ∧ kd p1 = 1) ∨ (w = 2 ∧ kd p1 = 5) ∨ (w = 3 ∧ kd p1 = 6) ∨ (w = 4 ∧ kd p1 = 6) ∨ (w = 5 ∧ kd p1 = 6) ∨ (w = 6 ∧ kd p1 = 6) ∨ (w = 7 ∧ kd p1 = 7) ∨ (w = 8 ∧ j = 1) ∨ (w = 11 ∧ kd p1 = 2) ∨ (w = 12 ∧ kd p1 ≤ 4) ∨ (w = 13 ∧ kd p1 = 5) ∨ (w = 14 ∧ kd p1 = 5) ∨ (w = 15 ∧ kd p1 = 6) ∨ (w = 16 ∧ kd p1 = 6) ∨ (w = 17 ∧ kd p1 = 6) ∨ (w = 18 ∧ kd p1 = 7) ∨ (w = 21 ∧ kd p1 = 5) ∨ (w = 22 ∧ kd p1 = 6) ∨ (w = 23 ∧ kd p1 = 6) ∨ (w = 24 ∧ j = 2) := by
    rcases hw with ⟨rfl, a, b⟩ | ⟨rfl, a, b⟩ | ⟨rfl, a, b⟩ | ⟨rfl | rfl, a, b⟩ | ⟨rfl, a, b⟩ | ⟨rfl | rfl | rfl, a, b⟩ | ⟨rfl | rfl | rfl | rfl, a, b⟩ | ⟨rfl, a, b⟩ | ⟨rfl, a, b⟩ | ⟨rfl, a⟩ | ⟨rfl, a, b⟩ | ⟨rfl | rfl, a, b⟩ | ⟨rfl, a⟩ <;> simp [a] <;> omega
  rcases cw with ⟨rfl, kk⟩ | ⟨rfl, kk⟩ | ⟨rfl, kk⟩ | ⟨rfl, kk⟩ | ⟨rfl, kk⟩ | ⟨rfl, kk⟩ | ⟨rfl, kk⟩ | ⟨rfl, kk⟩ | ⟨rfl, kk⟩ | ⟨rfl, kk⟩ | ⟨rfl, kk⟩ | ⟨rfl, kk⟩ | ⟨rfl, kk⟩ | ⟨rfl, kk⟩ | ⟨rfl, kk⟩ | ⟨rfl, kk⟩ | ⟨rfl, kk⟩ | ⟨rfl, kk⟩ | ⟨rfl, kk⟩ | ⟨rfl, kk⟩
  ·
    have eW : wds kd ar cn 1 p1 (fun i => Wq (cp ch 1 p1 i) (cj cn 1 p1 i)) = [1000 * kd p1 + ar p1] := rfl
    rw [eW] at hK
    refine ab_aload_n X 0 d_MO_write_0 rfl rfl ?_
    refine ab_bipush (v := 100) X d_MO_write_1 (by decide) ?_
    refine ab_iload_n X 2 d_MO_write_3 rfl rfl ?_
    refine ab_imul X d_MO_write_4 ?_
    refine ab_top (nI_100m _) ?_
    refine ab_putI X fp_MO_63 d_MO_write_5 (by first | assumption | decide | (show _ < 124; omega) | (show _ < 61; omega) | (show _ < 20; omega)) rfl rfl ?_
    refine ab_gen (fun u5 e5 => ?_)
    have P5 : gP [16, 17] u u5 := by rw [e5]; exact P0.ui rfl (by decide)
    refine ab_aload_n X 0 d_MO_write_8 rfl rfl ?_
    refine ab_iconst (v := 0) X d_MO_write_9 (by decide) ?_
    refine ab_putI X fp_MO_60 d_MO_write_10 (by first | assumption | decide | (show _ < 124; omega) | (show _ < 61; omega) | (show _ < 20; omega)) rfl rfl ?_
    refine ab_gen (fun u10 e10 => ?_)
    have P10 : gP [16, 17] u u10 := by rw [e10]; exact P5.ui rfl (by decide)
    have h10 : ww u10 u10 (100 * (3 * p1 + j)) [] := ⟨gP.rf P10.1, by rw [e10, e5]; simp [ab_up], by rw [e10]; simp [ab_up]; rfl, fun i hi => absurd hi (Nat.not_lt_zero i), fun _ _ => rfl⟩
    have T10 := T.fr P10 (by decide) (by decide) (by decide) (by decide) (by decide)
    have G10 : ∀ c, p1 < c → c < P → rg u10 (3 * c) (Wq c 0) ∧ rg u10 (3 * c + 1) (Wq c 1) ∧ rg u10 (3 * c + 2) (Wq c 2) := fun c x y => ⟨(G c x y).1.fr P10 (by decide) (by decide), (G c x y).2.1.fr P10 (by decide) (by decide), (G c x y).2.2.fr P10 (by decide) (by decide)⟩
    refine ab_aload_n X 0 d_MO_write_13 rfl rfl ?_
    refine ab_gR X fl_MO_45 d_MO_write_14 (by first | assumption | decide | (show _ < 124; omega) | (show _ < 61; omega) | (show _ < 20; omega)) (P10.1.mo11) ?_
    refine ab_iload_n X 2 d_MO_write_17 rfl rfl ?_
    refine ab_iald X (3 * p1 + j) ⟨rfl, rfl⟩ d_MO_write_18 (by first | assumption | decide | (show _ < 124; omega) | (show _ < 61; omega) | (show _ < 20; omega)) (rfl) (show 3 * p1 + j < 72 by omega) (ab_ln_lt _ _) ?_
    refine ab_top (P10.ai (by decide) ew) ?_
    refine ab_istore_n3 X 0 1 2 d_MO_write_19 rfl (by decide) rfl rfl rfl rfl rfl rfl ?_
    refine ab_aload_n X 1 d_MO_write_20 rfl rfl ?_
    refine ab_gR X fl_MO_42 d_MO_write_21 (by first | assumption | decide | (show _ < 124; omega) | (show _ < 61; omega) | (show _ < 20; omega)) (P10.1.mo10) ?_
    refine ab_iconst (v := 4) X d_MO_write_24 (by decide) ?_
    refine ab_iload_n X 2 d_MO_write_25 rfl rfl ?_
    refine ab_imul X d_MO_write_26 ?_
    refine ab_iald X (4 * p1) ⟨rfl, rfl⟩ d_MO_write_27 (by first | assumption | decide | (show _ < 124; omega) | (show _ < 61; omega) | (show _ < 20; omega)) (nI_4m p1) (show 4 * p1 < 160 by omega) (ab_ln_lt _ _) ?_
    refine ab_istore4 X 0 1 2 3 d_MO_write_28 (by decide) rfl rfl rfl rfl rfl rfl rfl rfl ?_
    refine ab_aload_n X 2 d_MO_write_30 rfl rfl ?_
    refine ab_gR X fl_MO_42 d_MO_write_31 (by first | assumption | decide | (show _ < 124; omega) | (show _ < 61; omega) | (show _ < 20; omega)) (P10.1.mo10) ?_
    refine ab_iconst (v := 4) X d_MO_write_34 (by decide) ?_
    refine ab_iload_n X 3 d_MO_write_35 rfl rfl ?_
    refine ab_imul X d_MO_write_36 ?_
    refine ab_iconst (v := 1) X d_MO_write_37 (by decide) ?_
    refine ab_iadd X d_MO_write_38 ?_
    refine ab_iald X (4 * p1 + 1) ⟨rfl, rfl⟩ d_MO_write_39 (by first | assumption | decide | (show _ < 124; omega) | (show _ < 61; omega) | (show _ < 20; omega)) (nI_4b p1) (show 4 * p1 + 1 < 160 by omega) (ab_ln_lt _ _) ?_
    refine ab_istore5 X 0 1 2 3 4 d_MO_write_40 (by decide) rfl rfl rfl rfl rfl rfl rfl rfl rfl rfl ?_
    refine ab_iload_n X 2 d_MO_write_42 rfl rfl ?_
    refine ab_iconst (v := 1) X d_MO_write_43 (by decide) ?_
    refine ab_icmp_eq X 59 d_MO_write_44 rfl (fun _ => ?_) (fun hb => absurd ((by decide)) hb)
    refine ab_aload_n X 3 d_MO_write_59 rfl rfl ?_
    refine ab_aload_n X 3 d_MO_write_60 rfl rfl ?_
    refine ab_gR X fl_MO_33 d_MO_write_61 (by first | assumption | decide | (show _ < 124; omega) | (show _ < 61; omega) | (show _ < 20; omega)) (P10.1.mo7) ?_
    refine ab_iload_n X 4 d_MO_write_64 rfl rfl ?_
    refine ab_iald X (p1) ⟨rfl, rfl⟩ d_MO_write_65 (by first | assumption | decide | (show _ < 124; omega) | (show _ < 61; omega) | (show _ < 20; omega)) (rfl) (show p1 < 40 by omega) (ab_ln_lt _ _) ?_
    refine ab_top (P10.ai (by decide) ek) ?_
    refine ab_aload_n X 3 d_MO_write_66 rfl rfl ?_
    refine ab_gR X fl_MO_36 d_MO_write_67 (by first | assumption | decide | (show _ < 124; omega) | (show _ < 61; omega) | (show _ < 20; omega)) (P10.1.mo8) ?_
    refine ab_iload_n X 4 d_MO_write_70 rfl rfl ?_
    refine ab_iald X (p1) ⟨rfl, rfl⟩ d_MO_write_71 (by first | assumption | decide | (show _ < 124; omega) | (show _ < 61; omega) | (show _ < 20; omega)) (rfl) (show p1 < 40 by omega) (ab_ln_lt _ _) ?_
    refine ab_top (P10.ai (by decide) ea) ?_
    refine ab_callV (as := [ab_I (nI (kd p1)), ab_I (nI (ar p1))]) X (fun h => by cases h) (x_MO_say u10 u10 _ _ h10 (by decide) (by omega) (kd p1) (ar p1)) lk_MO_242 d_MO_write_72 rfl rfl (by first | assumption | decide | (show _ < 124; omega) | (show _ < 61; omega) | (show _ < 20; omega)) ⟨by first | exact Nat.le_of_ble_eq_true rfl | (simp only [ab_rm]; omega), by first | exact Nat.le_of_ble_eq_true rfl | (simp only [ab_rm]; omega)⟩ ⟨by first | exact Nat.le_of_ble_eq_true rfl | (simp only [ab_rm]; omega), by first | exact Nat.le_of_ble_eq_true rfl | (simp only [ab_rm]; omega)⟩ (Nat.le_of_ble_eq_true rfl) (fun u72 r72 h72 => ?_)
    obtain ⟨q72, rfl⟩ := h72
    have P72 := q72.1
    refine ab_iload_n X 2 d_MO_write_75 rfl rfl ?_
    refine ab_iconst (v := 2) X d_MO_write_76 (by decide) ?_
    refine ab_icmp_ne X 96 d_MO_write_77 rfl (fun _ => ?_) (fun hb => absurd hb ((by decide)))
    refine ab_iload_n X 2 d_MO_write_96 rfl rfl ?_
    refine ab_iconst (v := 3) X d_MO_write_97 (by decide) ?_
    refine ab_icmp_ne X 117 d_MO_write_98 rfl (fun _ => ?_) (fun hb => absurd hb ((by decide)))
    refine ab_iload_n X 2 d_MO_write_117 rfl rfl ?_
    refine ab_iconst (v := 4) X d_MO_write_118 (by decide) ?_
    refine ab_icmp_ne X 136 d_MO_write_119 rfl (fun _ => ?_) (fun hb => absurd hb ((by decide)))
    refine ab_iload_n X 2 d_MO_write_136 rfl rfl ?_
    refine ab_iconst (v := 5) X d_MO_write_137 (by decide) ?_
    refine ab_icmp_ne X 155 d_MO_write_138 rfl (fun _ => ?_) (fun hb => absurd hb ((by decide)))
    refine ab_iload_n X 2 d_MO_write_155 rfl rfl ?_
    refine ab_bipush (v := 6) X d_MO_write_156 (by decide) ?_
    refine ab_icmp_ne X 175 d_MO_write_158 rfl (fun _ => ?_) (fun hb => absurd hb ((by decide)))
    refine ab_iload_n X 2 d_MO_write_175 rfl rfl ?_
    refine ab_bipush (v := 7) X d_MO_write_176 (by decide) ?_
    refine ab_icmp_ne X 186 d_MO_write_178 rfl (fun _ => ?_) (fun hb => absurd hb ((by decide)))
    refine ab_iload_n X 2 d_MO_write_186 rfl rfl ?_
    refine ab_bipush (v := 8) X d_MO_write_187 (by decide) ?_
    refine ab_icmp_ne X 228 d_MO_write_189 rfl (fun _ => ?_) (fun hb => absurd hb ((by decide)))
    refine ab_iload_n X 2 d_MO_write_228 rfl rfl ?_
    refine ab_bipush (v := 12) X d_MO_write_229 (by decide) ?_
    refine ab_icmp_le X 244 d_MO_write_231 rfl (fun _ => ?_) (fun hb => absurd ((by decide)) hb)
    exact ab_retv X hr0 hlk d_MO_write_244 ⟨ww.done P10 q72 (by rw [eW] <;> first | rfl | simp), rfl⟩
  ·
    have eW : wds kd ar cn 2 p1 (fun i => Wq (cp ch 2 p1 i) (cj cn 2 p1 i)) = (Wq (ch p1 0) 1) ++ ([10000] ++ (Wq (ch p1 1) 1) ++ [11000] ++ [6000]) := by
      have c := c2 (by omega)
      show asd (fun i => Wq (ch p1 i) 1) (1000 * ck (kd p1)) (cn p1) ++ [] = _
      rw [c, kk]; simp [asd, ck]
    rw [eW] at hK
    simp only [List.length_append, List.length_cons, List.length_nil] at hK
    obtain ⟨x, y, ex, ey, x1, x2, y1, y2, l0, l1, l2, rfl, rfl⟩ := W.two T hp (by omega)
    refine ab_aload_n X 0 d_MO_write_0 rfl rfl ?_
    refine ab_bipush (v := 100) X d_MO_write_1 (by decide) ?_
    refine ab_iload_n X 2 d_MO_write_3 rfl rfl ?_
    refine ab_imul X d_MO_write_4 ?_
    refine ab_top (nI_100m _) ?_
    refine ab_putI X fp_MO_63 d_MO_write_5 (by first | assumption | decide | (show _ < 124; omega) | (show _ < 61; omega) | (show _ < 20; omega)) rfl rfl ?_
    refine ab_gen (fun u5 e5 => ?_)
    have P5 : gP [16, 17] u u5 := by rw [e5]; exact P0.ui rfl (by decide)
    refine ab_aload_n X 0 d_MO_write_8 rfl rfl ?_
    refine ab_iconst (v := 0) X d_MO_write_9 (by decide) ?_
    refine ab_putI X fp_MO_60 d_MO_write_10 (by first | assumption | decide | (show _ < 124; omega) | (show _ < 61; omega) | (show _ < 20; omega)) rfl rfl ?_
    refine ab_gen (fun u10 e10 => ?_)
    have P10 : gP [16, 17] u u10 := by rw [e10]; exact P5.ui rfl (by decide)
    have h10 : ww u10 u10 (100 * (3 * p1 + j)) [] := ⟨gP.rf P10.1, by rw [e10, e5]; simp [ab_up], by rw [e10]; simp [ab_up]; rfl, fun i hi => absurd hi (Nat.not_lt_zero i), fun _ _ => rfl⟩
    have T10 := T.fr P10 (by decide) (by decide) (by decide) (by decide) (by decide)
    have G10 : ∀ c, p1 < c → c < P → rg u10 (3 * c) (Wq c 0) ∧ rg u10 (3 * c + 1) (Wq c 1) ∧ rg u10 (3 * c + 2) (Wq c 2) := fun c x y => ⟨(G c x y).1.fr P10 (by decide) (by decide), (G c x y).2.1.fr P10 (by decide) (by decide), (G c x y).2.2.fr P10 (by decide) (by decide)⟩
    refine ab_aload_n X 0 d_MO_write_13 rfl rfl ?_
    refine ab_gR X fl_MO_45 d_MO_write_14 (by first | assumption | decide | (show _ < 124; omega) | (show _ < 61; omega) | (show _ < 20; omega)) (P10.1.mo11) ?_
    refine ab_iload_n X 2 d_MO_write_17 rfl rfl ?_
    refine ab_iald X (3 * p1 + j) ⟨rfl, rfl⟩ d_MO_write_18 (by first | assumption | decide | (show _ < 124; omega) | (show _ < 61; omega) | (show _ < 20; omega)) (rfl) (show 3 * p1 + j < 72 by omega) (ab_ln_lt _ _) ?_
    refine ab_top (P10.ai (by decide) ew) ?_
    refine ab_istore_n3 X 0 1 2 d_MO_write_19 rfl (by decide) rfl rfl rfl rfl rfl rfl ?_
    refine ab_aload_n X 1 d_MO_write_20 rfl rfl ?_
    refine ab_gR X fl_MO_42 d_MO_write_21 (by first | assumption | decide | (show _ < 124; omega) | (show _ < 61; omega) | (show _ < 20; omega)) (P10.1.mo10) ?_
    refine ab_iconst (v := 4) X d_MO_write_24 (by decide) ?_
    refine ab_iload_n X 2 d_MO_write_25 rfl rfl ?_
    refine ab_imul X d_MO_write_26 ?_
    refine ab_iald X (4 * p1) ⟨rfl, rfl⟩ d_MO_write_27 (by first | assumption | decide | (show _ < 124; omega) | (show _ < 61; omega) | (show _ < 20; omega)) (nI_4m p1) (show 4 * p1 < 160 by omega) (ab_ln_lt _ _) ?_
    refine ab_top (P10.ai (by decide) ex) ?_
    refine ab_istore4 X 0 1 2 3 d_MO_write_28 (by decide) rfl rfl rfl rfl rfl rfl rfl rfl ?_
    refine ab_aload_n X 2 d_MO_write_30 rfl rfl ?_
    refine ab_gR X fl_MO_42 d_MO_write_31 (by first | assumption | decide | (show _ < 124; omega) | (show _ < 61; omega) | (show _ < 20; omega)) (P10.1.mo10) ?_
    refine ab_iconst (v := 4) X d_MO_write_34 (by decide) ?_
    refine ab_iload_n X 3 d_MO_write_35 rfl rfl ?_
    refine ab_imul X d_MO_write_36 ?_
    refine ab_iconst (v := 1) X d_MO_write_37 (by decide) ?_
    refine ab_iadd X d_MO_write_38 ?_
    refine ab_iald X (4 * p1 + 1) ⟨rfl, rfl⟩ d_MO_write_39 (by first | assumption | decide | (show _ < 124; omega) | (show _ < 61; omega) | (show _ < 20; omega)) (nI_4b p1) (show 4 * p1 + 1 < 160 by omega) (ab_ln_lt _ _) ?_
    refine ab_top (P10.ai (by decide) ey) ?_
    obtain ⟨gx0, gx1, gx2⟩ := G10 _ x1 x2
    obtain ⟨gy0, gy1, gy2⟩ := G10 _ y1 y2
    refine ab_istore5 X 0 1 2 3 4 d_MO_write_40 (by decide) rfl rfl rfl rfl rfl rfl rfl rfl rfl rfl ?_
    refine ab_iload_n X 2 d_MO_write_42 rfl rfl ?_
    refine ab_iconst (v := 1) X d_MO_write_43 (by decide) ?_
    refine ab_icmp_eq X 59 d_MO_write_44 rfl (fun hb => absurd hb ((by decide))) (fun _ => ?_)
    refine ab_iload_n X 2 d_MO_write_47 rfl rfl ?_
    refine ab_bipush (v := 11) X d_MO_write_48 (by decide) ?_
    refine ab_icmp_eq X 59 d_MO_write_50 rfl (fun hb => absurd hb ((by decide))) (fun _ => ?_)
    refine ab_iload_n X 2 d_MO_write_53 rfl rfl ?_
    refine ab_bipush (v := 12) X d_MO_write_54 (by decide) ?_
    refine ab_icmp_ne X 75 d_MO_write_56 rfl (fun _ => ?_) (fun hb => absurd hb ((by decide)))
    refine ab_iload_n X 2 d_MO_write_75 rfl rfl ?_
    refine ab_iconst (v := 2) X d_MO_write_76 (by decide) ?_
    refine ab_icmp_ne X 96 d_MO_write_77 rfl (fun hb => absurd ((by decide)) hb) (fun _ => ?_)
    refine ab_aload_n X 3 d_MO_write_80 rfl rfl ?_
    refine ab_iload X 1 d_MO_write_81 rfl ?_
    refine ab_callS (as := [ab_I (nI (ch p1 0))]) X (fun h => by cases h) (t_MO_d u10 (ch p1 0)) ls_MO_195 d_MO_write_83 rfl rfl ⟨by first | exact Nat.le_of_ble_eq_true rfl | (simp only [ab_rm]; omega), by first | exact Nat.le_of_ble_eq_true rfl | (simp only [ab_rm]; omega)⟩ ⟨by first | exact Nat.le_of_ble_eq_true rfl | (simp only [ab_rm]; omega), by first | exact Nat.le_of_ble_eq_true rfl | (simp only [ab_rm]; omega)⟩ (Nat.le_of_ble_eq_true rfl) (fun u83 r83 h83 => ?_)
    obtain ⟨e83, rfl⟩ := h83
    subst u83
    refine ab_iload X 0 d_MO_write_86 rfl ?_
    refine ab_callS (as := [ab_I (nI (ch p1 1))]) X (fun h => by cases h) (t_MO_d u10 (ch p1 1)) ls_MO_195 d_MO_write_88 rfl rfl ⟨by first | exact Nat.le_of_ble_eq_true rfl | (simp only [ab_rm]; omega), by first | exact Nat.le_of_ble_eq_true rfl | (simp only [ab_rm]; omega)⟩ ⟨by first | exact Nat.le_of_ble_eq_true rfl | (simp only [ab_rm]; omega), by first | exact Nat.le_of_ble_eq_true rfl | (simp only [ab_rm]; omega)⟩ (Nat.le_of_ble_eq_true rfl) (fun u88 r88 h88 => ?_)
    obtain ⟨e88, rfl⟩ := h88
    subst u88
    refine ab_bipush (v := 6) X d_MO_write_91 (by decide) ?_
    refine ab_callV (as := [ab_I (nI (3 * ch p1 0 + 1)), ab_I (nI (3 * ch p1 1 + 1)), ab_I (nI 6)]) X (fun h => by cases h) (x_MO_sayAside u10 u10 _ _ h10 (by omega) (3 * ch p1 0 + 1) (3 * ch p1 1 + 1) (Wq (ch p1 0) 1) (Wq (ch p1 1) 1) (by omega) (by omega) gx1 (by omega) (by omega) gy1 (by show 0 + _ + _ + 3 ≤ 100; omega) 6) lk_MO_245 d_MO_write_93 rfl rfl (by first | assumption | decide | (show _ < 124; omega) | (show _ < 61; omega) | (show _ < 20; omega)) ⟨by first | exact Nat.le_of_ble_eq_true rfl | (simp only [ab_rm]; omega), by first | exact Nat.le_of_ble_eq_true rfl | (simp only [ab_rm]; omega)⟩ ⟨by first | exact Nat.le_of_ble_eq_true rfl | (simp only [ab_rm]; omega), by first | exact Nat.le_of_ble_eq_true rfl | (simp only [ab_rm]; omega)⟩ (Nat.le_of_ble_eq_true rfl) (fun u93 r93 h93 => ?_)
    obtain ⟨q93, rfl⟩ := h93
    have P93 := q93.1
    refine ab_iload_n X 2 d_MO_write_96 rfl rfl ?_
    refine ab_iconst (v := 3) X d_MO_write_97 (by decide) ?_
    refine ab_icmp_ne X 117 d_MO_write_98 rfl (fun _ => ?_) (fun hb => absurd hb ((by decide)))
    refine ab_iload_n X 2 d_MO_write_117 rfl rfl ?_
    refine ab_iconst (v := 4) X d_MO_write_118 (by decide) ?_
    refine ab_icmp_ne X 136 d_MO_write_119 rfl (fun _ => ?_) (fun hb => absurd hb ((by decide)))
    refine ab_iload_n X 2 d_MO_write_136 rfl rfl ?_
    refine ab_iconst (v := 5) X d_MO_write_137 (by decide) ?_
    refine ab_icmp_ne X 155 d_MO_write_138 rfl (fun _ => ?_) (fun hb => absurd hb ((by decide)))
    refine ab_iload_n X 2 d_MO_write_155 rfl rfl ?_
    refine ab_bipush (v := 6) X d_MO_write_156 (by decide) ?_
    refine ab_icmp_ne X 175 d_MO_write_158 rfl (fun _ => ?_) (fun hb => absurd hb ((by decide)))
    refine ab_iload_n X 2 d_MO_write_175 rfl rfl ?_
    refine ab_bipush (v := 7) X d_MO_write_176 (by decide) ?_
    refine ab_icmp_ne X 186 d_MO_write_178 rfl (fun _ => ?_) (fun hb => absurd hb ((by decide)))
    refine ab_iload_n X 2 d_MO_write_186 rfl rfl ?_
    refine ab_bipush (v := 8) X d_MO_write_187 (by decide) ?_
    refine ab_icmp_ne X 228 d_MO_write_189 rfl (fun _ => ?_) (fun hb => absurd hb ((by decide)))
    refine ab_iload_n X 2 d_MO_write_228 rfl rfl ?_
    refine ab_bipush (v := 12) X d_MO_write_229 (by decide) ?_
    refine ab_icmp_le X 244 d_MO_write_231 rfl (fun _ => ?_) (fun hb => absurd ((by decide)) hb)
    exact ab_retv X hr0 hlk d_MO_write_244 ⟨ww.done P10 q93 (by rw [eW] <;> first | rfl | simp), rfl⟩
  ·
    have eW : wds kd ar cn 3 p1 (fun i => Wq (cp ch 3 p1 i) (cj cn 3 p1 i)) = (Wq (ch p1 0) 1) ++ ([10000] ++ (Wq (ch p1 1) 1) ++ [11000] ++ [7000]) := by
      have c := c2 (by omega)
      show asd (fun i => Wq (ch p1 i) 1) (1000 * ck (kd p1)) (cn p1) ++ [] = _
      rw [c, kk]; simp [asd, ck]
    rw [eW] at hK
    simp only [List.length_append, List.length_cons, List.length_nil] at hK
    obtain ⟨x, y, ex, ey, x1, x2, y1, y2, l0, l1, l2, rfl, rfl⟩ := W.two T hp (by omega)
    refine ab_aload_n X 0 d_MO_write_0 rfl rfl ?_
    refine ab_bipush (v := 100) X d_MO_write_1 (by decide) ?_
    refine ab_iload_n X 2 d_MO_write_3 rfl rfl ?_
    refine ab_imul X d_MO_write_4 ?_
    refine ab_top (nI_100m _) ?_
    refine ab_putI X fp_MO_63 d_MO_write_5 (by first | assumption | decide | (show _ < 124; omega) | (show _ < 61; omega) | (show _ < 20; omega)) rfl rfl ?_
    refine ab_gen (fun u5 e5 => ?_)
    have P5 : gP [16, 17] u u5 := by rw [e5]; exact P0.ui rfl (by decide)
    refine ab_aload_n X 0 d_MO_write_8 rfl rfl ?_
    refine ab_iconst (v := 0) X d_MO_write_9 (by decide) ?_
    refine ab_putI X fp_MO_60 d_MO_write_10 (by first | assumption | decide | (show _ < 124; omega) | (show _ < 61; omega) | (show _ < 20; omega)) rfl rfl ?_
    refine ab_gen (fun u10 e10 => ?_)
    have P10 : gP [16, 17] u u10 := by rw [e10]; exact P5.ui rfl (by decide)
    have h10 : ww u10 u10 (100 * (3 * p1 + j)) [] := ⟨gP.rf P10.1, by rw [e10, e5]; simp [ab_up], by rw [e10]; simp [ab_up]; rfl, fun i hi => absurd hi (Nat.not_lt_zero i), fun _ _ => rfl⟩
    have T10 := T.fr P10 (by decide) (by decide) (by decide) (by decide) (by decide)
    have G10 : ∀ c, p1 < c → c < P → rg u10 (3 * c) (Wq c 0) ∧ rg u10 (3 * c + 1) (Wq c 1) ∧ rg u10 (3 * c + 2) (Wq c 2) := fun c x y => ⟨(G c x y).1.fr P10 (by decide) (by decide), (G c x y).2.1.fr P10 (by decide) (by decide), (G c x y).2.2.fr P10 (by decide) (by decide)⟩
    refine ab_aload_n X 0 d_MO_write_13 rfl rfl ?_
    refine ab_gR X fl_MO_45 d_MO_write_14 (by first | assumption | decide | (show _ < 124; omega) | (show _ < 61; omega) | (show _ < 20; omega)) (P10.1.mo11) ?_
    refine ab_iload_n X 2 d_MO_write_17 rfl rfl ?_
    refine ab_iald X (3 * p1 + j) ⟨rfl, rfl⟩ d_MO_write_18 (by first | assumption | decide | (show _ < 124; omega) | (show _ < 61; omega) | (show _ < 20; omega)) (rfl) (show 3 * p1 + j < 72 by omega) (ab_ln_lt _ _) ?_
    refine ab_top (P10.ai (by decide) ew) ?_
    refine ab_istore_n3 X 0 1 2 d_MO_write_19 rfl (by decide) rfl rfl rfl rfl rfl rfl ?_
    refine ab_aload_n X 1 d_MO_write_20 rfl rfl ?_
    refine ab_gR X fl_MO_42 d_MO_write_21 (by first | assumption | decide | (show _ < 124; omega) | (show _ < 61; omega) | (show _ < 20; omega)) (P10.1.mo10) ?_
    refine ab_iconst (v := 4) X d_MO_write_24 (by decide) ?_
    refine ab_iload_n X 2 d_MO_write_25 rfl rfl ?_
    refine ab_imul X d_MO_write_26 ?_
    refine ab_iald X (4 * p1) ⟨rfl, rfl⟩ d_MO_write_27 (by first | assumption | decide | (show _ < 124; omega) | (show _ < 61; omega) | (show _ < 20; omega)) (nI_4m p1) (show 4 * p1 < 160 by omega) (ab_ln_lt _ _) ?_
    refine ab_top (P10.ai (by decide) ex) ?_
    refine ab_istore4 X 0 1 2 3 d_MO_write_28 (by decide) rfl rfl rfl rfl rfl rfl rfl rfl ?_
    refine ab_aload_n X 2 d_MO_write_30 rfl rfl ?_
    refine ab_gR X fl_MO_42 d_MO_write_31 (by first | assumption | decide | (show _ < 124; omega) | (show _ < 61; omega) | (show _ < 20; omega)) (P10.1.mo10) ?_
    refine ab_iconst (v := 4) X d_MO_write_34 (by decide) ?_
    refine ab_iload_n X 3 d_MO_write_35 rfl rfl ?_
    refine ab_imul X d_MO_write_36 ?_
    refine ab_iconst (v := 1) X d_MO_write_37 (by decide) ?_
    refine ab_iadd X d_MO_write_38 ?_
    refine ab_iald X (4 * p1 + 1) ⟨rfl, rfl⟩ d_MO_write_39 (by first | assumption | decide | (show _ < 124; omega) | (show _ < 61; omega) | (show _ < 20; omega)) (nI_4b p1) (show 4 * p1 + 1 < 160 by omega) (ab_ln_lt _ _) ?_
    refine ab_top (P10.ai (by decide) ey) ?_
    obtain ⟨gx0, gx1, gx2⟩ := G10 _ x1 x2
    obtain ⟨gy0, gy1, gy2⟩ := G10 _ y1 y2
    refine ab_istore5 X 0 1 2 3 4 d_MO_write_40 (by decide) rfl rfl rfl rfl rfl rfl rfl rfl rfl rfl ?_
    refine ab_iload_n X 2 d_MO_write_42 rfl rfl ?_
    refine ab_iconst (v := 1) X d_MO_write_43 (by decide) ?_
    refine ab_icmp_eq X 59 d_MO_write_44 rfl (fun hb => absurd hb ((by decide))) (fun _ => ?_)
    refine ab_iload_n X 2 d_MO_write_47 rfl rfl ?_
    refine ab_bipush (v := 11) X d_MO_write_48 (by decide) ?_
    refine ab_icmp_eq X 59 d_MO_write_50 rfl (fun hb => absurd hb ((by decide))) (fun _ => ?_)
    refine ab_iload_n X 2 d_MO_write_53 rfl rfl ?_
    refine ab_bipush (v := 12) X d_MO_write_54 (by decide) ?_
    refine ab_icmp_ne X 75 d_MO_write_56 rfl (fun _ => ?_) (fun hb => absurd hb ((by decide)))
    refine ab_iload_n X 2 d_MO_write_75 rfl rfl ?_
    refine ab_iconst (v := 2) X d_MO_write_76 (by decide) ?_
    refine ab_icmp_ne X 96 d_MO_write_77 rfl (fun _ => ?_) (fun hb => absurd hb ((by decide)))
    refine ab_iload_n X 2 d_MO_write_96 rfl rfl ?_
    refine ab_iconst (v := 3) X d_MO_write_97 (by decide) ?_
    refine ab_icmp_ne X 117 d_MO_write_98 rfl (fun hb => absurd ((by decide)) hb) (fun _ => ?_)
    refine ab_aload_n X 3 d_MO_write_101 rfl rfl ?_
    refine ab_iload X 1 d_MO_write_102 rfl ?_
    refine ab_callS (as := [ab_I (nI (ch p1 0))]) X (fun h => by cases h) (t_MO_d u10 (ch p1 0)) ls_MO_195 d_MO_write_104 rfl rfl ⟨by first | exact Nat.le_of_ble_eq_true rfl | (simp only [ab_rm]; omega), by first | exact Nat.le_of_ble_eq_true rfl | (simp only [ab_rm]; omega)⟩ ⟨by first | exact Nat.le_of_ble_eq_true rfl | (simp only [ab_rm]; omega), by first | exact Nat.le_of_ble_eq_true rfl | (simp only [ab_rm]; omega)⟩ (Nat.le_of_ble_eq_true rfl) (fun u104 r104 h104 => ?_)
    obtain ⟨e104, rfl⟩ := h104
    subst u104
    refine ab_iload X 0 d_MO_write_107 rfl ?_
    refine ab_callS (as := [ab_I (nI (ch p1 1))]) X (fun h => by cases h) (t_MO_d u10 (ch p1 1)) ls_MO_195 d_MO_write_109 rfl rfl ⟨by first | exact Nat.le_of_ble_eq_true rfl | (simp only [ab_rm]; omega), by first | exact Nat.le_of_ble_eq_true rfl | (simp only [ab_rm]; omega)⟩ ⟨by first | exact Nat.le_of_ble_eq_true rfl | (simp only [ab_rm]; omega), by first | exact Nat.le_of_ble_eq_true rfl | (simp only [ab_rm]; omega)⟩ (Nat.le_of_ble_eq_true rfl) (fun u109 r109 h109 => ?_)
    obtain ⟨e109, rfl⟩ := h109
    subst u109
    refine ab_bipush (v := 7) X d_MO_write_112 (by decide) ?_
    refine ab_callV (as := [ab_I (nI (3 * ch p1 0 + 1)), ab_I (nI (3 * ch p1 1 + 1)), ab_I (nI 7)]) X (fun h => by cases h) (x_MO_sayAside u10 u10 _ _ h10 (by omega) (3 * ch p1 0 + 1) (3 * ch p1 1 + 1) (Wq (ch p1 0) 1) (Wq (ch p1 1) 1) (by omega) (by omega) gx1 (by omega) (by omega) gy1 (by show 0 + _ + _ + 3 ≤ 100; omega) 7) lk_MO_245 d_MO_write_114 rfl rfl (by first | assumption | decide | (show _ < 124; omega) | (show _ < 61; omega) | (show _ < 20; omega)) ⟨by first | exact Nat.le_of_ble_eq_true rfl | (simp only [ab_rm]; omega), by first | exact Nat.le_of_ble_eq_true rfl | (simp only [ab_rm]; omega)⟩ ⟨by first | exact Nat.le_of_ble_eq_true rfl | (simp only [ab_rm]; omega), by first | exact Nat.le_of_ble_eq_true rfl | (simp only [ab_rm]; omega)⟩ (Nat.le_of_ble_eq_true rfl) (fun u114 r114 h114 => ?_)
    obtain ⟨q114, rfl⟩ := h114
    have P114 := q114.1
    refine ab_iload_n X 2 d_MO_write_117 rfl rfl ?_
    refine ab_iconst (v := 4) X d_MO_write_118 (by decide) ?_
    refine ab_icmp_ne X 136 d_MO_write_119 rfl (fun _ => ?_) (fun hb => absurd hb ((by decide)))
    refine ab_iload_n X 2 d_MO_write_136 rfl rfl ?_
    refine ab_iconst (v := 5) X d_MO_write_137 (by decide) ?_
    refine ab_icmp_ne X 155 d_MO_write_138 rfl (fun _ => ?_) (fun hb => absurd hb ((by decide)))
    refine ab_iload_n X 2 d_MO_write_155 rfl rfl ?_
    refine ab_bipush (v := 6) X d_MO_write_156 (by decide) ?_
    refine ab_icmp_ne X 175 d_MO_write_158 rfl (fun _ => ?_) (fun hb => absurd hb ((by decide)))
    refine ab_iload_n X 2 d_MO_write_175 rfl rfl ?_
    refine ab_bipush (v := 7) X d_MO_write_176 (by decide) ?_
    refine ab_icmp_ne X 186 d_MO_write_178 rfl (fun _ => ?_) (fun hb => absurd hb ((by decide)))
    refine ab_iload_n X 2 d_MO_write_186 rfl rfl ?_
    refine ab_bipush (v := 8) X d_MO_write_187 (by decide) ?_
    refine ab_icmp_ne X 228 d_MO_write_189 rfl (fun _ => ?_) (fun hb => absurd hb ((by decide)))
    refine ab_iload_n X 2 d_MO_write_228 rfl rfl ?_
    refine ab_bipush (v := 12) X d_MO_write_229 (by decide) ?_
    refine ab_icmp_le X 244 d_MO_write_231 rfl (fun _ => ?_) (fun hb => absurd ((by decide)) hb)
    exact ab_retv X hr0 hlk d_MO_write_244 ⟨ww.done P10 q114 (by rw [eW] <;> first | rfl | simp), rfl⟩
  ·
    have eW : wds kd ar cn 4 p1 (fun i => Wq (cp ch 4 p1 i) (cj cn 4 p1 i)) = (Wq (ch p1 0) 1) ++ [16000] ++ [15000] ++ (Wq (ch p1 1) 1) ++ [14000] := rfl
    rw [eW] at hK
    simp only [List.length_append, List.length_cons, List.length_nil] at hK
    obtain ⟨x, y, ex, ey, x1, x2, y1, y2, l0, l1, l2, rfl, rfl⟩ := W.two T hp (by omega)
    refine ab_aload_n X 0 d_MO_write_0 rfl rfl ?_
    refine ab_bipush (v := 100) X d_MO_write_1 (by decide) ?_
    refine ab_iload_n X 2 d_MO_write_3 rfl rfl ?_
    refine ab_imul X d_MO_write_4 ?_
    refine ab_top (nI_100m _) ?_
    refine ab_putI X fp_MO_63 d_MO_write_5 (by first | assumption | decide | (show _ < 124; omega) | (show _ < 61; omega) | (show _ < 20; omega)) rfl rfl ?_
    refine ab_gen (fun u5 e5 => ?_)
    have P5 : gP [16, 17] u u5 := by rw [e5]; exact P0.ui rfl (by decide)
    refine ab_aload_n X 0 d_MO_write_8 rfl rfl ?_
    refine ab_iconst (v := 0) X d_MO_write_9 (by decide) ?_
    refine ab_putI X fp_MO_60 d_MO_write_10 (by first | assumption | decide | (show _ < 124; omega) | (show _ < 61; omega) | (show _ < 20; omega)) rfl rfl ?_
    refine ab_gen (fun u10 e10 => ?_)
    have P10 : gP [16, 17] u u10 := by rw [e10]; exact P5.ui rfl (by decide)
    have h10 : ww u10 u10 (100 * (3 * p1 + j)) [] := ⟨gP.rf P10.1, by rw [e10, e5]; simp [ab_up], by rw [e10]; simp [ab_up]; rfl, fun i hi => absurd hi (Nat.not_lt_zero i), fun _ _ => rfl⟩
    have T10 := T.fr P10 (by decide) (by decide) (by decide) (by decide) (by decide)
    have G10 : ∀ c, p1 < c → c < P → rg u10 (3 * c) (Wq c 0) ∧ rg u10 (3 * c + 1) (Wq c 1) ∧ rg u10 (3 * c + 2) (Wq c 2) := fun c x y => ⟨(G c x y).1.fr P10 (by decide) (by decide), (G c x y).2.1.fr P10 (by decide) (by decide), (G c x y).2.2.fr P10 (by decide) (by decide)⟩
    refine ab_aload_n X 0 d_MO_write_13 rfl rfl ?_
    refine ab_gR X fl_MO_45 d_MO_write_14 (by first | assumption | decide | (show _ < 124; omega) | (show _ < 61; omega) | (show _ < 20; omega)) (P10.1.mo11) ?_
    refine ab_iload_n X 2 d_MO_write_17 rfl rfl ?_
    refine ab_iald X (3 * p1 + j) ⟨rfl, rfl⟩ d_MO_write_18 (by first | assumption | decide | (show _ < 124; omega) | (show _ < 61; omega) | (show _ < 20; omega)) (rfl) (show 3 * p1 + j < 72 by omega) (ab_ln_lt _ _) ?_
    refine ab_top (P10.ai (by decide) ew) ?_
    refine ab_istore_n3 X 0 1 2 d_MO_write_19 rfl (by decide) rfl rfl rfl rfl rfl rfl ?_
    refine ab_aload_n X 1 d_MO_write_20 rfl rfl ?_
    refine ab_gR X fl_MO_42 d_MO_write_21 (by first | assumption | decide | (show _ < 124; omega) | (show _ < 61; omega) | (show _ < 20; omega)) (P10.1.mo10) ?_
    refine ab_iconst (v := 4) X d_MO_write_24 (by decide) ?_
    refine ab_iload_n X 2 d_MO_write_25 rfl rfl ?_
    refine ab_imul X d_MO_write_26 ?_
    refine ab_iald X (4 * p1) ⟨rfl, rfl⟩ d_MO_write_27 (by first | assumption | decide | (show _ < 124; omega) | (show _ < 61; omega) | (show _ < 20; omega)) (nI_4m p1) (show 4 * p1 < 160 by omega) (ab_ln_lt _ _) ?_
    refine ab_top (P10.ai (by decide) ex) ?_
    refine ab_istore4 X 0 1 2 3 d_MO_write_28 (by decide) rfl rfl rfl rfl rfl rfl rfl rfl ?_
    refine ab_aload_n X 2 d_MO_write_30 rfl rfl ?_
    refine ab_gR X fl_MO_42 d_MO_write_31 (by first | assumption | decide | (show _ < 124; omega) | (show _ < 61; omega) | (show _ < 20; omega)) (P10.1.mo10) ?_
    refine ab_iconst (v := 4) X d_MO_write_34 (by decide) ?_
    refine ab_iload_n X 3 d_MO_write_35 rfl rfl ?_
    refine ab_imul X d_MO_write_36 ?_
    refine ab_iconst (v := 1) X d_MO_write_37 (by decide) ?_
    refine ab_iadd X d_MO_write_38 ?_
    refine ab_iald X (4 * p1 + 1) ⟨rfl, rfl⟩ d_MO_write_39 (by first | assumption | decide | (show _ < 124; omega) | (show _ < 61; omega) | (show _ < 20; omega)) (nI_4b p1) (show 4 * p1 + 1 < 160 by omega) (ab_ln_lt _ _) ?_
    refine ab_top (P10.ai (by decide) ey) ?_
    obtain ⟨gx0, gx1, gx2⟩ := G10 _ x1 x2
    obtain ⟨gy0, gy1, gy2⟩ := G10 _ y1 y2
    refine ab_istore5 X 0 1 2 3 4 d_MO_write_40 (by decide) rfl rfl rfl rfl rfl rfl rfl rfl rfl rfl ?_
    refine ab_iload_n X 2 d_MO_write_42 rfl rfl ?_
    refine ab_iconst (v := 1) X d_MO_write_43 (by decide) ?_
    refine ab_icmp_eq X 59 d_MO_write_44 rfl (fun hb => absurd hb ((by decide))) (fun _ => ?_)
    refine ab_iload_n X 2 d_MO_write_47 rfl rfl ?_
    refine ab_bipush (v := 11) X d_MO_write_48 (by decide) ?_
    refine ab_icmp_eq X 59 d_MO_write_50 rfl (fun hb => absurd hb ((by decide))) (fun _ => ?_)
    refine ab_iload_n X 2 d_MO_write_53 rfl rfl ?_
    refine ab_bipush (v := 12) X d_MO_write_54 (by decide) ?_
    refine ab_icmp_ne X 75 d_MO_write_56 rfl (fun _ => ?_) (fun hb => absurd hb ((by decide)))
    refine ab_iload_n X 2 d_MO_write_75 rfl rfl ?_
    refine ab_iconst (v := 2) X d_MO_write_76 (by decide) ?_
    refine ab_icmp_ne X 96 d_MO_write_77 rfl (fun _ => ?_) (fun hb => absurd hb ((by decide)))
    refine ab_iload_n X 2 d_MO_write_96 rfl rfl ?_
    refine ab_iconst (v := 3) X d_MO_write_97 (by decide) ?_
    refine ab_icmp_ne X 117 d_MO_write_98 rfl (fun _ => ?_) (fun hb => absurd hb ((by decide)))
    refine ab_iload_n X 2 d_MO_write_117 rfl rfl ?_
    refine ab_iconst (v := 4) X d_MO_write_118 (by decide) ?_
    refine ab_icmp_ne X 136 d_MO_write_119 rfl (fun hb => absurd ((by decide)) hb) (fun _ => ?_)
    refine ab_aload_n X 3 d_MO_write_122 rfl rfl ?_
    refine ab_iload X 1 d_MO_write_123 rfl ?_
    refine ab_callS (as := [ab_I (nI (ch p1 0))]) X (fun h => by cases h) (t_MO_d u10 (ch p1 0)) ls_MO_195 d_MO_write_125 rfl rfl ⟨by first | exact Nat.le_of_ble_eq_true rfl | (simp only [ab_rm]; omega), by first | exact Nat.le_of_ble_eq_true rfl | (simp only [ab_rm]; omega)⟩ ⟨by first | exact Nat.le_of_ble_eq_true rfl | (simp only [ab_rm]; omega), by first | exact Nat.le_of_ble_eq_true rfl | (simp only [ab_rm]; omega)⟩ (Nat.le_of_ble_eq_true rfl) (fun u125 r125 h125 => ?_)
    obtain ⟨e125, rfl⟩ := h125
    subst u125
    refine ab_iload X 0 d_MO_write_128 rfl ?_
    refine ab_callS (as := [ab_I (nI (ch p1 1))]) X (fun h => by cases h) (t_MO_d u10 (ch p1 1)) ls_MO_195 d_MO_write_130 rfl rfl ⟨by first | exact Nat.le_of_ble_eq_true rfl | (simp only [ab_rm]; omega), by first | exact Nat.le_of_ble_eq_true rfl | (simp only [ab_rm]; omega)⟩ ⟨by first | exact Nat.le_of_ble_eq_true rfl | (simp only [ab_rm]; omega), by first | exact Nat.le_of_ble_eq_true rfl | (simp only [ab_rm]; omega)⟩ (Nat.le_of_ble_eq_true rfl) (fun u130 r130 h130 => ?_)
    obtain ⟨e130, rfl⟩ := h130
    subst u130
    refine ab_callV (as := [ab_I (nI (3 * ch p1 0 + 1)), ab_I (nI (3 * ch p1 1 + 1))]) X (fun h => by cases h) (x_MO_sayTwice u10 u10 _ _ h10 (by omega) (3 * ch p1 0 + 1) (3 * ch p1 1 + 1) (Wq (ch p1 0) 1) (Wq (ch p1 1) 1) (by omega) (by omega) gx1 (by omega) (by omega) gy1 (by show 0 + _ + _ + 3 ≤ 100; omega)) lk_MO_248 d_MO_write_133 rfl rfl (by first | assumption | decide | (show _ < 124; omega) | (show _ < 61; omega) | (show _ < 20; omega)) ⟨by first | exact Nat.le_of_ble_eq_true rfl | (simp only [ab_rm]; omega), by first | exact Nat.le_of_ble_eq_true rfl | (simp only [ab_rm]; omega)⟩ ⟨by first | exact Nat.le_of_ble_eq_true rfl | (simp only [ab_rm]; omega), by first | exact Nat.le_of_ble_eq_true rfl | (simp only [ab_rm]; omega)⟩ (Nat.le_of_ble_eq_true rfl) (fun u133 r133 h133 => ?_)
    obtain ⟨q133, rfl⟩ := h133
    have P133 := q133.1
    refine ab_iload_n X 2 d_MO_write_136 rfl rfl ?_
    refine ab_iconst (v := 5) X d_MO_write_137 (by decide) ?_
    refine ab_icmp_ne X 155 d_MO_write_138 rfl (fun _ => ?_) (fun hb => absurd hb ((by decide)))
    refine ab_iload_n X 2 d_MO_write_155 rfl rfl ?_
    refine ab_bipush (v := 6) X d_MO_write_156 (by decide) ?_
    refine ab_icmp_ne X 175 d_MO_write_158 rfl (fun _ => ?_) (fun hb => absurd hb ((by decide)))
    refine ab_iload_n X 2 d_MO_write_175 rfl rfl ?_
    refine ab_bipush (v := 7) X d_MO_write_176 (by decide) ?_
    refine ab_icmp_ne X 186 d_MO_write_178 rfl (fun _ => ?_) (fun hb => absurd hb ((by decide)))
    refine ab_iload_n X 2 d_MO_write_186 rfl rfl ?_
    refine ab_bipush (v := 8) X d_MO_write_187 (by decide) ?_
    refine ab_icmp_ne X 228 d_MO_write_189 rfl (fun _ => ?_) (fun hb => absurd hb ((by decide)))
    refine ab_iload_n X 2 d_MO_write_228 rfl rfl ?_
    refine ab_bipush (v := 12) X d_MO_write_229 (by decide) ?_
    refine ab_icmp_le X 244 d_MO_write_231 rfl (fun _ => ?_) (fun hb => absurd ((by decide)) hb)
    exact ab_retv X hr0 hlk d_MO_write_244 ⟨ww.done P10 q133 (by rw [eW] <;> first | rfl | simp), rfl⟩
  ·
    have eW : wds kd ar cn 5 p1 (fun i => Wq (cp ch 5 p1 i) (cj cn 5 p1 i)) = [12000] ++ (Wq (ch p1 0) 1) ++ [13000] ++ (Wq (ch p1 1) 0) ++ [14000] := rfl
    rw [eW] at hK
    simp only [List.length_append, List.length_cons, List.length_nil] at hK
    obtain ⟨x, y, ex, ey, x1, x2, y1, y2, l0, l1, l2, rfl, rfl⟩ := W.two T hp (by omega)
    refine ab_aload_n X 0 d_MO_write_0 rfl rfl ?_
    refine ab_bipush (v := 100) X d_MO_write_1 (by decide) ?_
    refine ab_iload_n X 2 d_MO_write_3 rfl rfl ?_
    refine ab_imul X d_MO_write_4 ?_
    refine ab_top (nI_100m _) ?_
    refine ab_putI X fp_MO_63 d_MO_write_5 (by first | assumption | decide | (show _ < 124; omega) | (show _ < 61; omega) | (show _ < 20; omega)) rfl rfl ?_
    refine ab_gen (fun u5 e5 => ?_)
    have P5 : gP [16, 17] u u5 := by rw [e5]; exact P0.ui rfl (by decide)
    refine ab_aload_n X 0 d_MO_write_8 rfl rfl ?_
    refine ab_iconst (v := 0) X d_MO_write_9 (by decide) ?_
    refine ab_putI X fp_MO_60 d_MO_write_10 (by first | assumption | decide | (show _ < 124; omega) | (show _ < 61; omega) | (show _ < 20; omega)) rfl rfl ?_
    refine ab_gen (fun u10 e10 => ?_)
    have P10 : gP [16, 17] u u10 := by rw [e10]; exact P5.ui rfl (by decide)
    have h10 : ww u10 u10 (100 * (3 * p1 + j)) [] := ⟨gP.rf P10.1, by rw [e10, e5]; simp [ab_up], by rw [e10]; simp [ab_up]; rfl, fun i hi => absurd hi (Nat.not_lt_zero i), fun _ _ => rfl⟩
    have T10 := T.fr P10 (by decide) (by decide) (by decide) (by decide) (by decide)
    have G10 : ∀ c, p1 < c → c < P → rg u10 (3 * c) (Wq c 0) ∧ rg u10 (3 * c + 1) (Wq c 1) ∧ rg u10 (3 * c + 2) (Wq c 2) := fun c x y => ⟨(G c x y).1.fr P10 (by decide) (by decide), (G c x y).2.1.fr P10 (by decide) (by decide), (G c x y).2.2.fr P10 (by decide) (by decide)⟩
    refine ab_aload_n X 0 d_MO_write_13 rfl rfl ?_
    refine ab_gR X fl_MO_45 d_MO_write_14 (by first | assumption | decide | (show _ < 124; omega) | (show _ < 61; omega) | (show _ < 20; omega)) (P10.1.mo11) ?_
    refine ab_iload_n X 2 d_MO_write_17 rfl rfl ?_
    refine ab_iald X (3 * p1 + j) ⟨rfl, rfl⟩ d_MO_write_18 (by first | assumption | decide | (show _ < 124; omega) | (show _ < 61; omega) | (show _ < 20; omega)) (rfl) (show 3 * p1 + j < 72 by omega) (ab_ln_lt _ _) ?_
    refine ab_top (P10.ai (by decide) ew) ?_
    refine ab_istore_n3 X 0 1 2 d_MO_write_19 rfl (by decide) rfl rfl rfl rfl rfl rfl ?_
    refine ab_aload_n X 1 d_MO_write_20 rfl rfl ?_
    refine ab_gR X fl_MO_42 d_MO_write_21 (by first | assumption | decide | (show _ < 124; omega) | (show _ < 61; omega) | (show _ < 20; omega)) (P10.1.mo10) ?_
    refine ab_iconst (v := 4) X d_MO_write_24 (by decide) ?_
    refine ab_iload_n X 2 d_MO_write_25 rfl rfl ?_
    refine ab_imul X d_MO_write_26 ?_
    refine ab_iald X (4 * p1) ⟨rfl, rfl⟩ d_MO_write_27 (by first | assumption | decide | (show _ < 124; omega) | (show _ < 61; omega) | (show _ < 20; omega)) (nI_4m p1) (show 4 * p1 < 160 by omega) (ab_ln_lt _ _) ?_
    refine ab_top (P10.ai (by decide) ex) ?_
    refine ab_istore4 X 0 1 2 3 d_MO_write_28 (by decide) rfl rfl rfl rfl rfl rfl rfl rfl ?_
    refine ab_aload_n X 2 d_MO_write_30 rfl rfl ?_
    refine ab_gR X fl_MO_42 d_MO_write_31 (by first | assumption | decide | (show _ < 124; omega) | (show _ < 61; omega) | (show _ < 20; omega)) (P10.1.mo10) ?_
    refine ab_iconst (v := 4) X d_MO_write_34 (by decide) ?_
    refine ab_iload_n X 3 d_MO_write_35 rfl rfl ?_
    refine ab_imul X d_MO_write_36 ?_
    refine ab_iconst (v := 1) X d_MO_write_37 (by decide) ?_
    refine ab_iadd X d_MO_write_38 ?_
    refine ab_iald X (4 * p1 + 1) ⟨rfl, rfl⟩ d_MO_write_39 (by first | assumption | decide | (show _ < 124; omega) | (show _ < 61; omega) | (show _ < 20; omega)) (nI_4b p1) (show 4 * p1 + 1 < 160 by omega) (ab_ln_lt _ _) ?_
    refine ab_top (P10.ai (by decide) ey) ?_
    obtain ⟨gx0, gx1, gx2⟩ := G10 _ x1 x2
    obtain ⟨gy0, gy1, gy2⟩ := G10 _ y1 y2
    refine ab_istore5 X 0 1 2 3 4 d_MO_write_40 (by decide) rfl rfl rfl rfl rfl rfl rfl rfl rfl rfl ?_
    refine ab_iload_n X 2 d_MO_write_42 rfl rfl ?_
    refine ab_iconst (v := 1) X d_MO_write_43 (by decide) ?_
    refine ab_icmp_eq X 59 d_MO_write_44 rfl (fun hb => absurd hb ((by decide))) (fun _ => ?_)
    refine ab_iload_n X 2 d_MO_write_47 rfl rfl ?_
    refine ab_bipush (v := 11) X d_MO_write_48 (by decide) ?_
    refine ab_icmp_eq X 59 d_MO_write_50 rfl (fun hb => absurd hb ((by decide))) (fun _ => ?_)
    refine ab_iload_n X 2 d_MO_write_53 rfl rfl ?_
    refine ab_bipush (v := 12) X d_MO_write_54 (by decide) ?_
    refine ab_icmp_ne X 75 d_MO_write_56 rfl (fun _ => ?_) (fun hb => absurd hb ((by decide)))
    refine ab_iload_n X 2 d_MO_write_75 rfl rfl ?_
    refine ab_iconst (v := 2) X d_MO_write_76 (by decide) ?_
    refine ab_icmp_ne X 96 d_MO_write_77 rfl (fun _ => ?_) (fun hb => absurd hb ((by decide)))
    refine ab_iload_n X 2 d_MO_write_96 rfl rfl ?_
    refine ab_iconst (v := 3) X d_MO_write_97 (by decide) ?_
    refine ab_icmp_ne X 117 d_MO_write_98 rfl (fun _ => ?_) (fun hb => absurd hb ((by decide)))
    refine ab_iload_n X 2 d_MO_write_117 rfl rfl ?_
    refine ab_iconst (v := 4) X d_MO_write_118 (by decide) ?_
    refine ab_icmp_ne X 136 d_MO_write_119 rfl (fun _ => ?_) (fun hb => absurd hb ((by decide)))
    refine ab_iload_n X 2 d_MO_write_136 rfl rfl ?_
    refine ab_iconst (v := 5) X d_MO_write_137 (by decide) ?_
    refine ab_icmp_ne X 155 d_MO_write_138 rfl (fun hb => absurd ((by decide)) hb) (fun _ => ?_)
    refine ab_aload_n X 3 d_MO_write_141 rfl rfl ?_
    refine ab_iload X 1 d_MO_write_142 rfl ?_
    refine ab_callS (as := [ab_I (nI (ch p1 0))]) X (fun h => by cases h) (t_MO_d u10 (ch p1 0)) ls_MO_195 d_MO_write_144 rfl rfl ⟨by first | exact Nat.le_of_ble_eq_true rfl | (simp only [ab_rm]; omega), by first | exact Nat.le_of_ble_eq_true rfl | (simp only [ab_rm]; omega)⟩ ⟨by first | exact Nat.le_of_ble_eq_true rfl | (simp only [ab_rm]; omega), by first | exact Nat.le_of_ble_eq_true rfl | (simp only [ab_rm]; omega)⟩ (Nat.le_of_ble_eq_true rfl) (fun u144 r144 h144 => ?_)
    obtain ⟨e144, rfl⟩ := h144
    subst u144
    refine ab_iload X 0 d_MO_write_147 rfl ?_
    refine ab_callS (as := [ab_I (nI (ch p1 1))]) X (fun h => by cases h) (t_MO_b u10 (ch p1 1)) ls_MO_204 d_MO_write_149 rfl rfl ⟨by first | exact Nat.le_of_ble_eq_true rfl | (simp only [ab_rm]; omega), by first | exact Nat.le_of_ble_eq_true rfl | (simp only [ab_rm]; omega)⟩ ⟨by first | exact Nat.le_of_ble_eq_true rfl | (simp only [ab_rm]; omega), by first | exact Nat.le_of_ble_eq_true rfl | (simp only [ab_rm]; omega)⟩ (Nat.le_of_ble_eq_true rfl) (fun u149 r149 h149 => ?_)
    obtain ⟨e149, rfl⟩ := h149
    subst u149
    refine ab_callV (as := [ab_I (nI (3 * ch p1 0 + 1)), ab_I (nI (3 * ch p1 1))]) X (fun h => by cases h) (x_MO_sayIf u10 u10 _ _ h10 (by omega) (3 * ch p1 0 + 1) (3 * ch p1 1) (Wq (ch p1 0) 1) (Wq (ch p1 1) 0) (by omega) (by omega) gx1 (by omega) (by omega) gy0 (by show 0 + _ + _ + 3 ≤ 100; omega)) lk_MO_251 d_MO_write_152 rfl rfl (by first | assumption | decide | (show _ < 124; omega) | (show _ < 61; omega) | (show _ < 20; omega)) ⟨by first | exact Nat.le_of_ble_eq_true rfl | (simp only [ab_rm]; omega), by first | exact Nat.le_of_ble_eq_true rfl | (simp only [ab_rm]; omega)⟩ ⟨by first | exact Nat.le_of_ble_eq_true rfl | (simp only [ab_rm]; omega), by first | exact Nat.le_of_ble_eq_true rfl | (simp only [ab_rm]; omega)⟩ (Nat.le_of_ble_eq_true rfl) (fun u152 r152 h152 => ?_)
    obtain ⟨q152, rfl⟩ := h152
    have P152 := q152.1
    refine ab_iload_n X 2 d_MO_write_155 rfl rfl ?_
    refine ab_bipush (v := 6) X d_MO_write_156 (by decide) ?_
    refine ab_icmp_ne X 175 d_MO_write_158 rfl (fun _ => ?_) (fun hb => absurd hb ((by decide)))
    refine ab_iload_n X 2 d_MO_write_175 rfl rfl ?_
    refine ab_bipush (v := 7) X d_MO_write_176 (by decide) ?_
    refine ab_icmp_ne X 186 d_MO_write_178 rfl (fun _ => ?_) (fun hb => absurd hb ((by decide)))
    refine ab_iload_n X 2 d_MO_write_186 rfl rfl ?_
    refine ab_bipush (v := 8) X d_MO_write_187 (by decide) ?_
    refine ab_icmp_ne X 228 d_MO_write_189 rfl (fun _ => ?_) (fun hb => absurd hb ((by decide)))
    refine ab_iload_n X 2 d_MO_write_228 rfl rfl ?_
    refine ab_bipush (v := 12) X d_MO_write_229 (by decide) ?_
    refine ab_icmp_le X 244 d_MO_write_231 rfl (fun _ => ?_) (fun hb => absurd ((by decide)) hb)
    exact ab_retv X hr0 hlk d_MO_write_244 ⟨ww.done P10 q152 (by rw [eW] <;> first | rfl | simp), rfl⟩
  ·
    have eW : wds kd ar cn 6 p1 (fun i => Wq (cp ch 6 p1 i) (cj cn 6 p1 i)) = [12000] ++ (Wq (ch p1 0) 0) ++ [13000] ++ (Wq (ch p1 1) 1) ++ [14000] := rfl
    rw [eW] at hK
    simp only [List.length_append, List.length_cons, List.length_nil] at hK
    obtain ⟨x, y, ex, ey, x1, x2, y1, y2, l0, l1, l2, rfl, rfl⟩ := W.two T hp (by omega)
    refine ab_aload_n X 0 d_MO_write_0 rfl rfl ?_
    refine ab_bipush (v := 100) X d_MO_write_1 (by decide) ?_
    refine ab_iload_n X 2 d_MO_write_3 rfl rfl ?_
    refine ab_imul X d_MO_write_4 ?_
    refine ab_top (nI_100m _) ?_
    refine ab_putI X fp_MO_63 d_MO_write_5 (by first | assumption | decide | (show _ < 124; omega) | (show _ < 61; omega) | (show _ < 20; omega)) rfl rfl ?_
    refine ab_gen (fun u5 e5 => ?_)
    have P5 : gP [16, 17] u u5 := by rw [e5]; exact P0.ui rfl (by decide)
    refine ab_aload_n X 0 d_MO_write_8 rfl rfl ?_
    refine ab_iconst (v := 0) X d_MO_write_9 (by decide) ?_
    refine ab_putI X fp_MO_60 d_MO_write_10 (by first | assumption | decide | (show _ < 124; omega) | (show _ < 61; omega) | (show _ < 20; omega)) rfl rfl ?_
    refine ab_gen (fun u10 e10 => ?_)
    have P10 : gP [16, 17] u u10 := by rw [e10]; exact P5.ui rfl (by decide)
    have h10 : ww u10 u10 (100 * (3 * p1 + j)) [] := ⟨gP.rf P10.1, by rw [e10, e5]; simp [ab_up], by rw [e10]; simp [ab_up]; rfl, fun i hi => absurd hi (Nat.not_lt_zero i), fun _ _ => rfl⟩
    have T10 := T.fr P10 (by decide) (by decide) (by decide) (by decide) (by decide)
    have G10 : ∀ c, p1 < c → c < P → rg u10 (3 * c) (Wq c 0) ∧ rg u10 (3 * c + 1) (Wq c 1) ∧ rg u10 (3 * c + 2) (Wq c 2) := fun c x y => ⟨(G c x y).1.fr P10 (by decide) (by decide), (G c x y).2.1.fr P10 (by decide) (by decide), (G c x y).2.2.fr P10 (by decide) (by decide)⟩
    refine ab_aload_n X 0 d_MO_write_13 rfl rfl ?_
    refine ab_gR X fl_MO_45 d_MO_write_14 (by first | assumption | decide | (show _ < 124; omega) | (show _ < 61; omega) | (show _ < 20; omega)) (P10.1.mo11) ?_
    refine ab_iload_n X 2 d_MO_write_17 rfl rfl ?_
    refine ab_iald X (3 * p1 + j) ⟨rfl, rfl⟩ d_MO_write_18 (by first | assumption | decide | (show _ < 124; omega) | (show _ < 61; omega) | (show _ < 20; omega)) (rfl) (show 3 * p1 + j < 72 by omega) (ab_ln_lt _ _) ?_
    refine ab_top (P10.ai (by decide) ew) ?_
    refine ab_istore_n3 X 0 1 2 d_MO_write_19 rfl (by decide) rfl rfl rfl rfl rfl rfl ?_
    refine ab_aload_n X 1 d_MO_write_20 rfl rfl ?_
    refine ab_gR X fl_MO_42 d_MO_write_21 (by first | assumption | decide | (show _ < 124; omega) | (show _ < 61; omega) | (show _ < 20; omega)) (P10.1.mo10) ?_
    refine ab_iconst (v := 4) X d_MO_write_24 (by decide) ?_
    refine ab_iload_n X 2 d_MO_write_25 rfl rfl ?_
    refine ab_imul X d_MO_write_26 ?_
    refine ab_iald X (4 * p1) ⟨rfl, rfl⟩ d_MO_write_27 (by first | assumption | decide | (show _ < 124; omega) | (show _ < 61; omega) | (show _ < 20; omega)) (nI_4m p1) (show 4 * p1 < 160 by omega) (ab_ln_lt _ _) ?_
    refine ab_top (P10.ai (by decide) ex) ?_
    refine ab_istore4 X 0 1 2 3 d_MO_write_28 (by decide) rfl rfl rfl rfl rfl rfl rfl rfl ?_
    refine ab_aload_n X 2 d_MO_write_30 rfl rfl ?_
    refine ab_gR X fl_MO_42 d_MO_write_31 (by first | assumption | decide | (show _ < 124; omega) | (show _ < 61; omega) | (show _ < 20; omega)) (P10.1.mo10) ?_
    refine ab_iconst (v := 4) X d_MO_write_34 (by decide) ?_
    refine ab_iload_n X 3 d_MO_write_35 rfl rfl ?_
    refine ab_imul X d_MO_write_36 ?_
    refine ab_iconst (v := 1) X d_MO_write_37 (by decide) ?_
    refine ab_iadd X d_MO_write_38 ?_
    refine ab_iald X (4 * p1 + 1) ⟨rfl, rfl⟩ d_MO_write_39 (by first | assumption | decide | (show _ < 124; omega) | (show _ < 61; omega) | (show _ < 20; omega)) (nI_4b p1) (show 4 * p1 + 1 < 160 by omega) (ab_ln_lt _ _) ?_
    refine ab_top (P10.ai (by decide) ey) ?_
    obtain ⟨gx0, gx1, gx2⟩ := G10 _ x1 x2
    obtain ⟨gy0, gy1, gy2⟩ := G10 _ y1 y2
    refine ab_istore5 X 0 1 2 3 4 d_MO_write_40 (by decide) rfl rfl rfl rfl rfl rfl rfl rfl rfl rfl ?_
    refine ab_iload_n X 2 d_MO_write_42 rfl rfl ?_
    refine ab_iconst (v := 1) X d_MO_write_43 (by decide) ?_
    refine ab_icmp_eq X 59 d_MO_write_44 rfl (fun hb => absurd hb ((by decide))) (fun _ => ?_)
    refine ab_iload_n X 2 d_MO_write_47 rfl rfl ?_
    refine ab_bipush (v := 11) X d_MO_write_48 (by decide) ?_
    refine ab_icmp_eq X 59 d_MO_write_50 rfl (fun hb => absurd hb ((by decide))) (fun _ => ?_)
    refine ab_iload_n X 2 d_MO_write_53 rfl rfl ?_
    refine ab_bipush (v := 12) X d_MO_write_54 (by decide) ?_
    refine ab_icmp_ne X 75 d_MO_write_56 rfl (fun _ => ?_) (fun hb => absurd hb ((by decide)))
    refine ab_iload_n X 2 d_MO_write_75 rfl rfl ?_
    refine ab_iconst (v := 2) X d_MO_write_76 (by decide) ?_
    refine ab_icmp_ne X 96 d_MO_write_77 rfl (fun _ => ?_) (fun hb => absurd hb ((by decide)))
    refine ab_iload_n X 2 d_MO_write_96 rfl rfl ?_
    refine ab_iconst (v := 3) X d_MO_write_97 (by decide) ?_
    refine ab_icmp_ne X 117 d_MO_write_98 rfl (fun _ => ?_) (fun hb => absurd hb ((by decide)))
    refine ab_iload_n X 2 d_MO_write_117 rfl rfl ?_
    refine ab_iconst (v := 4) X d_MO_write_118 (by decide) ?_
    refine ab_icmp_ne X 136 d_MO_write_119 rfl (fun _ => ?_) (fun hb => absurd hb ((by decide)))
    refine ab_iload_n X 2 d_MO_write_136 rfl rfl ?_
    refine ab_iconst (v := 5) X d_MO_write_137 (by decide) ?_
    refine ab_icmp_ne X 155 d_MO_write_138 rfl (fun _ => ?_) (fun hb => absurd hb ((by decide)))
    refine ab_iload_n X 2 d_MO_write_155 rfl rfl ?_
    refine ab_bipush (v := 6) X d_MO_write_156 (by decide) ?_
    refine ab_icmp_ne X 175 d_MO_write_158 rfl (fun hb => absurd ((by decide)) hb) (fun _ => ?_)
    refine ab_aload_n X 3 d_MO_write_161 rfl rfl ?_
    refine ab_iload X 1 d_MO_write_162 rfl ?_
    refine ab_callS (as := [ab_I (nI (ch p1 0))]) X (fun h => by cases h) (t_MO_b u10 (ch p1 0)) ls_MO_204 d_MO_write_164 rfl rfl ⟨by first | exact Nat.le_of_ble_eq_true rfl | (simp only [ab_rm]; omega), by first | exact Nat.le_of_ble_eq_true rfl | (simp only [ab_rm]; omega)⟩ ⟨by first | exact Nat.le_of_ble_eq_true rfl | (simp only [ab_rm]; omega), by first | exact Nat.le_of_ble_eq_true rfl | (simp only [ab_rm]; omega)⟩ (Nat.le_of_ble_eq_true rfl) (fun u164 r164 h164 => ?_)
    obtain ⟨e164, rfl⟩ := h164
    subst u164
    refine ab_iload X 0 d_MO_write_167 rfl ?_
    refine ab_callS (as := [ab_I (nI (ch p1 1))]) X (fun h => by cases h) (t_MO_d u10 (ch p1 1)) ls_MO_195 d_MO_write_169 rfl rfl ⟨by first | exact Nat.le_of_ble_eq_true rfl | (simp only [ab_rm]; omega), by first | exact Nat.le_of_ble_eq_true rfl | (simp only [ab_rm]; omega)⟩ ⟨by first | exact Nat.le_of_ble_eq_true rfl | (simp only [ab_rm]; omega), by first | exact Nat.le_of_ble_eq_true rfl | (simp only [ab_rm]; omega)⟩ (Nat.le_of_ble_eq_true rfl) (fun u169 r169 h169 => ?_)
    obtain ⟨e169, rfl⟩ := h169
    subst u169
    refine ab_callV (as := [ab_I (nI (3 * ch p1 0)), ab_I (nI (3 * ch p1 1 + 1))]) X (fun h => by cases h) (x_MO_sayIf u10 u10 _ _ h10 (by omega) (3 * ch p1 0) (3 * ch p1 1 + 1) (Wq (ch p1 0) 0) (Wq (ch p1 1) 1) (by omega) (by omega) gx0 (by omega) (by omega) gy1 (by show 0 + _ + _ + 3 ≤ 100; omega)) lk_MO_251 d_MO_write_172 rfl rfl (by first | assumption | decide | (show _ < 124; omega) | (show _ < 61; omega) | (show _ < 20; omega)) ⟨by first | exact Nat.le_of_ble_eq_true rfl | (simp only [ab_rm]; omega), by first | exact Nat.le_of_ble_eq_true rfl | (simp only [ab_rm]; omega)⟩ ⟨by first | exact Nat.le_of_ble_eq_true rfl | (simp only [ab_rm]; omega), by first | exact Nat.le_of_ble_eq_true rfl | (simp only [ab_rm]; omega)⟩ (Nat.le_of_ble_eq_true rfl) (fun u172 r172 h172 => ?_)
    obtain ⟨q172, rfl⟩ := h172
    have P172 := q172.1
    refine ab_iload_n X 2 d_MO_write_175 rfl rfl ?_
    refine ab_bipush (v := 7) X d_MO_write_176 (by decide) ?_
    refine ab_icmp_ne X 186 d_MO_write_178 rfl (fun _ => ?_) (fun hb => absurd hb ((by decide)))
    refine ab_iload_n X 2 d_MO_write_186 rfl rfl ?_
    refine ab_bipush (v := 8) X d_MO_write_187 (by decide) ?_
    refine ab_icmp_ne X 228 d_MO_write_189 rfl (fun _ => ?_) (fun hb => absurd hb ((by decide)))
    refine ab_iload_n X 2 d_MO_write_228 rfl rfl ?_
    refine ab_bipush (v := 12) X d_MO_write_229 (by decide) ?_
    refine ab_icmp_le X 244 d_MO_write_231 rfl (fun _ => ?_) (fun hb => absurd ((by decide)) hb)
    exact ab_retv X hr0 hlk d_MO_write_244 ⟨ww.done P10 q172 (by rw [eW] <;> first | rfl | simp), rfl⟩
  ·
    have eW : wds kd ar cn 7 p1 (fun i => Wq (cp ch 7 p1 i) (cj cn 7 p1 i)) = asd (fun i => Wq (ch p1 i) 1) 8000 (cn p1) ++ [9000 + ar p1] := by
      show asd (fun i => Wq (ch p1 i) 1) (1000 * ck (kd p1)) (cn p1) ++ [9000 + ar p1] = _
      rw [kk]; rfl
    rw [eW] at hK
    refine ab_aload_n X 0 d_MO_write_0 rfl rfl ?_
    refine ab_bipush (v := 100) X d_MO_write_1 (by decide) ?_
    refine ab_iload_n X 2 d_MO_write_3 rfl rfl ?_
    refine ab_imul X d_MO_write_4 ?_
    refine ab_top (nI_100m _) ?_
    refine ab_putI X fp_MO_63 d_MO_write_5 (by first | assumption | decide | (show _ < 124; omega) | (show _ < 61; omega) | (show _ < 20; omega)) rfl rfl ?_
    refine ab_gen (fun u5 e5 => ?_)
    have P5 : gP [16, 17] u u5 := by rw [e5]; exact P0.ui rfl (by decide)
    refine ab_aload_n X 0 d_MO_write_8 rfl rfl ?_
    refine ab_iconst (v := 0) X d_MO_write_9 (by decide) ?_
    refine ab_putI X fp_MO_60 d_MO_write_10 (by first | assumption | decide | (show _ < 124; omega) | (show _ < 61; omega) | (show _ < 20; omega)) rfl rfl ?_
    refine ab_gen (fun u10 e10 => ?_)
    have P10 : gP [16, 17] u u10 := by rw [e10]; exact P5.ui rfl (by decide)
    have h10 : ww u10 u10 (100 * (3 * p1 + j)) [] := ⟨gP.rf P10.1, by rw [e10, e5]; simp [ab_up], by rw [e10]; simp [ab_up]; rfl, fun i hi => absurd hi (Nat.not_lt_zero i), fun _ _ => rfl⟩
    have T10 := T.fr P10 (by decide) (by decide) (by decide) (by decide) (by decide)
    have G10 : ∀ c, p1 < c → c < P → rg u10 (3 * c) (Wq c 0) ∧ rg u10 (3 * c + 1) (Wq c 1) ∧ rg u10 (3 * c + 2) (Wq c 2) := fun c x y => ⟨(G c x y).1.fr P10 (by decide) (by decide), (G c x y).2.1.fr P10 (by decide) (by decide), (G c x y).2.2.fr P10 (by decide) (by decide)⟩
    refine ab_aload_n X 0 d_MO_write_13 rfl rfl ?_
    refine ab_gR X fl_MO_45 d_MO_write_14 (by first | assumption | decide | (show _ < 124; omega) | (show _ < 61; omega) | (show _ < 20; omega)) (P10.1.mo11) ?_
    refine ab_iload_n X 2 d_MO_write_17 rfl rfl ?_
    refine ab_iald X (3 * p1 + j) ⟨rfl, rfl⟩ d_MO_write_18 (by first | assumption | decide | (show _ < 124; omega) | (show _ < 61; omega) | (show _ < 20; omega)) (rfl) (show 3 * p1 + j < 72 by omega) (ab_ln_lt _ _) ?_
    refine ab_top (P10.ai (by decide) ew) ?_
    refine ab_istore_n3 X 0 1 2 d_MO_write_19 rfl (by decide) rfl rfl rfl rfl rfl rfl ?_
    refine ab_aload_n X 1 d_MO_write_20 rfl rfl ?_
    refine ab_gR X fl_MO_42 d_MO_write_21 (by first | assumption | decide | (show _ < 124; omega) | (show _ < 61; omega) | (show _ < 20; omega)) (P10.1.mo10) ?_
    refine ab_iconst (v := 4) X d_MO_write_24 (by decide) ?_
    refine ab_iload_n X 2 d_MO_write_25 rfl rfl ?_
    refine ab_imul X d_MO_write_26 ?_
    refine ab_iald X (4 * p1) ⟨rfl, rfl⟩ d_MO_write_27 (by first | assumption | decide | (show _ < 124; omega) | (show _ < 61; omega) | (show _ < 20; omega)) (nI_4m p1) (show 4 * p1 < 160 by omega) (ab_ln_lt _ _) ?_
    refine ab_istore4 X 0 1 2 3 d_MO_write_28 (by decide) rfl rfl rfl rfl rfl rfl rfl rfl ?_
    refine ab_aload_n X 2 d_MO_write_30 rfl rfl ?_
    refine ab_gR X fl_MO_42 d_MO_write_31 (by first | assumption | decide | (show _ < 124; omega) | (show _ < 61; omega) | (show _ < 20; omega)) (P10.1.mo10) ?_
    refine ab_iconst (v := 4) X d_MO_write_34 (by decide) ?_
    refine ab_iload_n X 3 d_MO_write_35 rfl rfl ?_
    refine ab_imul X d_MO_write_36 ?_
    refine ab_iconst (v := 1) X d_MO_write_37 (by decide) ?_
    refine ab_iadd X d_MO_write_38 ?_
    refine ab_iald X (4 * p1 + 1) ⟨rfl, rfl⟩ d_MO_write_39 (by first | assumption | decide | (show _ < 124; omega) | (show _ < 61; omega) | (show _ < 20; omega)) (nI_4b p1) (show 4 * p1 + 1 < 160 by omega) (ab_ln_lt _ _) ?_
    refine ab_istore5 X 0 1 2 3 4 d_MO_write_40 (by decide) rfl rfl rfl rfl rfl rfl rfl rfl rfl rfl ?_
    refine ab_iload_n X 2 d_MO_write_42 rfl rfl ?_
    refine ab_iconst (v := 1) X d_MO_write_43 (by decide) ?_
    refine ab_icmp_eq X 59 d_MO_write_44 rfl (fun hb => absurd hb ((by decide))) (fun _ => ?_)
    refine ab_iload_n X 2 d_MO_write_47 rfl rfl ?_
    refine ab_bipush (v := 11) X d_MO_write_48 (by decide) ?_
    refine ab_icmp_eq X 59 d_MO_write_50 rfl (fun hb => absurd hb ((by decide))) (fun _ => ?_)
    refine ab_iload_n X 2 d_MO_write_53 rfl rfl ?_
    refine ab_bipush (v := 12) X d_MO_write_54 (by decide) ?_
    refine ab_icmp_ne X 75 d_MO_write_56 rfl (fun _ => ?_) (fun hb => absurd hb ((by decide)))
    refine ab_iload_n X 2 d_MO_write_75 rfl rfl ?_
    refine ab_iconst (v := 2) X d_MO_write_76 (by decide) ?_
    refine ab_icmp_ne X 96 d_MO_write_77 rfl (fun _ => ?_) (fun hb => absurd hb ((by decide)))
    refine ab_iload_n X 2 d_MO_write_96 rfl rfl ?_
    refine ab_iconst (v := 3) X d_MO_write_97 (by decide) ?_
    refine ab_icmp_ne X 117 d_MO_write_98 rfl (fun _ => ?_) (fun hb => absurd hb ((by decide)))
    refine ab_iload_n X 2 d_MO_write_117 rfl rfl ?_
    refine ab_iconst (v := 4) X d_MO_write_118 (by decide) ?_
    refine ab_icmp_ne X 136 d_MO_write_119 rfl (fun _ => ?_) (fun hb => absurd hb ((by decide)))
    refine ab_iload_n X 2 d_MO_write_136 rfl rfl ?_
    refine ab_iconst (v := 5) X d_MO_write_137 (by decide) ?_
    refine ab_icmp_ne X 155 d_MO_write_138 rfl (fun _ => ?_) (fun hb => absurd hb ((by decide)))
    refine ab_iload_n X 2 d_MO_write_155 rfl rfl ?_
    refine ab_bipush (v := 6) X d_MO_write_156 (by decide) ?_
    refine ab_icmp_ne X 175 d_MO_write_158 rfl (fun _ => ?_) (fun hb => absurd hb ((by decide)))
    refine ab_iload_n X 2 d_MO_write_175 rfl rfl ?_
    refine ab_bipush (v := 7) X d_MO_write_176 (by decide) ?_
    refine ab_icmp_ne X 186 d_MO_write_178 rfl (fun hb => absurd ((by decide)) hb) (fun _ => ?_)
    refine ab_aload_n X 3 d_MO_write_181 rfl rfl ?_
    refine ab_iload_n X 4 d_MO_write_182 rfl rfl ?_
    refine ab_callV (as := [ab_I (nI p1)]) X (fun h => by cases h) (x_MO_sayThreshold u10 u10 P kd ar cn lf ch W T10 p1 j Wq hp hj kk G10 (by rw [List.length_append] at hK; exact hK) h10) lk_MO_254 d_MO_write_183 rfl rfl (by first | assumption | decide | (show _ < 124; omega) | (show _ < 61; omega) | (show _ < 20; omega)) ⟨by first | exact Nat.le_of_ble_eq_true rfl | (simp only [ab_rm]; omega), by first | exact Nat.le_of_ble_eq_true rfl | (simp only [ab_rm]; omega)⟩ ⟨by first | exact Nat.le_of_ble_eq_true rfl | (simp only [ab_rm]; omega), by first | exact Nat.le_of_ble_eq_true rfl | (simp only [ab_rm]; omega)⟩ (Nat.le_of_ble_eq_true rfl) (fun u183 r183 h183 => ?_)
    obtain ⟨q183, rfl⟩ := h183
    have P183 := q183.1
    refine ab_iload_n X 2 d_MO_write_186 rfl rfl ?_
    refine ab_bipush (v := 8) X d_MO_write_187 (by decide) ?_
    refine ab_icmp_ne X 228 d_MO_write_189 rfl (fun _ => ?_) (fun hb => absurd hb ((by decide)))
    refine ab_iload_n X 2 d_MO_write_228 rfl rfl ?_
    refine ab_bipush (v := 12) X d_MO_write_229 (by decide) ?_
    refine ab_icmp_le X 244 d_MO_write_231 rfl (fun _ => ?_) (fun hb => absurd ((by decide)) hb)
    exact ab_retv X hr0 hlk d_MO_write_244 ⟨ww.done P10 q183 (by rw [eW] <;> first | rfl | simp), rfl⟩
  ·
    have eW : wds kd ar cn 8 p1 (fun i => Wq (cp ch 8 p1 i) (cj cn 8 p1 i)) = [12000] ++ Wq p1 0 ++ [13000] ++ [17000] ++ [14000] := rfl
    rw [eW] at hK
    simp only [List.length_append, List.length_cons, List.length_nil] at hK
    refine ab_aload_n X 0 d_MO_write_0 rfl rfl ?_
    refine ab_bipush (v := 100) X d_MO_write_1 (by decide) ?_
    refine ab_iload_n X 2 d_MO_write_3 rfl rfl ?_
    refine ab_imul X d_MO_write_4 ?_
    refine ab_top (nI_100m _) ?_
    refine ab_putI X fp_MO_63 d_MO_write_5 (by first | assumption | decide | (show _ < 124; omega) | (show _ < 61; omega) | (show _ < 20; omega)) rfl rfl ?_
    refine ab_gen (fun u5 e5 => ?_)
    have P5 : gP [16, 17] u u5 := by rw [e5]; exact P0.ui rfl (by decide)
    refine ab_aload_n X 0 d_MO_write_8 rfl rfl ?_
    refine ab_iconst (v := 0) X d_MO_write_9 (by decide) ?_
    refine ab_putI X fp_MO_60 d_MO_write_10 (by first | assumption | decide | (show _ < 124; omega) | (show _ < 61; omega) | (show _ < 20; omega)) rfl rfl ?_
    refine ab_gen (fun u10 e10 => ?_)
    have P10 : gP [16, 17] u u10 := by rw [e10]; exact P5.ui rfl (by decide)
    have h10 : ww u10 u10 (100 * (3 * p1 + j)) [] := ⟨gP.rf P10.1, by rw [e10, e5]; simp [ab_up], by rw [e10]; simp [ab_up]; rfl, fun i hi => absurd hi (Nat.not_lt_zero i), fun _ _ => rfl⟩
    have T10 := T.fr P10 (by decide) (by decide) (by decide) (by decide) (by decide)
    have G10 : ∀ c, p1 < c → c < P → rg u10 (3 * c) (Wq c 0) ∧ rg u10 (3 * c + 1) (Wq c 1) ∧ rg u10 (3 * c + 2) (Wq c 2) := fun c x y => ⟨(G c x y).1.fr P10 (by decide) (by decide), (G c x y).2.1.fr P10 (by decide) (by decide), (G c x y).2.2.fr P10 (by decide) (by decide)⟩
    refine ab_aload_n X 0 d_MO_write_13 rfl rfl ?_
    refine ab_gR X fl_MO_45 d_MO_write_14 (by first | assumption | decide | (show _ < 124; omega) | (show _ < 61; omega) | (show _ < 20; omega)) (P10.1.mo11) ?_
    refine ab_iload_n X 2 d_MO_write_17 rfl rfl ?_
    refine ab_iald X (3 * p1 + j) ⟨rfl, rfl⟩ d_MO_write_18 (by first | assumption | decide | (show _ < 124; omega) | (show _ < 61; omega) | (show _ < 20; omega)) (rfl) (show 3 * p1 + j < 72 by omega) (ab_ln_lt _ _) ?_
    refine ab_top (P10.ai (by decide) ew) ?_
    refine ab_istore_n3 X 0 1 2 d_MO_write_19 rfl (by decide) rfl rfl rfl rfl rfl rfl ?_
    refine ab_aload_n X 1 d_MO_write_20 rfl rfl ?_
    refine ab_gR X fl_MO_42 d_MO_write_21 (by first | assumption | decide | (show _ < 124; omega) | (show _ < 61; omega) | (show _ < 20; omega)) (P10.1.mo10) ?_
    refine ab_iconst (v := 4) X d_MO_write_24 (by decide) ?_
    refine ab_iload_n X 2 d_MO_write_25 rfl rfl ?_
    refine ab_imul X d_MO_write_26 ?_
    refine ab_iald X (4 * p1) ⟨rfl, rfl⟩ d_MO_write_27 (by first | assumption | decide | (show _ < 124; omega) | (show _ < 61; omega) | (show _ < 20; omega)) (nI_4m p1) (show 4 * p1 < 160 by omega) (ab_ln_lt _ _) ?_
    refine ab_istore4 X 0 1 2 3 d_MO_write_28 (by decide) rfl rfl rfl rfl rfl rfl rfl rfl ?_
    refine ab_aload_n X 2 d_MO_write_30 rfl rfl ?_
    refine ab_gR X fl_MO_42 d_MO_write_31 (by first | assumption | decide | (show _ < 124; omega) | (show _ < 61; omega) | (show _ < 20; omega)) (P10.1.mo10) ?_
    refine ab_iconst (v := 4) X d_MO_write_34 (by decide) ?_
    refine ab_iload_n X 3 d_MO_write_35 rfl rfl ?_
    refine ab_imul X d_MO_write_36 ?_
    refine ab_iconst (v := 1) X d_MO_write_37 (by decide) ?_
    refine ab_iadd X d_MO_write_38 ?_
    refine ab_iald X (4 * p1 + 1) ⟨rfl, rfl⟩ d_MO_write_39 (by first | assumption | decide | (show _ < 124; omega) | (show _ < 61; omega) | (show _ < 20; omega)) (nI_4b p1) (show 4 * p1 + 1 < 160 by omega) (ab_ln_lt _ _) ?_
    have gB := (hO (by omega)).fr P10 (by decide) (by decide)
    refine ab_istore5 X 0 1 2 3 4 d_MO_write_40 (by decide) rfl rfl rfl rfl rfl rfl rfl rfl rfl rfl ?_
    refine ab_iload_n X 2 d_MO_write_42 rfl rfl ?_
    refine ab_iconst (v := 1) X d_MO_write_43 (by decide) ?_
    refine ab_icmp_eq X 59 d_MO_write_44 rfl (fun hb => absurd hb ((by decide))) (fun _ => ?_)
    refine ab_iload_n X 2 d_MO_write_47 rfl rfl ?_
    refine ab_bipush (v := 11) X d_MO_write_48 (by decide) ?_
    refine ab_icmp_eq X 59 d_MO_write_50 rfl (fun hb => absurd hb ((by decide))) (fun _ => ?_)
    refine ab_iload_n X 2 d_MO_write_53 rfl rfl ?_
    refine ab_bipush (v := 12) X d_MO_write_54 (by decide) ?_
    refine ab_icmp_ne X 75 d_MO_write_56 rfl (fun _ => ?_) (fun hb => absurd hb ((by decide)))
    refine ab_iload_n X 2 d_MO_write_75 rfl rfl ?_
    refine ab_iconst (v := 2) X d_MO_write_76 (by decide) ?_
    refine ab_icmp_ne X 96 d_MO_write_77 rfl (fun _ => ?_) (fun hb => absurd hb ((by decide)))
    refine ab_iload_n X 2 d_MO_write_96 rfl rfl ?_
    refine ab_iconst (v := 3) X d_MO_write_97 (by decide) ?_
    refine ab_icmp_ne X 117 d_MO_write_98 rfl (fun _ => ?_) (fun hb => absurd hb ((by decide)))
    refine ab_iload_n X 2 d_MO_write_117 rfl rfl ?_
    refine ab_iconst (v := 4) X d_MO_write_118 (by decide) ?_
    refine ab_icmp_ne X 136 d_MO_write_119 rfl (fun _ => ?_) (fun hb => absurd hb ((by decide)))
    refine ab_iload_n X 2 d_MO_write_136 rfl rfl ?_
    refine ab_iconst (v := 5) X d_MO_write_137 (by decide) ?_
    refine ab_icmp_ne X 155 d_MO_write_138 rfl (fun _ => ?_) (fun hb => absurd hb ((by decide)))
    refine ab_iload_n X 2 d_MO_write_155 rfl rfl ?_
    refine ab_bipush (v := 6) X d_MO_write_156 (by decide) ?_
    refine ab_icmp_ne X 175 d_MO_write_158 rfl (fun _ => ?_) (fun hb => absurd hb ((by decide)))
    refine ab_iload_n X 2 d_MO_write_175 rfl rfl ?_
    refine ab_bipush (v := 7) X d_MO_write_176 (by decide) ?_
    refine ab_icmp_ne X 186 d_MO_write_178 rfl (fun _ => ?_) (fun hb => absurd hb ((by decide)))
    refine ab_iload_n X 2 d_MO_write_186 rfl rfl ?_
    refine ab_bipush (v := 8) X d_MO_write_187 (by decide) ?_
    refine ab_icmp_ne X 228 d_MO_write_189 rfl (fun hb => absurd ((by decide)) hb) (fun _ => ?_)
    refine ab_aload_n X 3 d_MO_write_192 rfl rfl ?_
    refine ab_bipush (v := 12) X d_MO_write_193 (by decide) ?_
    refine ab_iconst (v := 0) X d_MO_write_195 (by decide) ?_
    refine ab_callV (as := [ab_I (nI 12), ab_I (nI 0)]) X (fun h => by cases h) (x_MO_say u10 u10 _ _ h10 (by decide) (by omega) 12 0) lk_MO_242 d_MO_write_196 rfl rfl (by first | assumption | decide | (show _ < 124; omega) | (show _ < 61; omega) | (show _ < 20; omega)) ⟨by first | exact Nat.le_of_ble_eq_true rfl | (simp only [ab_rm]; omega), by first | exact Nat.le_of_ble_eq_true rfl | (simp only [ab_rm]; omega)⟩ ⟨by first | exact Nat.le_of_ble_eq_true rfl | (simp only [ab_rm]; omega), by first | exact Nat.le_of_ble_eq_true rfl | (simp only [ab_rm]; omega)⟩ (Nat.le_of_ble_eq_true rfl) (fun u196 r196 h196 => ?_)
    obtain ⟨q196, rfl⟩ := h196
    have P196 := q196.1
    refine ab_aload_n X 3 d_MO_write_199 rfl rfl ?_
    refine ab_iload_n X 4 d_MO_write_200 rfl rfl ?_
    refine ab_callS (as := [ab_I (nI p1)]) X (fun h => by cases h) (t_MO_b u196 p1) ls_MO_204 d_MO_write_201 rfl rfl ⟨by first | exact Nat.le_of_ble_eq_true rfl | (simp only [ab_rm]; omega), by first | exact Nat.le_of_ble_eq_true rfl | (simp only [ab_rm]; omega)⟩ ⟨by first | exact Nat.le_of_ble_eq_true rfl | (simp only [ab_rm]; omega), by first | exact Nat.le_of_ble_eq_true rfl | (simp only [ab_rm]; omega)⟩ (Nat.le_of_ble_eq_true rfl) (fun u201 r201 h201 => ?_)
    obtain ⟨e201, rfl⟩ := h201
    subst u201
    refine ab_callV (as := [ab_I (nI (3 * p1))]) X (fun h => by cases h) (x_MO_sayForm u10 u196 _ _ q196 (by omega) (3 * p1) (Wq p1 0) (by omega) (by omega) gB (by simp only [List.length_append, List.length_cons, List.length_nil]; omega)) lk_MO_239 d_MO_write_204 rfl rfl (by first | assumption | decide | (show _ < 124; omega) | (show _ < 61; omega) | (show _ < 20; omega)) ⟨by first | exact Nat.le_of_ble_eq_true rfl | (simp only [ab_rm]; omega), by first | exact Nat.le_of_ble_eq_true rfl | (simp only [ab_rm]; omega)⟩ ⟨by first | exact Nat.le_of_ble_eq_true rfl | (simp only [ab_rm]; omega), by first | exact Nat.le_of_ble_eq_true rfl | (simp only [ab_rm]; omega)⟩ (Nat.le_of_ble_eq_true rfl) (fun u204 r204 h204 => ?_)
    obtain ⟨q204, rfl⟩ := h204
    have P204 := q204.1
    refine ab_aload_n X 3 d_MO_write_207 rfl rfl ?_
    refine ab_bipush (v := 13) X d_MO_write_208 (by decide) ?_
    refine ab_iconst (v := 0) X d_MO_write_210 (by decide) ?_
    refine ab_callV (as := [ab_I (nI 13), ab_I (nI 0)]) X (fun h => by cases h) (x_MO_say u10 u204 _ _ q204 (by simp only [List.length_append, List.length_cons, List.length_nil]; omega) (by omega) 13 0) lk_MO_242 d_MO_write_211 rfl rfl (by first | assumption | decide | (show _ < 124; omega) | (show _ < 61; omega) | (show _ < 20; omega)) ⟨by first | exact Nat.le_of_ble_eq_true rfl | (simp only [ab_rm]; omega), by first | exact Nat.le_of_ble_eq_true rfl | (simp only [ab_rm]; omega)⟩ ⟨by first | exact Nat.le_of_ble_eq_true rfl | (simp only [ab_rm]; omega), by first | exact Nat.le_of_ble_eq_true rfl | (simp only [ab_rm]; omega)⟩ (Nat.le_of_ble_eq_true rfl) (fun u211 r211 h211 => ?_)
    obtain ⟨q211, rfl⟩ := h211
    have P211 := q211.1
    refine ab_aload_n X 3 d_MO_write_214 rfl rfl ?_
    refine ab_bipush (v := 17) X d_MO_write_215 (by decide) ?_
    refine ab_iconst (v := 0) X d_MO_write_217 (by decide) ?_
    refine ab_callV (as := [ab_I (nI 17), ab_I (nI 0)]) X (fun h => by cases h) (x_MO_say u10 u211 _ _ q211 (by simp only [List.length_append, List.length_cons, List.length_nil]; omega) (by omega) 17 0) lk_MO_242 d_MO_write_218 rfl rfl (by first | assumption | decide | (show _ < 124; omega) | (show _ < 61; omega) | (show _ < 20; omega)) ⟨by first | exact Nat.le_of_ble_eq_true rfl | (simp only [ab_rm]; omega), by first | exact Nat.le_of_ble_eq_true rfl | (simp only [ab_rm]; omega)⟩ ⟨by first | exact Nat.le_of_ble_eq_true rfl | (simp only [ab_rm]; omega), by first | exact Nat.le_of_ble_eq_true rfl | (simp only [ab_rm]; omega)⟩ (Nat.le_of_ble_eq_true rfl) (fun u218 r218 h218 => ?_)
    obtain ⟨q218, rfl⟩ := h218
    have P218 := q218.1
    refine ab_aload_n X 3 d_MO_write_221 rfl rfl ?_
    refine ab_bipush (v := 14) X d_MO_write_222 (by decide) ?_
    refine ab_iconst (v := 0) X d_MO_write_224 (by decide) ?_
    refine ab_callV (as := [ab_I (nI 14), ab_I (nI 0)]) X (fun h => by cases h) (x_MO_say u10 u218 _ _ q218 (by simp only [List.length_append, List.length_cons, List.length_nil]; omega) (by omega) 14 0) lk_MO_242 d_MO_write_225 rfl rfl (by first | assumption | decide | (show _ < 124; omega) | (show _ < 61; omega) | (show _ < 20; omega)) ⟨by first | exact Nat.le_of_ble_eq_true rfl | (simp only [ab_rm]; omega), by first | exact Nat.le_of_ble_eq_true rfl | (simp only [ab_rm]; omega)⟩ ⟨by first | exact Nat.le_of_ble_eq_true rfl | (simp only [ab_rm]; omega), by first | exact Nat.le_of_ble_eq_true rfl | (simp only [ab_rm]; omega)⟩ (Nat.le_of_ble_eq_true rfl) (fun u225 r225 h225 => ?_)
    obtain ⟨q225, rfl⟩ := h225
    have P225 := q225.1
    refine ab_iload_n X 2 d_MO_write_228 rfl rfl ?_
    refine ab_bipush (v := 12) X d_MO_write_229 (by decide) ?_
    refine ab_icmp_le X 244 d_MO_write_231 rfl (fun _ => ?_) (fun hb => absurd ((by decide)) hb)
    exact ab_retv X hr0 hlk d_MO_write_244 ⟨ww.done P10 q225 (by rw [eW] <;> first | rfl | simp), rfl⟩
  ·
    have eW : wds kd ar cn 11 p1 (fun i => Wq (cp ch 11 p1 i) (cj cn 11 p1 i)) = [1000 * kd p1 + ar p1] := rfl
    rw [eW] at hK
    refine ab_aload_n X 0 d_MO_write_0 rfl rfl ?_
    refine ab_bipush (v := 100) X d_MO_write_1 (by decide) ?_
    refine ab_iload_n X 2 d_MO_write_3 rfl rfl ?_
    refine ab_imul X d_MO_write_4 ?_
    refine ab_top (nI_100m _) ?_
    refine ab_putI X fp_MO_63 d_MO_write_5 (by first | assumption | decide | (show _ < 124; omega) | (show _ < 61; omega) | (show _ < 20; omega)) rfl rfl ?_
    refine ab_gen (fun u5 e5 => ?_)
    have P5 : gP [16, 17] u u5 := by rw [e5]; exact P0.ui rfl (by decide)
    refine ab_aload_n X 0 d_MO_write_8 rfl rfl ?_
    refine ab_iconst (v := 0) X d_MO_write_9 (by decide) ?_
    refine ab_putI X fp_MO_60 d_MO_write_10 (by first | assumption | decide | (show _ < 124; omega) | (show _ < 61; omega) | (show _ < 20; omega)) rfl rfl ?_
    refine ab_gen (fun u10 e10 => ?_)
    have P10 : gP [16, 17] u u10 := by rw [e10]; exact P5.ui rfl (by decide)
    have h10 : ww u10 u10 (100 * (3 * p1 + j)) [] := ⟨gP.rf P10.1, by rw [e10, e5]; simp [ab_up], by rw [e10]; simp [ab_up]; rfl, fun i hi => absurd hi (Nat.not_lt_zero i), fun _ _ => rfl⟩
    have T10 := T.fr P10 (by decide) (by decide) (by decide) (by decide) (by decide)
    have G10 : ∀ c, p1 < c → c < P → rg u10 (3 * c) (Wq c 0) ∧ rg u10 (3 * c + 1) (Wq c 1) ∧ rg u10 (3 * c + 2) (Wq c 2) := fun c x y => ⟨(G c x y).1.fr P10 (by decide) (by decide), (G c x y).2.1.fr P10 (by decide) (by decide), (G c x y).2.2.fr P10 (by decide) (by decide)⟩
    refine ab_aload_n X 0 d_MO_write_13 rfl rfl ?_
    refine ab_gR X fl_MO_45 d_MO_write_14 (by first | assumption | decide | (show _ < 124; omega) | (show _ < 61; omega) | (show _ < 20; omega)) (P10.1.mo11) ?_
    refine ab_iload_n X 2 d_MO_write_17 rfl rfl ?_
    refine ab_iald X (3 * p1 + j) ⟨rfl, rfl⟩ d_MO_write_18 (by first | assumption | decide | (show _ < 124; omega) | (show _ < 61; omega) | (show _ < 20; omega)) (rfl) (show 3 * p1 + j < 72 by omega) (ab_ln_lt _ _) ?_
    refine ab_top (P10.ai (by decide) ew) ?_
    refine ab_istore_n3 X 0 1 2 d_MO_write_19 rfl (by decide) rfl rfl rfl rfl rfl rfl ?_
    refine ab_aload_n X 1 d_MO_write_20 rfl rfl ?_
    refine ab_gR X fl_MO_42 d_MO_write_21 (by first | assumption | decide | (show _ < 124; omega) | (show _ < 61; omega) | (show _ < 20; omega)) (P10.1.mo10) ?_
    refine ab_iconst (v := 4) X d_MO_write_24 (by decide) ?_
    refine ab_iload_n X 2 d_MO_write_25 rfl rfl ?_
    refine ab_imul X d_MO_write_26 ?_
    refine ab_iald X (4 * p1) ⟨rfl, rfl⟩ d_MO_write_27 (by first | assumption | decide | (show _ < 124; omega) | (show _ < 61; omega) | (show _ < 20; omega)) (nI_4m p1) (show 4 * p1 < 160 by omega) (ab_ln_lt _ _) ?_
    refine ab_istore4 X 0 1 2 3 d_MO_write_28 (by decide) rfl rfl rfl rfl rfl rfl rfl rfl ?_
    refine ab_aload_n X 2 d_MO_write_30 rfl rfl ?_
    refine ab_gR X fl_MO_42 d_MO_write_31 (by first | assumption | decide | (show _ < 124; omega) | (show _ < 61; omega) | (show _ < 20; omega)) (P10.1.mo10) ?_
    refine ab_iconst (v := 4) X d_MO_write_34 (by decide) ?_
    refine ab_iload_n X 3 d_MO_write_35 rfl rfl ?_
    refine ab_imul X d_MO_write_36 ?_
    refine ab_iconst (v := 1) X d_MO_write_37 (by decide) ?_
    refine ab_iadd X d_MO_write_38 ?_
    refine ab_iald X (4 * p1 + 1) ⟨rfl, rfl⟩ d_MO_write_39 (by first | assumption | decide | (show _ < 124; omega) | (show _ < 61; omega) | (show _ < 20; omega)) (nI_4b p1) (show 4 * p1 + 1 < 160 by omega) (ab_ln_lt _ _) ?_
    refine ab_istore5 X 0 1 2 3 4 d_MO_write_40 (by decide) rfl rfl rfl rfl rfl rfl rfl rfl rfl rfl ?_
    refine ab_iload_n X 2 d_MO_write_42 rfl rfl ?_
    refine ab_iconst (v := 1) X d_MO_write_43 (by decide) ?_
    refine ab_icmp_eq X 59 d_MO_write_44 rfl (fun hb => absurd hb ((by decide))) (fun _ => ?_)
    refine ab_iload_n X 2 d_MO_write_47 rfl rfl ?_
    refine ab_bipush (v := 11) X d_MO_write_48 (by decide) ?_
    refine ab_icmp_eq X 59 d_MO_write_50 rfl (fun _ => ?_) (fun hb => absurd ((by decide)) hb)
    refine ab_aload_n X 3 d_MO_write_59 rfl rfl ?_
    refine ab_aload_n X 3 d_MO_write_60 rfl rfl ?_
    refine ab_gR X fl_MO_33 d_MO_write_61 (by first | assumption | decide | (show _ < 124; omega) | (show _ < 61; omega) | (show _ < 20; omega)) (P10.1.mo7) ?_
    refine ab_iload_n X 4 d_MO_write_64 rfl rfl ?_
    refine ab_iald X (p1) ⟨rfl, rfl⟩ d_MO_write_65 (by first | assumption | decide | (show _ < 124; omega) | (show _ < 61; omega) | (show _ < 20; omega)) (rfl) (show p1 < 40 by omega) (ab_ln_lt _ _) ?_
    refine ab_top (P10.ai (by decide) ek) ?_
    refine ab_aload_n X 3 d_MO_write_66 rfl rfl ?_
    refine ab_gR X fl_MO_36 d_MO_write_67 (by first | assumption | decide | (show _ < 124; omega) | (show _ < 61; omega) | (show _ < 20; omega)) (P10.1.mo8) ?_
    refine ab_iload_n X 4 d_MO_write_70 rfl rfl ?_
    refine ab_iald X (p1) ⟨rfl, rfl⟩ d_MO_write_71 (by first | assumption | decide | (show _ < 124; omega) | (show _ < 61; omega) | (show _ < 20; omega)) (rfl) (show p1 < 40 by omega) (ab_ln_lt _ _) ?_
    refine ab_top (P10.ai (by decide) ea) ?_
    refine ab_callV (as := [ab_I (nI (kd p1)), ab_I (nI (ar p1))]) X (fun h => by cases h) (x_MO_say u10 u10 _ _ h10 (by decide) (by omega) (kd p1) (ar p1)) lk_MO_242 d_MO_write_72 rfl rfl (by first | assumption | decide | (show _ < 124; omega) | (show _ < 61; omega) | (show _ < 20; omega)) ⟨by first | exact Nat.le_of_ble_eq_true rfl | (simp only [ab_rm]; omega), by first | exact Nat.le_of_ble_eq_true rfl | (simp only [ab_rm]; omega)⟩ ⟨by first | exact Nat.le_of_ble_eq_true rfl | (simp only [ab_rm]; omega), by first | exact Nat.le_of_ble_eq_true rfl | (simp only [ab_rm]; omega)⟩ (Nat.le_of_ble_eq_true rfl) (fun u72 r72 h72 => ?_)
    obtain ⟨q72, rfl⟩ := h72
    have P72 := q72.1
    refine ab_iload_n X 2 d_MO_write_75 rfl rfl ?_
    refine ab_iconst (v := 2) X d_MO_write_76 (by decide) ?_
    refine ab_icmp_ne X 96 d_MO_write_77 rfl (fun _ => ?_) (fun hb => absurd hb ((by decide)))
    refine ab_iload_n X 2 d_MO_write_96 rfl rfl ?_
    refine ab_iconst (v := 3) X d_MO_write_97 (by decide) ?_
    refine ab_icmp_ne X 117 d_MO_write_98 rfl (fun _ => ?_) (fun hb => absurd hb ((by decide)))
    refine ab_iload_n X 2 d_MO_write_117 rfl rfl ?_
    refine ab_iconst (v := 4) X d_MO_write_118 (by decide) ?_
    refine ab_icmp_ne X 136 d_MO_write_119 rfl (fun _ => ?_) (fun hb => absurd hb ((by decide)))
    refine ab_iload_n X 2 d_MO_write_136 rfl rfl ?_
    refine ab_iconst (v := 5) X d_MO_write_137 (by decide) ?_
    refine ab_icmp_ne X 155 d_MO_write_138 rfl (fun _ => ?_) (fun hb => absurd hb ((by decide)))
    refine ab_iload_n X 2 d_MO_write_155 rfl rfl ?_
    refine ab_bipush (v := 6) X d_MO_write_156 (by decide) ?_
    refine ab_icmp_ne X 175 d_MO_write_158 rfl (fun _ => ?_) (fun hb => absurd hb ((by decide)))
    refine ab_iload_n X 2 d_MO_write_175 rfl rfl ?_
    refine ab_bipush (v := 7) X d_MO_write_176 (by decide) ?_
    refine ab_icmp_ne X 186 d_MO_write_178 rfl (fun _ => ?_) (fun hb => absurd hb ((by decide)))
    refine ab_iload_n X 2 d_MO_write_186 rfl rfl ?_
    refine ab_bipush (v := 8) X d_MO_write_187 (by decide) ?_
    refine ab_icmp_ne X 228 d_MO_write_189 rfl (fun _ => ?_) (fun hb => absurd hb ((by decide)))
    refine ab_iload_n X 2 d_MO_write_228 rfl rfl ?_
    refine ab_bipush (v := 12) X d_MO_write_229 (by decide) ?_
    refine ab_icmp_le X 244 d_MO_write_231 rfl (fun _ => ?_) (fun hb => absurd ((by decide)) hb)
    exact ab_retv X hr0 hlk d_MO_write_244 ⟨ww.done P10 q72 (by rw [eW] <;> first | rfl | simp), rfl⟩
  ·
    have eW : wds kd ar cn 12 p1 (fun i => Wq (cp ch 12 p1 i) (cj cn 12 p1 i)) = [1000 * kd p1 + ar p1] := rfl
    rw [eW] at hK
    refine ab_aload_n X 0 d_MO_write_0 rfl rfl ?_
    refine ab_bipush (v := 100) X d_MO_write_1 (by decide) ?_
    refine ab_iload_n X 2 d_MO_write_3 rfl rfl ?_
    refine ab_imul X d_MO_write_4 ?_
    refine ab_top (nI_100m _) ?_
    refine ab_putI X fp_MO_63 d_MO_write_5 (by first | assumption | decide | (show _ < 124; omega) | (show _ < 61; omega) | (show _ < 20; omega)) rfl rfl ?_
    refine ab_gen (fun u5 e5 => ?_)
    have P5 : gP [16, 17] u u5 := by rw [e5]; exact P0.ui rfl (by decide)
    refine ab_aload_n X 0 d_MO_write_8 rfl rfl ?_
    refine ab_iconst (v := 0) X d_MO_write_9 (by decide) ?_
    refine ab_putI X fp_MO_60 d_MO_write_10 (by first | assumption | decide | (show _ < 124; omega) | (show _ < 61; omega) | (show _ < 20; omega)) rfl rfl ?_
    refine ab_gen (fun u10 e10 => ?_)
    have P10 : gP [16, 17] u u10 := by rw [e10]; exact P5.ui rfl (by decide)
    have h10 : ww u10 u10 (100 * (3 * p1 + j)) [] := ⟨gP.rf P10.1, by rw [e10, e5]; simp [ab_up], by rw [e10]; simp [ab_up]; rfl, fun i hi => absurd hi (Nat.not_lt_zero i), fun _ _ => rfl⟩
    have T10 := T.fr P10 (by decide) (by decide) (by decide) (by decide) (by decide)
    have G10 : ∀ c, p1 < c → c < P → rg u10 (3 * c) (Wq c 0) ∧ rg u10 (3 * c + 1) (Wq c 1) ∧ rg u10 (3 * c + 2) (Wq c 2) := fun c x y => ⟨(G c x y).1.fr P10 (by decide) (by decide), (G c x y).2.1.fr P10 (by decide) (by decide), (G c x y).2.2.fr P10 (by decide) (by decide)⟩
    refine ab_aload_n X 0 d_MO_write_13 rfl rfl ?_
    refine ab_gR X fl_MO_45 d_MO_write_14 (by first | assumption | decide | (show _ < 124; omega) | (show _ < 61; omega) | (show _ < 20; omega)) (P10.1.mo11) ?_
    refine ab_iload_n X 2 d_MO_write_17 rfl rfl ?_
    refine ab_iald X (3 * p1 + j) ⟨rfl, rfl⟩ d_MO_write_18 (by first | assumption | decide | (show _ < 124; omega) | (show _ < 61; omega) | (show _ < 20; omega)) (rfl) (show 3 * p1 + j < 72 by omega) (ab_ln_lt _ _) ?_
    refine ab_top (P10.ai (by decide) ew) ?_
    refine ab_istore_n3 X 0 1 2 d_MO_write_19 rfl (by decide) rfl rfl rfl rfl rfl rfl ?_
    refine ab_aload_n X 1 d_MO_write_20 rfl rfl ?_
    refine ab_gR X fl_MO_42 d_MO_write_21 (by first | assumption | decide | (show _ < 124; omega) | (show _ < 61; omega) | (show _ < 20; omega)) (P10.1.mo10) ?_
    refine ab_iconst (v := 4) X d_MO_write_24 (by decide) ?_
    refine ab_iload_n X 2 d_MO_write_25 rfl rfl ?_
    refine ab_imul X d_MO_write_26 ?_
    refine ab_iald X (4 * p1) ⟨rfl, rfl⟩ d_MO_write_27 (by first | assumption | decide | (show _ < 124; omega) | (show _ < 61; omega) | (show _ < 20; omega)) (nI_4m p1) (show 4 * p1 < 160 by omega) (ab_ln_lt _ _) ?_
    refine ab_istore4 X 0 1 2 3 d_MO_write_28 (by decide) rfl rfl rfl rfl rfl rfl rfl rfl ?_
    refine ab_aload_n X 2 d_MO_write_30 rfl rfl ?_
    refine ab_gR X fl_MO_42 d_MO_write_31 (by first | assumption | decide | (show _ < 124; omega) | (show _ < 61; omega) | (show _ < 20; omega)) (P10.1.mo10) ?_
    refine ab_iconst (v := 4) X d_MO_write_34 (by decide) ?_
    refine ab_iload_n X 3 d_MO_write_35 rfl rfl ?_
    refine ab_imul X d_MO_write_36 ?_
    refine ab_iconst (v := 1) X d_MO_write_37 (by decide) ?_
    refine ab_iadd X d_MO_write_38 ?_
    refine ab_iald X (4 * p1 + 1) ⟨rfl, rfl⟩ d_MO_write_39 (by first | assumption | decide | (show _ < 124; omega) | (show _ < 61; omega) | (show _ < 20; omega)) (nI_4b p1) (show 4 * p1 + 1 < 160 by omega) (ab_ln_lt _ _) ?_
    refine ab_istore5 X 0 1 2 3 4 d_MO_write_40 (by decide) rfl rfl rfl rfl rfl rfl rfl rfl rfl rfl ?_
    refine ab_iload_n X 2 d_MO_write_42 rfl rfl ?_
    refine ab_iconst (v := 1) X d_MO_write_43 (by decide) ?_
    refine ab_icmp_eq X 59 d_MO_write_44 rfl (fun hb => absurd hb ((by decide))) (fun _ => ?_)
    refine ab_iload_n X 2 d_MO_write_47 rfl rfl ?_
    refine ab_bipush (v := 11) X d_MO_write_48 (by decide) ?_
    refine ab_icmp_eq X 59 d_MO_write_50 rfl (fun hb => absurd hb ((by decide))) (fun _ => ?_)
    refine ab_iload_n X 2 d_MO_write_53 rfl rfl ?_
    refine ab_bipush (v := 12) X d_MO_write_54 (by decide) ?_
    refine ab_icmp_ne X 75 d_MO_write_56 rfl (fun hb => absurd ((by decide)) hb) (fun _ => ?_)
    refine ab_aload_n X 3 d_MO_write_59 rfl rfl ?_
    refine ab_aload_n X 3 d_MO_write_60 rfl rfl ?_
    refine ab_gR X fl_MO_33 d_MO_write_61 (by first | assumption | decide | (show _ < 124; omega) | (show _ < 61; omega) | (show _ < 20; omega)) (P10.1.mo7) ?_
    refine ab_iload_n X 4 d_MO_write_64 rfl rfl ?_
    refine ab_iald X (p1) ⟨rfl, rfl⟩ d_MO_write_65 (by first | assumption | decide | (show _ < 124; omega) | (show _ < 61; omega) | (show _ < 20; omega)) (rfl) (show p1 < 40 by omega) (ab_ln_lt _ _) ?_
    refine ab_top (P10.ai (by decide) ek) ?_
    refine ab_aload_n X 3 d_MO_write_66 rfl rfl ?_
    refine ab_gR X fl_MO_36 d_MO_write_67 (by first | assumption | decide | (show _ < 124; omega) | (show _ < 61; omega) | (show _ < 20; omega)) (P10.1.mo8) ?_
    refine ab_iload_n X 4 d_MO_write_70 rfl rfl ?_
    refine ab_iald X (p1) ⟨rfl, rfl⟩ d_MO_write_71 (by first | assumption | decide | (show _ < 124; omega) | (show _ < 61; omega) | (show _ < 20; omega)) (rfl) (show p1 < 40 by omega) (ab_ln_lt _ _) ?_
    refine ab_top (P10.ai (by decide) ea) ?_
    refine ab_callV (as := [ab_I (nI (kd p1)), ab_I (nI (ar p1))]) X (fun h => by cases h) (x_MO_say u10 u10 _ _ h10 (by decide) (by omega) (kd p1) (ar p1)) lk_MO_242 d_MO_write_72 rfl rfl (by first | assumption | decide | (show _ < 124; omega) | (show _ < 61; omega) | (show _ < 20; omega)) ⟨by first | exact Nat.le_of_ble_eq_true rfl | (simp only [ab_rm]; omega), by first | exact Nat.le_of_ble_eq_true rfl | (simp only [ab_rm]; omega)⟩ ⟨by first | exact Nat.le_of_ble_eq_true rfl | (simp only [ab_rm]; omega), by first | exact Nat.le_of_ble_eq_true rfl | (simp only [ab_rm]; omega)⟩ (Nat.le_of_ble_eq_true rfl) (fun u72 r72 h72 => ?_)
    obtain ⟨q72, rfl⟩ := h72
    have P72 := q72.1
    refine ab_iload_n X 2 d_MO_write_75 rfl rfl ?_
    refine ab_iconst (v := 2) X d_MO_write_76 (by decide) ?_
    refine ab_icmp_ne X 96 d_MO_write_77 rfl (fun _ => ?_) (fun hb => absurd hb ((by decide)))
    refine ab_iload_n X 2 d_MO_write_96 rfl rfl ?_
    refine ab_iconst (v := 3) X d_MO_write_97 (by decide) ?_
    refine ab_icmp_ne X 117 d_MO_write_98 rfl (fun _ => ?_) (fun hb => absurd hb ((by decide)))
    refine ab_iload_n X 2 d_MO_write_117 rfl rfl ?_
    refine ab_iconst (v := 4) X d_MO_write_118 (by decide) ?_
    refine ab_icmp_ne X 136 d_MO_write_119 rfl (fun _ => ?_) (fun hb => absurd hb ((by decide)))
    refine ab_iload_n X 2 d_MO_write_136 rfl rfl ?_
    refine ab_iconst (v := 5) X d_MO_write_137 (by decide) ?_
    refine ab_icmp_ne X 155 d_MO_write_138 rfl (fun _ => ?_) (fun hb => absurd hb ((by decide)))
    refine ab_iload_n X 2 d_MO_write_155 rfl rfl ?_
    refine ab_bipush (v := 6) X d_MO_write_156 (by decide) ?_
    refine ab_icmp_ne X 175 d_MO_write_158 rfl (fun _ => ?_) (fun hb => absurd hb ((by decide)))
    refine ab_iload_n X 2 d_MO_write_175 rfl rfl ?_
    refine ab_bipush (v := 7) X d_MO_write_176 (by decide) ?_
    refine ab_icmp_ne X 186 d_MO_write_178 rfl (fun _ => ?_) (fun hb => absurd hb ((by decide)))
    refine ab_iload_n X 2 d_MO_write_186 rfl rfl ?_
    refine ab_bipush (v := 8) X d_MO_write_187 (by decide) ?_
    refine ab_icmp_ne X 228 d_MO_write_189 rfl (fun _ => ?_) (fun hb => absurd hb ((by decide)))
    refine ab_iload_n X 2 d_MO_write_228 rfl rfl ?_
    refine ab_bipush (v := 12) X d_MO_write_229 (by decide) ?_
    refine ab_icmp_le X 244 d_MO_write_231 rfl (fun _ => ?_) (fun hb => absurd ((by decide)) hb)
    exact ab_retv X hr0 hlk d_MO_write_244 ⟨ww.done P10 q72 (by rw [eW] <;> first | rfl | simp), rfl⟩
  ·
    have eW : wds kd ar cn 13 p1 (fun i => Wq (cp ch 13 p1 i) (cj cn 13 p1 i)) = (Wq (ch p1 0) 2) ++ (Wq (ch p1 1) 0) := cat_2 _
    rw [eW] at hK
    simp only [List.length_append, List.length_cons, List.length_nil] at hK
    obtain ⟨x, y, ex, ey, x1, x2, y1, y2, l0, l1, l2, rfl, rfl⟩ := W.two T hp (by omega)
    refine ab_aload_n X 0 d_MO_write_0 rfl rfl ?_
    refine ab_bipush (v := 100) X d_MO_write_1 (by decide) ?_
    refine ab_iload_n X 2 d_MO_write_3 rfl rfl ?_
    refine ab_imul X d_MO_write_4 ?_
    refine ab_top (nI_100m _) ?_
    refine ab_putI X fp_MO_63 d_MO_write_5 (by first | assumption | decide | (show _ < 124; omega) | (show _ < 61; omega) | (show _ < 20; omega)) rfl rfl ?_
    refine ab_gen (fun u5 e5 => ?_)
    have P5 : gP [16, 17] u u5 := by rw [e5]; exact P0.ui rfl (by decide)
    refine ab_aload_n X 0 d_MO_write_8 rfl rfl ?_
    refine ab_iconst (v := 0) X d_MO_write_9 (by decide) ?_
    refine ab_putI X fp_MO_60 d_MO_write_10 (by first | assumption | decide | (show _ < 124; omega) | (show _ < 61; omega) | (show _ < 20; omega)) rfl rfl ?_
    refine ab_gen (fun u10 e10 => ?_)
    have P10 : gP [16, 17] u u10 := by rw [e10]; exact P5.ui rfl (by decide)
    have h10 : ww u10 u10 (100 * (3 * p1 + j)) [] := ⟨gP.rf P10.1, by rw [e10, e5]; simp [ab_up], by rw [e10]; simp [ab_up]; rfl, fun i hi => absurd hi (Nat.not_lt_zero i), fun _ _ => rfl⟩
    have T10 := T.fr P10 (by decide) (by decide) (by decide) (by decide) (by decide)
    have G10 : ∀ c, p1 < c → c < P → rg u10 (3 * c) (Wq c 0) ∧ rg u10 (3 * c + 1) (Wq c 1) ∧ rg u10 (3 * c + 2) (Wq c 2) := fun c x y => ⟨(G c x y).1.fr P10 (by decide) (by decide), (G c x y).2.1.fr P10 (by decide) (by decide), (G c x y).2.2.fr P10 (by decide) (by decide)⟩
    refine ab_aload_n X 0 d_MO_write_13 rfl rfl ?_
    refine ab_gR X fl_MO_45 d_MO_write_14 (by first | assumption | decide | (show _ < 124; omega) | (show _ < 61; omega) | (show _ < 20; omega)) (P10.1.mo11) ?_
    refine ab_iload_n X 2 d_MO_write_17 rfl rfl ?_
    refine ab_iald X (3 * p1 + j) ⟨rfl, rfl⟩ d_MO_write_18 (by first | assumption | decide | (show _ < 124; omega) | (show _ < 61; omega) | (show _ < 20; omega)) (rfl) (show 3 * p1 + j < 72 by omega) (ab_ln_lt _ _) ?_
    refine ab_top (P10.ai (by decide) ew) ?_
    refine ab_istore_n3 X 0 1 2 d_MO_write_19 rfl (by decide) rfl rfl rfl rfl rfl rfl ?_
    refine ab_aload_n X 1 d_MO_write_20 rfl rfl ?_
    refine ab_gR X fl_MO_42 d_MO_write_21 (by first | assumption | decide | (show _ < 124; omega) | (show _ < 61; omega) | (show _ < 20; omega)) (P10.1.mo10) ?_
    refine ab_iconst (v := 4) X d_MO_write_24 (by decide) ?_
    refine ab_iload_n X 2 d_MO_write_25 rfl rfl ?_
    refine ab_imul X d_MO_write_26 ?_
    refine ab_iald X (4 * p1) ⟨rfl, rfl⟩ d_MO_write_27 (by first | assumption | decide | (show _ < 124; omega) | (show _ < 61; omega) | (show _ < 20; omega)) (nI_4m p1) (show 4 * p1 < 160 by omega) (ab_ln_lt _ _) ?_
    refine ab_top (P10.ai (by decide) ex) ?_
    refine ab_istore4 X 0 1 2 3 d_MO_write_28 (by decide) rfl rfl rfl rfl rfl rfl rfl rfl ?_
    refine ab_aload_n X 2 d_MO_write_30 rfl rfl ?_
    refine ab_gR X fl_MO_42 d_MO_write_31 (by first | assumption | decide | (show _ < 124; omega) | (show _ < 61; omega) | (show _ < 20; omega)) (P10.1.mo10) ?_
    refine ab_iconst (v := 4) X d_MO_write_34 (by decide) ?_
    refine ab_iload_n X 3 d_MO_write_35 rfl rfl ?_
    refine ab_imul X d_MO_write_36 ?_
    refine ab_iconst (v := 1) X d_MO_write_37 (by decide) ?_
    refine ab_iadd X d_MO_write_38 ?_
    refine ab_iald X (4 * p1 + 1) ⟨rfl, rfl⟩ d_MO_write_39 (by first | assumption | decide | (show _ < 124; omega) | (show _ < 61; omega) | (show _ < 20; omega)) (nI_4b p1) (show 4 * p1 + 1 < 160 by omega) (ab_ln_lt _ _) ?_
    refine ab_top (P10.ai (by decide) ey) ?_
    obtain ⟨gx0, gx1, gx2⟩ := G10 _ x1 x2
    obtain ⟨gy0, gy1, gy2⟩ := G10 _ y1 y2
    refine ab_istore5 X 0 1 2 3 4 d_MO_write_40 (by decide) rfl rfl rfl rfl rfl rfl rfl rfl rfl rfl ?_
    refine ab_iload_n X 2 d_MO_write_42 rfl rfl ?_
    refine ab_iconst (v := 1) X d_MO_write_43 (by decide) ?_
    refine ab_icmp_eq X 59 d_MO_write_44 rfl (fun hb => absurd hb ((by decide))) (fun _ => ?_)
    refine ab_iload_n X 2 d_MO_write_47 rfl rfl ?_
    refine ab_bipush (v := 11) X d_MO_write_48 (by decide) ?_
    refine ab_icmp_eq X 59 d_MO_write_50 rfl (fun hb => absurd hb ((by decide))) (fun _ => ?_)
    refine ab_iload_n X 2 d_MO_write_53 rfl rfl ?_
    refine ab_bipush (v := 12) X d_MO_write_54 (by decide) ?_
    refine ab_icmp_ne X 75 d_MO_write_56 rfl (fun _ => ?_) (fun hb => absurd hb ((by decide)))
    refine ab_iload_n X 2 d_MO_write_75 rfl rfl ?_
    refine ab_iconst (v := 2) X d_MO_write_76 (by decide) ?_
    refine ab_icmp_ne X 96 d_MO_write_77 rfl (fun _ => ?_) (fun hb => absurd hb ((by decide)))
    refine ab_iload_n X 2 d_MO_write_96 rfl rfl ?_
    refine ab_iconst (v := 3) X d_MO_write_97 (by decide) ?_
    refine ab_icmp_ne X 117 d_MO_write_98 rfl (fun _ => ?_) (fun hb => absurd hb ((by decide)))
    refine ab_iload_n X 2 d_MO_write_117 rfl rfl ?_
    refine ab_iconst (v := 4) X d_MO_write_118 (by decide) ?_
    refine ab_icmp_ne X 136 d_MO_write_119 rfl (fun _ => ?_) (fun hb => absurd hb ((by decide)))
    refine ab_iload_n X 2 d_MO_write_136 rfl rfl ?_
    refine ab_iconst (v := 5) X d_MO_write_137 (by decide) ?_
    refine ab_icmp_ne X 155 d_MO_write_138 rfl (fun _ => ?_) (fun hb => absurd hb ((by decide)))
    refine ab_iload_n X 2 d_MO_write_155 rfl rfl ?_
    refine ab_bipush (v := 6) X d_MO_write_156 (by decide) ?_
    refine ab_icmp_ne X 175 d_MO_write_158 rfl (fun _ => ?_) (fun hb => absurd hb ((by decide)))
    refine ab_iload_n X 2 d_MO_write_175 rfl rfl ?_
    refine ab_bipush (v := 7) X d_MO_write_176 (by decide) ?_
    refine ab_icmp_ne X 186 d_MO_write_178 rfl (fun _ => ?_) (fun hb => absurd hb ((by decide)))
    refine ab_iload_n X 2 d_MO_write_186 rfl rfl ?_
    refine ab_bipush (v := 8) X d_MO_write_187 (by decide) ?_
    refine ab_icmp_ne X 228 d_MO_write_189 rfl (fun _ => ?_) (fun hb => absurd hb ((by decide)))
    refine ab_iload_n X 2 d_MO_write_228 rfl rfl ?_
    refine ab_bipush (v := 12) X d_MO_write_229 (by decide) ?_
    refine ab_icmp_le X 244 d_MO_write_231 rfl (fun hb => absurd hb ((by decide))) (fun _ => ?_)
    refine ab_aload_n X 3 d_MO_write_234 rfl rfl ?_
    refine ab_iload_n X 4 d_MO_write_235 rfl rfl ?_
    refine ab_iload_n X 2 d_MO_write_236 rfl rfl ?_
    refine ab_iload X 1 d_MO_write_237 rfl ?_
    refine ab_iload X 0 d_MO_write_239 rfl ?_
    refine ab_callV (as := [ab_I (nI p1), ab_I (nI 13), ab_I (nI (ch p1 0)), ab_I (nI (ch p1 1))]) X (fun h => by cases h) (x_MO_writeMore13 u10 u10 p1 j (ch p1 0) (ch p1 1) Wq (by omega) hj x1 (by omega) y1 (by omega) ⟨gx0, gx1, gx2⟩ ⟨gy0, gy1, gy2⟩ (by omega) h10) lk_MO_257 d_MO_write_241 rfl rfl (by first | assumption | decide | (show _ < 124; omega) | (show _ < 61; omega) | (show _ < 20; omega)) ⟨by first | exact Nat.le_of_ble_eq_true rfl | (simp only [ab_rm]; omega), by first | exact Nat.le_of_ble_eq_true rfl | (simp only [ab_rm]; omega)⟩ ⟨by first | exact Nat.le_of_ble_eq_true rfl | (simp only [ab_rm]; omega), by first | exact Nat.le_of_ble_eq_true rfl | (simp only [ab_rm]; omega)⟩ (Nat.le_of_ble_eq_true rfl) (fun u241 r241 h241 => ?_)
    obtain ⟨q241, rfl⟩ := h241
    have P241 := q241.1
    exact ab_retv X hr0 hlk d_MO_write_244 ⟨ww.done P10 q241 (by rw [eW] <;> first | rfl | simp), rfl⟩
  ·
    have eW : wds kd ar cn 14 p1 (fun i => Wq (cp ch 14 p1 i) (cj cn 14 p1 i)) = (Wq (ch p1 1) 2) ++ (Wq (ch p1 0) 0) := cat_2 _
    rw [eW] at hK
    simp only [List.length_append, List.length_cons, List.length_nil] at hK
    obtain ⟨x, y, ex, ey, x1, x2, y1, y2, l0, l1, l2, rfl, rfl⟩ := W.two T hp (by omega)
    refine ab_aload_n X 0 d_MO_write_0 rfl rfl ?_
    refine ab_bipush (v := 100) X d_MO_write_1 (by decide) ?_
    refine ab_iload_n X 2 d_MO_write_3 rfl rfl ?_
    refine ab_imul X d_MO_write_4 ?_
    refine ab_top (nI_100m _) ?_
    refine ab_putI X fp_MO_63 d_MO_write_5 (by first | assumption | decide | (show _ < 124; omega) | (show _ < 61; omega) | (show _ < 20; omega)) rfl rfl ?_
    refine ab_gen (fun u5 e5 => ?_)
    have P5 : gP [16, 17] u u5 := by rw [e5]; exact P0.ui rfl (by decide)
    refine ab_aload_n X 0 d_MO_write_8 rfl rfl ?_
    refine ab_iconst (v := 0) X d_MO_write_9 (by decide) ?_
    refine ab_putI X fp_MO_60 d_MO_write_10 (by first | assumption | decide | (show _ < 124; omega) | (show _ < 61; omega) | (show _ < 20; omega)) rfl rfl ?_
    refine ab_gen (fun u10 e10 => ?_)
    have P10 : gP [16, 17] u u10 := by rw [e10]; exact P5.ui rfl (by decide)
    have h10 : ww u10 u10 (100 * (3 * p1 + j)) [] := ⟨gP.rf P10.1, by rw [e10, e5]; simp [ab_up], by rw [e10]; simp [ab_up]; rfl, fun i hi => absurd hi (Nat.not_lt_zero i), fun _ _ => rfl⟩
    have T10 := T.fr P10 (by decide) (by decide) (by decide) (by decide) (by decide)
    have G10 : ∀ c, p1 < c → c < P → rg u10 (3 * c) (Wq c 0) ∧ rg u10 (3 * c + 1) (Wq c 1) ∧ rg u10 (3 * c + 2) (Wq c 2) := fun c x y => ⟨(G c x y).1.fr P10 (by decide) (by decide), (G c x y).2.1.fr P10 (by decide) (by decide), (G c x y).2.2.fr P10 (by decide) (by decide)⟩
    refine ab_aload_n X 0 d_MO_write_13 rfl rfl ?_
    refine ab_gR X fl_MO_45 d_MO_write_14 (by first | assumption | decide | (show _ < 124; omega) | (show _ < 61; omega) | (show _ < 20; omega)) (P10.1.mo11) ?_
    refine ab_iload_n X 2 d_MO_write_17 rfl rfl ?_
    refine ab_iald X (3 * p1 + j) ⟨rfl, rfl⟩ d_MO_write_18 (by first | assumption | decide | (show _ < 124; omega) | (show _ < 61; omega) | (show _ < 20; omega)) (rfl) (show 3 * p1 + j < 72 by omega) (ab_ln_lt _ _) ?_
    refine ab_top (P10.ai (by decide) ew) ?_
    refine ab_istore_n3 X 0 1 2 d_MO_write_19 rfl (by decide) rfl rfl rfl rfl rfl rfl ?_
    refine ab_aload_n X 1 d_MO_write_20 rfl rfl ?_
    refine ab_gR X fl_MO_42 d_MO_write_21 (by first | assumption | decide | (show _ < 124; omega) | (show _ < 61; omega) | (show _ < 20; omega)) (P10.1.mo10) ?_
    refine ab_iconst (v := 4) X d_MO_write_24 (by decide) ?_
    refine ab_iload_n X 2 d_MO_write_25 rfl rfl ?_
    refine ab_imul X d_MO_write_26 ?_
    refine ab_iald X (4 * p1) ⟨rfl, rfl⟩ d_MO_write_27 (by first | assumption | decide | (show _ < 124; omega) | (show _ < 61; omega) | (show _ < 20; omega)) (nI_4m p1) (show 4 * p1 < 160 by omega) (ab_ln_lt _ _) ?_
    refine ab_top (P10.ai (by decide) ex) ?_
    refine ab_istore4 X 0 1 2 3 d_MO_write_28 (by decide) rfl rfl rfl rfl rfl rfl rfl rfl ?_
    refine ab_aload_n X 2 d_MO_write_30 rfl rfl ?_
    refine ab_gR X fl_MO_42 d_MO_write_31 (by first | assumption | decide | (show _ < 124; omega) | (show _ < 61; omega) | (show _ < 20; omega)) (P10.1.mo10) ?_
    refine ab_iconst (v := 4) X d_MO_write_34 (by decide) ?_
    refine ab_iload_n X 3 d_MO_write_35 rfl rfl ?_
    refine ab_imul X d_MO_write_36 ?_
    refine ab_iconst (v := 1) X d_MO_write_37 (by decide) ?_
    refine ab_iadd X d_MO_write_38 ?_
    refine ab_iald X (4 * p1 + 1) ⟨rfl, rfl⟩ d_MO_write_39 (by first | assumption | decide | (show _ < 124; omega) | (show _ < 61; omega) | (show _ < 20; omega)) (nI_4b p1) (show 4 * p1 + 1 < 160 by omega) (ab_ln_lt _ _) ?_
    refine ab_top (P10.ai (by decide) ey) ?_
    obtain ⟨gx0, gx1, gx2⟩ := G10 _ x1 x2
    obtain ⟨gy0, gy1, gy2⟩ := G10 _ y1 y2
    refine ab_istore5 X 0 1 2 3 4 d_MO_write_40 (by decide) rfl rfl rfl rfl rfl rfl rfl rfl rfl rfl ?_
    refine ab_iload_n X 2 d_MO_write_42 rfl rfl ?_
    refine ab_iconst (v := 1) X d_MO_write_43 (by decide) ?_
    refine ab_icmp_eq X 59 d_MO_write_44 rfl (fun hb => absurd hb ((by decide))) (fun _ => ?_)
    refine ab_iload_n X 2 d_MO_write_47 rfl rfl ?_
    refine ab_bipush (v := 11) X d_MO_write_48 (by decide) ?_
    refine ab_icmp_eq X 59 d_MO_write_50 rfl (fun hb => absurd hb ((by decide))) (fun _ => ?_)
    refine ab_iload_n X 2 d_MO_write_53 rfl rfl ?_
    refine ab_bipush (v := 12) X d_MO_write_54 (by decide) ?_
    refine ab_icmp_ne X 75 d_MO_write_56 rfl (fun _ => ?_) (fun hb => absurd hb ((by decide)))
    refine ab_iload_n X 2 d_MO_write_75 rfl rfl ?_
    refine ab_iconst (v := 2) X d_MO_write_76 (by decide) ?_
    refine ab_icmp_ne X 96 d_MO_write_77 rfl (fun _ => ?_) (fun hb => absurd hb ((by decide)))
    refine ab_iload_n X 2 d_MO_write_96 rfl rfl ?_
    refine ab_iconst (v := 3) X d_MO_write_97 (by decide) ?_
    refine ab_icmp_ne X 117 d_MO_write_98 rfl (fun _ => ?_) (fun hb => absurd hb ((by decide)))
    refine ab_iload_n X 2 d_MO_write_117 rfl rfl ?_
    refine ab_iconst (v := 4) X d_MO_write_118 (by decide) ?_
    refine ab_icmp_ne X 136 d_MO_write_119 rfl (fun _ => ?_) (fun hb => absurd hb ((by decide)))
    refine ab_iload_n X 2 d_MO_write_136 rfl rfl ?_
    refine ab_iconst (v := 5) X d_MO_write_137 (by decide) ?_
    refine ab_icmp_ne X 155 d_MO_write_138 rfl (fun _ => ?_) (fun hb => absurd hb ((by decide)))
    refine ab_iload_n X 2 d_MO_write_155 rfl rfl ?_
    refine ab_bipush (v := 6) X d_MO_write_156 (by decide) ?_
    refine ab_icmp_ne X 175 d_MO_write_158 rfl (fun _ => ?_) (fun hb => absurd hb ((by decide)))
    refine ab_iload_n X 2 d_MO_write_175 rfl rfl ?_
    refine ab_bipush (v := 7) X d_MO_write_176 (by decide) ?_
    refine ab_icmp_ne X 186 d_MO_write_178 rfl (fun _ => ?_) (fun hb => absurd hb ((by decide)))
    refine ab_iload_n X 2 d_MO_write_186 rfl rfl ?_
    refine ab_bipush (v := 8) X d_MO_write_187 (by decide) ?_
    refine ab_icmp_ne X 228 d_MO_write_189 rfl (fun _ => ?_) (fun hb => absurd hb ((by decide)))
    refine ab_iload_n X 2 d_MO_write_228 rfl rfl ?_
    refine ab_bipush (v := 12) X d_MO_write_229 (by decide) ?_
    refine ab_icmp_le X 244 d_MO_write_231 rfl (fun hb => absurd hb ((by decide))) (fun _ => ?_)
    refine ab_aload_n X 3 d_MO_write_234 rfl rfl ?_
    refine ab_iload_n X 4 d_MO_write_235 rfl rfl ?_
    refine ab_iload_n X 2 d_MO_write_236 rfl rfl ?_
    refine ab_iload X 1 d_MO_write_237 rfl ?_
    refine ab_iload X 0 d_MO_write_239 rfl ?_
    refine ab_callV (as := [ab_I (nI p1), ab_I (nI 14), ab_I (nI (ch p1 0)), ab_I (nI (ch p1 1))]) X (fun h => by cases h) (x_MO_writeMore14 u10 u10 p1 j (ch p1 0) (ch p1 1) Wq (by omega) hj x1 (by omega) y1 (by omega) ⟨gx0, gx1, gx2⟩ ⟨gy0, gy1, gy2⟩ (by omega) h10) lk_MO_257 d_MO_write_241 rfl rfl (by first | assumption | decide | (show _ < 124; omega) | (show _ < 61; omega) | (show _ < 20; omega)) ⟨by first | exact Nat.le_of_ble_eq_true rfl | (simp only [ab_rm]; omega), by first | exact Nat.le_of_ble_eq_true rfl | (simp only [ab_rm]; omega)⟩ ⟨by first | exact Nat.le_of_ble_eq_true rfl | (simp only [ab_rm]; omega), by first | exact Nat.le_of_ble_eq_true rfl | (simp only [ab_rm]; omega)⟩ (Nat.le_of_ble_eq_true rfl) (fun u241 r241 h241 => ?_)
    obtain ⟨q241, rfl⟩ := h241
    have P241 := q241.1
    exact ab_retv X hr0 hlk d_MO_write_244 ⟨ww.done P10 q241 (by rw [eW] <;> first | rfl | simp), rfl⟩
  ·
    have eW : wds kd ar cn 15 p1 (fun i => Wq (cp ch 15 p1 i) (cj cn 15 p1 i)) = (Wq (ch p1 0) 1) ++ [16000] ++ [15000] ++ (Wq (ch p1 1) 0) ++ [14000] := rfl
    rw [eW] at hK
    simp only [List.length_append, List.length_cons, List.length_nil] at hK
    obtain ⟨x, y, ex, ey, x1, x2, y1, y2, l0, l1, l2, rfl, rfl⟩ := W.two T hp (by omega)
    refine ab_aload_n X 0 d_MO_write_0 rfl rfl ?_
    refine ab_bipush (v := 100) X d_MO_write_1 (by decide) ?_
    refine ab_iload_n X 2 d_MO_write_3 rfl rfl ?_
    refine ab_imul X d_MO_write_4 ?_
    refine ab_top (nI_100m _) ?_
    refine ab_putI X fp_MO_63 d_MO_write_5 (by first | assumption | decide | (show _ < 124; omega) | (show _ < 61; omega) | (show _ < 20; omega)) rfl rfl ?_
    refine ab_gen (fun u5 e5 => ?_)
    have P5 : gP [16, 17] u u5 := by rw [e5]; exact P0.ui rfl (by decide)
    refine ab_aload_n X 0 d_MO_write_8 rfl rfl ?_
    refine ab_iconst (v := 0) X d_MO_write_9 (by decide) ?_
    refine ab_putI X fp_MO_60 d_MO_write_10 (by first | assumption | decide | (show _ < 124; omega) | (show _ < 61; omega) | (show _ < 20; omega)) rfl rfl ?_
    refine ab_gen (fun u10 e10 => ?_)
    have P10 : gP [16, 17] u u10 := by rw [e10]; exact P5.ui rfl (by decide)
    have h10 : ww u10 u10 (100 * (3 * p1 + j)) [] := ⟨gP.rf P10.1, by rw [e10, e5]; simp [ab_up], by rw [e10]; simp [ab_up]; rfl, fun i hi => absurd hi (Nat.not_lt_zero i), fun _ _ => rfl⟩
    have T10 := T.fr P10 (by decide) (by decide) (by decide) (by decide) (by decide)
    have G10 : ∀ c, p1 < c → c < P → rg u10 (3 * c) (Wq c 0) ∧ rg u10 (3 * c + 1) (Wq c 1) ∧ rg u10 (3 * c + 2) (Wq c 2) := fun c x y => ⟨(G c x y).1.fr P10 (by decide) (by decide), (G c x y).2.1.fr P10 (by decide) (by decide), (G c x y).2.2.fr P10 (by decide) (by decide)⟩
    refine ab_aload_n X 0 d_MO_write_13 rfl rfl ?_
    refine ab_gR X fl_MO_45 d_MO_write_14 (by first | assumption | decide | (show _ < 124; omega) | (show _ < 61; omega) | (show _ < 20; omega)) (P10.1.mo11) ?_
    refine ab_iload_n X 2 d_MO_write_17 rfl rfl ?_
    refine ab_iald X (3 * p1 + j) ⟨rfl, rfl⟩ d_MO_write_18 (by first | assumption | decide | (show _ < 124; omega) | (show _ < 61; omega) | (show _ < 20; omega)) (rfl) (show 3 * p1 + j < 72 by omega) (ab_ln_lt _ _) ?_
    refine ab_top (P10.ai (by decide) ew) ?_
    refine ab_istore_n3 X 0 1 2 d_MO_write_19 rfl (by decide) rfl rfl rfl rfl rfl rfl ?_
    refine ab_aload_n X 1 d_MO_write_20 rfl rfl ?_
    refine ab_gR X fl_MO_42 d_MO_write_21 (by first | assumption | decide | (show _ < 124; omega) | (show _ < 61; omega) | (show _ < 20; omega)) (P10.1.mo10) ?_
    refine ab_iconst (v := 4) X d_MO_write_24 (by decide) ?_
    refine ab_iload_n X 2 d_MO_write_25 rfl rfl ?_
    refine ab_imul X d_MO_write_26 ?_
    refine ab_iald X (4 * p1) ⟨rfl, rfl⟩ d_MO_write_27 (by first | assumption | decide | (show _ < 124; omega) | (show _ < 61; omega) | (show _ < 20; omega)) (nI_4m p1) (show 4 * p1 < 160 by omega) (ab_ln_lt _ _) ?_
    refine ab_top (P10.ai (by decide) ex) ?_
    refine ab_istore4 X 0 1 2 3 d_MO_write_28 (by decide) rfl rfl rfl rfl rfl rfl rfl rfl ?_
    refine ab_aload_n X 2 d_MO_write_30 rfl rfl ?_
    refine ab_gR X fl_MO_42 d_MO_write_31 (by first | assumption | decide | (show _ < 124; omega) | (show _ < 61; omega) | (show _ < 20; omega)) (P10.1.mo10) ?_
    refine ab_iconst (v := 4) X d_MO_write_34 (by decide) ?_
    refine ab_iload_n X 3 d_MO_write_35 rfl rfl ?_
    refine ab_imul X d_MO_write_36 ?_
    refine ab_iconst (v := 1) X d_MO_write_37 (by decide) ?_
    refine ab_iadd X d_MO_write_38 ?_
    refine ab_iald X (4 * p1 + 1) ⟨rfl, rfl⟩ d_MO_write_39 (by first | assumption | decide | (show _ < 124; omega) | (show _ < 61; omega) | (show _ < 20; omega)) (nI_4b p1) (show 4 * p1 + 1 < 160 by omega) (ab_ln_lt _ _) ?_
    refine ab_top (P10.ai (by decide) ey) ?_
    obtain ⟨gx0, gx1, gx2⟩ := G10 _ x1 x2
    obtain ⟨gy0, gy1, gy2⟩ := G10 _ y1 y2
    refine ab_istore5 X 0 1 2 3 4 d_MO_write_40 (by decide) rfl rfl rfl rfl rfl rfl rfl rfl rfl rfl ?_
    refine ab_iload_n X 2 d_MO_write_42 rfl rfl ?_
    refine ab_iconst (v := 1) X d_MO_write_43 (by decide) ?_
    refine ab_icmp_eq X 59 d_MO_write_44 rfl (fun hb => absurd hb ((by decide))) (fun _ => ?_)
    refine ab_iload_n X 2 d_MO_write_47 rfl rfl ?_
    refine ab_bipush (v := 11) X d_MO_write_48 (by decide) ?_
    refine ab_icmp_eq X 59 d_MO_write_50 rfl (fun hb => absurd hb ((by decide))) (fun _ => ?_)
    refine ab_iload_n X 2 d_MO_write_53 rfl rfl ?_
    refine ab_bipush (v := 12) X d_MO_write_54 (by decide) ?_
    refine ab_icmp_ne X 75 d_MO_write_56 rfl (fun _ => ?_) (fun hb => absurd hb ((by decide)))
    refine ab_iload_n X 2 d_MO_write_75 rfl rfl ?_
    refine ab_iconst (v := 2) X d_MO_write_76 (by decide) ?_
    refine ab_icmp_ne X 96 d_MO_write_77 rfl (fun _ => ?_) (fun hb => absurd hb ((by decide)))
    refine ab_iload_n X 2 d_MO_write_96 rfl rfl ?_
    refine ab_iconst (v := 3) X d_MO_write_97 (by decide) ?_
    refine ab_icmp_ne X 117 d_MO_write_98 rfl (fun _ => ?_) (fun hb => absurd hb ((by decide)))
    refine ab_iload_n X 2 d_MO_write_117 rfl rfl ?_
    refine ab_iconst (v := 4) X d_MO_write_118 (by decide) ?_
    refine ab_icmp_ne X 136 d_MO_write_119 rfl (fun _ => ?_) (fun hb => absurd hb ((by decide)))
    refine ab_iload_n X 2 d_MO_write_136 rfl rfl ?_
    refine ab_iconst (v := 5) X d_MO_write_137 (by decide) ?_
    refine ab_icmp_ne X 155 d_MO_write_138 rfl (fun _ => ?_) (fun hb => absurd hb ((by decide)))
    refine ab_iload_n X 2 d_MO_write_155 rfl rfl ?_
    refine ab_bipush (v := 6) X d_MO_write_156 (by decide) ?_
    refine ab_icmp_ne X 175 d_MO_write_158 rfl (fun _ => ?_) (fun hb => absurd hb ((by decide)))
    refine ab_iload_n X 2 d_MO_write_175 rfl rfl ?_
    refine ab_bipush (v := 7) X d_MO_write_176 (by decide) ?_
    refine ab_icmp_ne X 186 d_MO_write_178 rfl (fun _ => ?_) (fun hb => absurd hb ((by decide)))
    refine ab_iload_n X 2 d_MO_write_186 rfl rfl ?_
    refine ab_bipush (v := 8) X d_MO_write_187 (by decide) ?_
    refine ab_icmp_ne X 228 d_MO_write_189 rfl (fun _ => ?_) (fun hb => absurd hb ((by decide)))
    refine ab_iload_n X 2 d_MO_write_228 rfl rfl ?_
    refine ab_bipush (v := 12) X d_MO_write_229 (by decide) ?_
    refine ab_icmp_le X 244 d_MO_write_231 rfl (fun hb => absurd hb ((by decide))) (fun _ => ?_)
    refine ab_aload_n X 3 d_MO_write_234 rfl rfl ?_
    refine ab_iload_n X 4 d_MO_write_235 rfl rfl ?_
    refine ab_iload_n X 2 d_MO_write_236 rfl rfl ?_
    refine ab_iload X 1 d_MO_write_237 rfl ?_
    refine ab_iload X 0 d_MO_write_239 rfl ?_
    refine ab_callV (as := [ab_I (nI p1), ab_I (nI 15), ab_I (nI (ch p1 0)), ab_I (nI (ch p1 1))]) X (fun h => by cases h) (x_MO_writeMore15 u10 u10 p1 j (ch p1 0) (ch p1 1) Wq (by omega) hj x1 (by omega) y1 (by omega) ⟨gx0, gx1, gx2⟩ ⟨gy0, gy1, gy2⟩ (by omega) h10) lk_MO_257 d_MO_write_241 rfl rfl (by first | assumption | decide | (show _ < 124; omega) | (show _ < 61; omega) | (show _ < 20; omega)) ⟨by first | exact Nat.le_of_ble_eq_true rfl | (simp only [ab_rm]; omega), by first | exact Nat.le_of_ble_eq_true rfl | (simp only [ab_rm]; omega)⟩ ⟨by first | exact Nat.le_of_ble_eq_true rfl | (simp only [ab_rm]; omega), by first | exact Nat.le_of_ble_eq_true rfl | (simp only [ab_rm]; omega)⟩ (Nat.le_of_ble_eq_true rfl) (fun u241 r241 h241 => ?_)
    obtain ⟨q241, rfl⟩ := h241
    have P241 := q241.1
    exact ab_retv X hr0 hlk d_MO_write_244 ⟨ww.done P10 q241 (by rw [eW] <;> first | rfl | simp), rfl⟩
  ·
    have eW : wds kd ar cn 16 p1 (fun i => Wq (cp ch 16 p1 i) (cj cn 16 p1 i)) = (Wq (ch p1 1) 1) ++ [16000] ++ [15000] ++ (Wq (ch p1 0) 0) ++ [14000] := rfl
    rw [eW] at hK
    simp only [List.length_append, List.length_cons, List.length_nil] at hK
    obtain ⟨x, y, ex, ey, x1, x2, y1, y2, l0, l1, l2, rfl, rfl⟩ := W.two T hp (by omega)
    refine ab_aload_n X 0 d_MO_write_0 rfl rfl ?_
    refine ab_bipush (v := 100) X d_MO_write_1 (by decide) ?_
    refine ab_iload_n X 2 d_MO_write_3 rfl rfl ?_
    refine ab_imul X d_MO_write_4 ?_
    refine ab_top (nI_100m _) ?_
    refine ab_putI X fp_MO_63 d_MO_write_5 (by first | assumption | decide | (show _ < 124; omega) | (show _ < 61; omega) | (show _ < 20; omega)) rfl rfl ?_
    refine ab_gen (fun u5 e5 => ?_)
    have P5 : gP [16, 17] u u5 := by rw [e5]; exact P0.ui rfl (by decide)
    refine ab_aload_n X 0 d_MO_write_8 rfl rfl ?_
    refine ab_iconst (v := 0) X d_MO_write_9 (by decide) ?_
    refine ab_putI X fp_MO_60 d_MO_write_10 (by first | assumption | decide | (show _ < 124; omega) | (show _ < 61; omega) | (show _ < 20; omega)) rfl rfl ?_
    refine ab_gen (fun u10 e10 => ?_)
    have P10 : gP [16, 17] u u10 := by rw [e10]; exact P5.ui rfl (by decide)
    have h10 : ww u10 u10 (100 * (3 * p1 + j)) [] := ⟨gP.rf P10.1, by rw [e10, e5]; simp [ab_up], by rw [e10]; simp [ab_up]; rfl, fun i hi => absurd hi (Nat.not_lt_zero i), fun _ _ => rfl⟩
    have T10 := T.fr P10 (by decide) (by decide) (by decide) (by decide) (by decide)
    have G10 : ∀ c, p1 < c → c < P → rg u10 (3 * c) (Wq c 0) ∧ rg u10 (3 * c + 1) (Wq c 1) ∧ rg u10 (3 * c + 2) (Wq c 2) := fun c x y => ⟨(G c x y).1.fr P10 (by decide) (by decide), (G c x y).2.1.fr P10 (by decide) (by decide), (G c x y).2.2.fr P10 (by decide) (by decide)⟩
    refine ab_aload_n X 0 d_MO_write_13 rfl rfl ?_
    refine ab_gR X fl_MO_45 d_MO_write_14 (by first | assumption | decide | (show _ < 124; omega) | (show _ < 61; omega) | (show _ < 20; omega)) (P10.1.mo11) ?_
    refine ab_iload_n X 2 d_MO_write_17 rfl rfl ?_
    refine ab_iald X (3 * p1 + j) ⟨rfl, rfl⟩ d_MO_write_18 (by first | assumption | decide | (show _ < 124; omega) | (show _ < 61; omega) | (show _ < 20; omega)) (rfl) (show 3 * p1 + j < 72 by omega) (ab_ln_lt _ _) ?_
    refine ab_top (P10.ai (by decide) ew) ?_
    refine ab_istore_n3 X 0 1 2 d_MO_write_19 rfl (by decide) rfl rfl rfl rfl rfl rfl ?_
    refine ab_aload_n X 1 d_MO_write_20 rfl rfl ?_
    refine ab_gR X fl_MO_42 d_MO_write_21 (by first | assumption | decide | (show _ < 124; omega) | (show _ < 61; omega) | (show _ < 20; omega)) (P10.1.mo10) ?_
    refine ab_iconst (v := 4) X d_MO_write_24 (by decide) ?_
    refine ab_iload_n X 2 d_MO_write_25 rfl rfl ?_
    refine ab_imul X d_MO_write_26 ?_
    refine ab_iald X (4 * p1) ⟨rfl, rfl⟩ d_MO_write_27 (by first | assumption | decide | (show _ < 124; omega) | (show _ < 61; omega) | (show _ < 20; omega)) (nI_4m p1) (show 4 * p1 < 160 by omega) (ab_ln_lt _ _) ?_
    refine ab_top (P10.ai (by decide) ex) ?_
    refine ab_istore4 X 0 1 2 3 d_MO_write_28 (by decide) rfl rfl rfl rfl rfl rfl rfl rfl ?_
    refine ab_aload_n X 2 d_MO_write_30 rfl rfl ?_
    refine ab_gR X fl_MO_42 d_MO_write_31 (by first | assumption | decide | (show _ < 124; omega) | (show _ < 61; omega) | (show _ < 20; omega)) (P10.1.mo10) ?_
    refine ab_iconst (v := 4) X d_MO_write_34 (by decide) ?_
    refine ab_iload_n X 3 d_MO_write_35 rfl rfl ?_
    refine ab_imul X d_MO_write_36 ?_
    refine ab_iconst (v := 1) X d_MO_write_37 (by decide) ?_
    refine ab_iadd X d_MO_write_38 ?_
    refine ab_iald X (4 * p1 + 1) ⟨rfl, rfl⟩ d_MO_write_39 (by first | assumption | decide | (show _ < 124; omega) | (show _ < 61; omega) | (show _ < 20; omega)) (nI_4b p1) (show 4 * p1 + 1 < 160 by omega) (ab_ln_lt _ _) ?_
    refine ab_top (P10.ai (by decide) ey) ?_
    obtain ⟨gx0, gx1, gx2⟩ := G10 _ x1 x2
    obtain ⟨gy0, gy1, gy2⟩ := G10 _ y1 y2
    refine ab_istore5 X 0 1 2 3 4 d_MO_write_40 (by decide) rfl rfl rfl rfl rfl rfl rfl rfl rfl rfl ?_
    refine ab_iload_n X 2 d_MO_write_42 rfl rfl ?_
    refine ab_iconst (v := 1) X d_MO_write_43 (by decide) ?_
    refine ab_icmp_eq X 59 d_MO_write_44 rfl (fun hb => absurd hb ((by decide))) (fun _ => ?_)
    refine ab_iload_n X 2 d_MO_write_47 rfl rfl ?_
    refine ab_bipush (v := 11) X d_MO_write_48 (by decide) ?_
    refine ab_icmp_eq X 59 d_MO_write_50 rfl (fun hb => absurd hb ((by decide))) (fun _ => ?_)
    refine ab_iload_n X 2 d_MO_write_53 rfl rfl ?_
    refine ab_bipush (v := 12) X d_MO_write_54 (by decide) ?_
    refine ab_icmp_ne X 75 d_MO_write_56 rfl (fun _ => ?_) (fun hb => absurd hb ((by decide)))
    refine ab_iload_n X 2 d_MO_write_75 rfl rfl ?_
    refine ab_iconst (v := 2) X d_MO_write_76 (by decide) ?_
    refine ab_icmp_ne X 96 d_MO_write_77 rfl (fun _ => ?_) (fun hb => absurd hb ((by decide)))
    refine ab_iload_n X 2 d_MO_write_96 rfl rfl ?_
    refine ab_iconst (v := 3) X d_MO_write_97 (by decide) ?_
    refine ab_icmp_ne X 117 d_MO_write_98 rfl (fun _ => ?_) (fun hb => absurd hb ((by decide)))
    refine ab_iload_n X 2 d_MO_write_117 rfl rfl ?_
    refine ab_iconst (v := 4) X d_MO_write_118 (by decide) ?_
    refine ab_icmp_ne X 136 d_MO_write_119 rfl (fun _ => ?_) (fun hb => absurd hb ((by decide)))
    refine ab_iload_n X 2 d_MO_write_136 rfl rfl ?_
    refine ab_iconst (v := 5) X d_MO_write_137 (by decide) ?_
    refine ab_icmp_ne X 155 d_MO_write_138 rfl (fun _ => ?_) (fun hb => absurd hb ((by decide)))
    refine ab_iload_n X 2 d_MO_write_155 rfl rfl ?_
    refine ab_bipush (v := 6) X d_MO_write_156 (by decide) ?_
    refine ab_icmp_ne X 175 d_MO_write_158 rfl (fun _ => ?_) (fun hb => absurd hb ((by decide)))
    refine ab_iload_n X 2 d_MO_write_175 rfl rfl ?_
    refine ab_bipush (v := 7) X d_MO_write_176 (by decide) ?_
    refine ab_icmp_ne X 186 d_MO_write_178 rfl (fun _ => ?_) (fun hb => absurd hb ((by decide)))
    refine ab_iload_n X 2 d_MO_write_186 rfl rfl ?_
    refine ab_bipush (v := 8) X d_MO_write_187 (by decide) ?_
    refine ab_icmp_ne X 228 d_MO_write_189 rfl (fun _ => ?_) (fun hb => absurd hb ((by decide)))
    refine ab_iload_n X 2 d_MO_write_228 rfl rfl ?_
    refine ab_bipush (v := 12) X d_MO_write_229 (by decide) ?_
    refine ab_icmp_le X 244 d_MO_write_231 rfl (fun hb => absurd hb ((by decide))) (fun _ => ?_)
    refine ab_aload_n X 3 d_MO_write_234 rfl rfl ?_
    refine ab_iload_n X 4 d_MO_write_235 rfl rfl ?_
    refine ab_iload_n X 2 d_MO_write_236 rfl rfl ?_
    refine ab_iload X 1 d_MO_write_237 rfl ?_
    refine ab_iload X 0 d_MO_write_239 rfl ?_
    refine ab_callV (as := [ab_I (nI p1), ab_I (nI 16), ab_I (nI (ch p1 0)), ab_I (nI (ch p1 1))]) X (fun h => by cases h) (x_MO_writeMore16 u10 u10 p1 j (ch p1 0) (ch p1 1) Wq (by omega) hj x1 (by omega) y1 (by omega) ⟨gx0, gx1, gx2⟩ ⟨gy0, gy1, gy2⟩ (by omega) h10) lk_MO_257 d_MO_write_241 rfl rfl (by first | assumption | decide | (show _ < 124; omega) | (show _ < 61; omega) | (show _ < 20; omega)) ⟨by first | exact Nat.le_of_ble_eq_true rfl | (simp only [ab_rm]; omega), by first | exact Nat.le_of_ble_eq_true rfl | (simp only [ab_rm]; omega)⟩ ⟨by first | exact Nat.le_of_ble_eq_true rfl | (simp only [ab_rm]; omega), by first | exact Nat.le_of_ble_eq_true rfl | (simp only [ab_rm]; omega)⟩ (Nat.le_of_ble_eq_true rfl) (fun u241 r241 h241 => ?_)
    obtain ⟨q241, rfl⟩ := h241
    have P241 := q241.1
    exact ab_retv X hr0 hlk d_MO_write_244 ⟨ww.done P10 q241 (by rw [eW] <;> first | rfl | simp), rfl⟩
  ·
    have eW : wds kd ar cn 17 p1 (fun i => Wq (cp ch 17 p1 i) (cj cn 17 p1 i)) = [12000] ++ (Wq (ch p1 0) 0) ++ [13000] ++ (Wq (ch p1 1) 0) ++ [14000] := rfl
    rw [eW] at hK
    simp only [List.length_append, List.length_cons, List.length_nil] at hK
    obtain ⟨x, y, ex, ey, x1, x2, y1, y2, l0, l1, l2, rfl, rfl⟩ := W.two T hp (by omega)
    refine ab_aload_n X 0 d_MO_write_0 rfl rfl ?_
    refine ab_bipush (v := 100) X d_MO_write_1 (by decide) ?_
    refine ab_iload_n X 2 d_MO_write_3 rfl rfl ?_
    refine ab_imul X d_MO_write_4 ?_
    refine ab_top (nI_100m _) ?_
    refine ab_putI X fp_MO_63 d_MO_write_5 (by first | assumption | decide | (show _ < 124; omega) | (show _ < 61; omega) | (show _ < 20; omega)) rfl rfl ?_
    refine ab_gen (fun u5 e5 => ?_)
    have P5 : gP [16, 17] u u5 := by rw [e5]; exact P0.ui rfl (by decide)
    refine ab_aload_n X 0 d_MO_write_8 rfl rfl ?_
    refine ab_iconst (v := 0) X d_MO_write_9 (by decide) ?_
    refine ab_putI X fp_MO_60 d_MO_write_10 (by first | assumption | decide | (show _ < 124; omega) | (show _ < 61; omega) | (show _ < 20; omega)) rfl rfl ?_
    refine ab_gen (fun u10 e10 => ?_)
    have P10 : gP [16, 17] u u10 := by rw [e10]; exact P5.ui rfl (by decide)
    have h10 : ww u10 u10 (100 * (3 * p1 + j)) [] := ⟨gP.rf P10.1, by rw [e10, e5]; simp [ab_up], by rw [e10]; simp [ab_up]; rfl, fun i hi => absurd hi (Nat.not_lt_zero i), fun _ _ => rfl⟩
    have T10 := T.fr P10 (by decide) (by decide) (by decide) (by decide) (by decide)
    have G10 : ∀ c, p1 < c → c < P → rg u10 (3 * c) (Wq c 0) ∧ rg u10 (3 * c + 1) (Wq c 1) ∧ rg u10 (3 * c + 2) (Wq c 2) := fun c x y => ⟨(G c x y).1.fr P10 (by decide) (by decide), (G c x y).2.1.fr P10 (by decide) (by decide), (G c x y).2.2.fr P10 (by decide) (by decide)⟩
    refine ab_aload_n X 0 d_MO_write_13 rfl rfl ?_
    refine ab_gR X fl_MO_45 d_MO_write_14 (by first | assumption | decide | (show _ < 124; omega) | (show _ < 61; omega) | (show _ < 20; omega)) (P10.1.mo11) ?_
    refine ab_iload_n X 2 d_MO_write_17 rfl rfl ?_
    refine ab_iald X (3 * p1 + j) ⟨rfl, rfl⟩ d_MO_write_18 (by first | assumption | decide | (show _ < 124; omega) | (show _ < 61; omega) | (show _ < 20; omega)) (rfl) (show 3 * p1 + j < 72 by omega) (ab_ln_lt _ _) ?_
    refine ab_top (P10.ai (by decide) ew) ?_
    refine ab_istore_n3 X 0 1 2 d_MO_write_19 rfl (by decide) rfl rfl rfl rfl rfl rfl ?_
    refine ab_aload_n X 1 d_MO_write_20 rfl rfl ?_
    refine ab_gR X fl_MO_42 d_MO_write_21 (by first | assumption | decide | (show _ < 124; omega) | (show _ < 61; omega) | (show _ < 20; omega)) (P10.1.mo10) ?_
    refine ab_iconst (v := 4) X d_MO_write_24 (by decide) ?_
    refine ab_iload_n X 2 d_MO_write_25 rfl rfl ?_
    refine ab_imul X d_MO_write_26 ?_
    refine ab_iald X (4 * p1) ⟨rfl, rfl⟩ d_MO_write_27 (by first | assumption | decide | (show _ < 124; omega) | (show _ < 61; omega) | (show _ < 20; omega)) (nI_4m p1) (show 4 * p1 < 160 by omega) (ab_ln_lt _ _) ?_
    refine ab_top (P10.ai (by decide) ex) ?_
    refine ab_istore4 X 0 1 2 3 d_MO_write_28 (by decide) rfl rfl rfl rfl rfl rfl rfl rfl ?_
    refine ab_aload_n X 2 d_MO_write_30 rfl rfl ?_
    refine ab_gR X fl_MO_42 d_MO_write_31 (by first | assumption | decide | (show _ < 124; omega) | (show _ < 61; omega) | (show _ < 20; omega)) (P10.1.mo10) ?_
    refine ab_iconst (v := 4) X d_MO_write_34 (by decide) ?_
    refine ab_iload_n X 3 d_MO_write_35 rfl rfl ?_
    refine ab_imul X d_MO_write_36 ?_
    refine ab_iconst (v := 1) X d_MO_write_37 (by decide) ?_
    refine ab_iadd X d_MO_write_38 ?_
    refine ab_iald X (4 * p1 + 1) ⟨rfl, rfl⟩ d_MO_write_39 (by first | assumption | decide | (show _ < 124; omega) | (show _ < 61; omega) | (show _ < 20; omega)) (nI_4b p1) (show 4 * p1 + 1 < 160 by omega) (ab_ln_lt _ _) ?_
    refine ab_top (P10.ai (by decide) ey) ?_
    obtain ⟨gx0, gx1, gx2⟩ := G10 _ x1 x2
    obtain ⟨gy0, gy1, gy2⟩ := G10 _ y1 y2
    refine ab_istore5 X 0 1 2 3 4 d_MO_write_40 (by decide) rfl rfl rfl rfl rfl rfl rfl rfl rfl rfl ?_
    refine ab_iload_n X 2 d_MO_write_42 rfl rfl ?_
    refine ab_iconst (v := 1) X d_MO_write_43 (by decide) ?_
    refine ab_icmp_eq X 59 d_MO_write_44 rfl (fun hb => absurd hb ((by decide))) (fun _ => ?_)
    refine ab_iload_n X 2 d_MO_write_47 rfl rfl ?_
    refine ab_bipush (v := 11) X d_MO_write_48 (by decide) ?_
    refine ab_icmp_eq X 59 d_MO_write_50 rfl (fun hb => absurd hb ((by decide))) (fun _ => ?_)
    refine ab_iload_n X 2 d_MO_write_53 rfl rfl ?_
    refine ab_bipush (v := 12) X d_MO_write_54 (by decide) ?_
    refine ab_icmp_ne X 75 d_MO_write_56 rfl (fun _ => ?_) (fun hb => absurd hb ((by decide)))
    refine ab_iload_n X 2 d_MO_write_75 rfl rfl ?_
    refine ab_iconst (v := 2) X d_MO_write_76 (by decide) ?_
    refine ab_icmp_ne X 96 d_MO_write_77 rfl (fun _ => ?_) (fun hb => absurd hb ((by decide)))
    refine ab_iload_n X 2 d_MO_write_96 rfl rfl ?_
    refine ab_iconst (v := 3) X d_MO_write_97 (by decide) ?_
    refine ab_icmp_ne X 117 d_MO_write_98 rfl (fun _ => ?_) (fun hb => absurd hb ((by decide)))
    refine ab_iload_n X 2 d_MO_write_117 rfl rfl ?_
    refine ab_iconst (v := 4) X d_MO_write_118 (by decide) ?_
    refine ab_icmp_ne X 136 d_MO_write_119 rfl (fun _ => ?_) (fun hb => absurd hb ((by decide)))
    refine ab_iload_n X 2 d_MO_write_136 rfl rfl ?_
    refine ab_iconst (v := 5) X d_MO_write_137 (by decide) ?_
    refine ab_icmp_ne X 155 d_MO_write_138 rfl (fun _ => ?_) (fun hb => absurd hb ((by decide)))
    refine ab_iload_n X 2 d_MO_write_155 rfl rfl ?_
    refine ab_bipush (v := 6) X d_MO_write_156 (by decide) ?_
    refine ab_icmp_ne X 175 d_MO_write_158 rfl (fun _ => ?_) (fun hb => absurd hb ((by decide)))
    refine ab_iload_n X 2 d_MO_write_175 rfl rfl ?_
    refine ab_bipush (v := 7) X d_MO_write_176 (by decide) ?_
    refine ab_icmp_ne X 186 d_MO_write_178 rfl (fun _ => ?_) (fun hb => absurd hb ((by decide)))
    refine ab_iload_n X 2 d_MO_write_186 rfl rfl ?_
    refine ab_bipush (v := 8) X d_MO_write_187 (by decide) ?_
    refine ab_icmp_ne X 228 d_MO_write_189 rfl (fun _ => ?_) (fun hb => absurd hb ((by decide)))
    refine ab_iload_n X 2 d_MO_write_228 rfl rfl ?_
    refine ab_bipush (v := 12) X d_MO_write_229 (by decide) ?_
    refine ab_icmp_le X 244 d_MO_write_231 rfl (fun hb => absurd hb ((by decide))) (fun _ => ?_)
    refine ab_aload_n X 3 d_MO_write_234 rfl rfl ?_
    refine ab_iload_n X 4 d_MO_write_235 rfl rfl ?_
    refine ab_iload_n X 2 d_MO_write_236 rfl rfl ?_
    refine ab_iload X 1 d_MO_write_237 rfl ?_
    refine ab_iload X 0 d_MO_write_239 rfl ?_
    refine ab_callV (as := [ab_I (nI p1), ab_I (nI 17), ab_I (nI (ch p1 0)), ab_I (nI (ch p1 1))]) X (fun h => by cases h) (x_MO_writeMore17 u10 u10 p1 j (ch p1 0) (ch p1 1) Wq (by omega) hj x1 (by omega) y1 (by omega) ⟨gx0, gx1, gx2⟩ ⟨gy0, gy1, gy2⟩ (by omega) h10) lk_MO_257 d_MO_write_241 rfl rfl (by first | assumption | decide | (show _ < 124; omega) | (show _ < 61; omega) | (show _ < 20; omega)) ⟨by first | exact Nat.le_of_ble_eq_true rfl | (simp only [ab_rm]; omega), by first | exact Nat.le_of_ble_eq_true rfl | (simp only [ab_rm]; omega)⟩ ⟨by first | exact Nat.le_of_ble_eq_true rfl | (simp only [ab_rm]; omega), by first | exact Nat.le_of_ble_eq_true rfl | (simp only [ab_rm]; omega)⟩ (Nat.le_of_ble_eq_true rfl) (fun u241 r241 h241 => ?_)
    obtain ⟨q241, rfl⟩ := h241
    have P241 := q241.1
    exact ab_retv X hr0 hlk d_MO_write_244 ⟨ww.done P10 q241 (by rw [eW] <;> first | rfl | simp), rfl⟩
  ·
    have eW : wds kd ar cn 18 p1 (fun i => Wq (cp ch 18 p1 i) (cj cn 18 p1 i)) = cat (fun i => if i + 1 < cn p1 then Wq (ch p1 i) 2 else Wq (ch p1 i) 0) (cn p1) := by
      show cat (fun i => Wq (ch p1 i) (if i + 1 < cn p1 then 2 else 0)) (cn p1) = _
      exact cat_cong _ (fun i _ => by split <;> rfl)
    rw [eW] at hK
    refine ab_aload_n X 0 d_MO_write_0 rfl rfl ?_
    refine ab_bipush (v := 100) X d_MO_write_1 (by decide) ?_
    refine ab_iload_n X 2 d_MO_write_3 rfl rfl ?_
    refine ab_imul X d_MO_write_4 ?_
    refine ab_top (nI_100m _) ?_
    refine ab_putI X fp_MO_63 d_MO_write_5 (by first | assumption | decide | (show _ < 124; omega) | (show _ < 61; omega) | (show _ < 20; omega)) rfl rfl ?_
    refine ab_gen (fun u5 e5 => ?_)
    have P5 : gP [16, 17] u u5 := by rw [e5]; exact P0.ui rfl (by decide)
    refine ab_aload_n X 0 d_MO_write_8 rfl rfl ?_
    refine ab_iconst (v := 0) X d_MO_write_9 (by decide) ?_
    refine ab_putI X fp_MO_60 d_MO_write_10 (by first | assumption | decide | (show _ < 124; omega) | (show _ < 61; omega) | (show _ < 20; omega)) rfl rfl ?_
    refine ab_gen (fun u10 e10 => ?_)
    have P10 : gP [16, 17] u u10 := by rw [e10]; exact P5.ui rfl (by decide)
    have h10 : ww u10 u10 (100 * (3 * p1 + j)) [] := ⟨gP.rf P10.1, by rw [e10, e5]; simp [ab_up], by rw [e10]; simp [ab_up]; rfl, fun i hi => absurd hi (Nat.not_lt_zero i), fun _ _ => rfl⟩
    have T10 := T.fr P10 (by decide) (by decide) (by decide) (by decide) (by decide)
    have G10 : ∀ c, p1 < c → c < P → rg u10 (3 * c) (Wq c 0) ∧ rg u10 (3 * c + 1) (Wq c 1) ∧ rg u10 (3 * c + 2) (Wq c 2) := fun c x y => ⟨(G c x y).1.fr P10 (by decide) (by decide), (G c x y).2.1.fr P10 (by decide) (by decide), (G c x y).2.2.fr P10 (by decide) (by decide)⟩
    refine ab_aload_n X 0 d_MO_write_13 rfl rfl ?_
    refine ab_gR X fl_MO_45 d_MO_write_14 (by first | assumption | decide | (show _ < 124; omega) | (show _ < 61; omega) | (show _ < 20; omega)) (P10.1.mo11) ?_
    refine ab_iload_n X 2 d_MO_write_17 rfl rfl ?_
    refine ab_iald X (3 * p1 + j) ⟨rfl, rfl⟩ d_MO_write_18 (by first | assumption | decide | (show _ < 124; omega) | (show _ < 61; omega) | (show _ < 20; omega)) (rfl) (show 3 * p1 + j < 72 by omega) (ab_ln_lt _ _) ?_
    refine ab_top (P10.ai (by decide) ew) ?_
    refine ab_istore_n3 X 0 1 2 d_MO_write_19 rfl (by decide) rfl rfl rfl rfl rfl rfl ?_
    refine ab_aload_n X 1 d_MO_write_20 rfl rfl ?_
    refine ab_gR X fl_MO_42 d_MO_write_21 (by first | assumption | decide | (show _ < 124; omega) | (show _ < 61; omega) | (show _ < 20; omega)) (P10.1.mo10) ?_
    refine ab_iconst (v := 4) X d_MO_write_24 (by decide) ?_
    refine ab_iload_n X 2 d_MO_write_25 rfl rfl ?_
    refine ab_imul X d_MO_write_26 ?_
    refine ab_iald X (4 * p1) ⟨rfl, rfl⟩ d_MO_write_27 (by first | assumption | decide | (show _ < 124; omega) | (show _ < 61; omega) | (show _ < 20; omega)) (nI_4m p1) (show 4 * p1 < 160 by omega) (ab_ln_lt _ _) ?_
    refine ab_istore4 X 0 1 2 3 d_MO_write_28 (by decide) rfl rfl rfl rfl rfl rfl rfl rfl ?_
    refine ab_aload_n X 2 d_MO_write_30 rfl rfl ?_
    refine ab_gR X fl_MO_42 d_MO_write_31 (by first | assumption | decide | (show _ < 124; omega) | (show _ < 61; omega) | (show _ < 20; omega)) (P10.1.mo10) ?_
    refine ab_iconst (v := 4) X d_MO_write_34 (by decide) ?_
    refine ab_iload_n X 3 d_MO_write_35 rfl rfl ?_
    refine ab_imul X d_MO_write_36 ?_
    refine ab_iconst (v := 1) X d_MO_write_37 (by decide) ?_
    refine ab_iadd X d_MO_write_38 ?_
    refine ab_iald X (4 * p1 + 1) ⟨rfl, rfl⟩ d_MO_write_39 (by first | assumption | decide | (show _ < 124; omega) | (show _ < 61; omega) | (show _ < 20; omega)) (nI_4b p1) (show 4 * p1 + 1 < 160 by omega) (ab_ln_lt _ _) ?_
    refine ab_istore5 X 0 1 2 3 4 d_MO_write_40 (by decide) rfl rfl rfl rfl rfl rfl rfl rfl rfl rfl ?_
    refine ab_iload_n X 2 d_MO_write_42 rfl rfl ?_
    refine ab_iconst (v := 1) X d_MO_write_43 (by decide) ?_
    refine ab_icmp_eq X 59 d_MO_write_44 rfl (fun hb => absurd hb ((by decide))) (fun _ => ?_)
    refine ab_iload_n X 2 d_MO_write_47 rfl rfl ?_
    refine ab_bipush (v := 11) X d_MO_write_48 (by decide) ?_
    refine ab_icmp_eq X 59 d_MO_write_50 rfl (fun hb => absurd hb ((by decide))) (fun _ => ?_)
    refine ab_iload_n X 2 d_MO_write_53 rfl rfl ?_
    refine ab_bipush (v := 12) X d_MO_write_54 (by decide) ?_
    refine ab_icmp_ne X 75 d_MO_write_56 rfl (fun _ => ?_) (fun hb => absurd hb ((by decide)))
    refine ab_iload_n X 2 d_MO_write_75 rfl rfl ?_
    refine ab_iconst (v := 2) X d_MO_write_76 (by decide) ?_
    refine ab_icmp_ne X 96 d_MO_write_77 rfl (fun _ => ?_) (fun hb => absurd hb ((by decide)))
    refine ab_iload_n X 2 d_MO_write_96 rfl rfl ?_
    refine ab_iconst (v := 3) X d_MO_write_97 (by decide) ?_
    refine ab_icmp_ne X 117 d_MO_write_98 rfl (fun _ => ?_) (fun hb => absurd hb ((by decide)))
    refine ab_iload_n X 2 d_MO_write_117 rfl rfl ?_
    refine ab_iconst (v := 4) X d_MO_write_118 (by decide) ?_
    refine ab_icmp_ne X 136 d_MO_write_119 rfl (fun _ => ?_) (fun hb => absurd hb ((by decide)))
    refine ab_iload_n X 2 d_MO_write_136 rfl rfl ?_
    refine ab_iconst (v := 5) X d_MO_write_137 (by decide) ?_
    refine ab_icmp_ne X 155 d_MO_write_138 rfl (fun _ => ?_) (fun hb => absurd hb ((by decide)))
    refine ab_iload_n X 2 d_MO_write_155 rfl rfl ?_
    refine ab_bipush (v := 6) X d_MO_write_156 (by decide) ?_
    refine ab_icmp_ne X 175 d_MO_write_158 rfl (fun _ => ?_) (fun hb => absurd hb ((by decide)))
    refine ab_iload_n X 2 d_MO_write_175 rfl rfl ?_
    refine ab_bipush (v := 7) X d_MO_write_176 (by decide) ?_
    refine ab_icmp_ne X 186 d_MO_write_178 rfl (fun _ => ?_) (fun hb => absurd hb ((by decide)))
    refine ab_iload_n X 2 d_MO_write_186 rfl rfl ?_
    refine ab_bipush (v := 8) X d_MO_write_187 (by decide) ?_
    refine ab_icmp_ne X 228 d_MO_write_189 rfl (fun _ => ?_) (fun hb => absurd hb ((by decide)))
    refine ab_iload_n X 2 d_MO_write_228 rfl rfl ?_
    refine ab_bipush (v := 12) X d_MO_write_229 (by decide) ?_
    refine ab_icmp_le X 244 d_MO_write_231 rfl (fun hb => absurd hb ((by decide))) (fun _ => ?_)
    refine ab_aload_n X 3 d_MO_write_234 rfl rfl ?_
    refine ab_iload_n X 4 d_MO_write_235 rfl rfl ?_
    refine ab_iload_n X 2 d_MO_write_236 rfl rfl ?_
    refine ab_iload X 1 d_MO_write_237 rfl ?_
    refine ab_iload X 0 d_MO_write_239 rfl ?_
    refine ab_callV (as := [ab_I (nI p1), ab_I (nI 18), ab_I _, ab_I _]) X (fun h => by cases h) (x_MO_writeMore18 u10 u10 P kd ar cn lf ch W T10 p1 j _ _ Wq hp hj kk G10 hK h10) lk_MO_257 d_MO_write_241 rfl rfl (by first | assumption | decide | (show _ < 124; omega) | (show _ < 61; omega) | (show _ < 20; omega)) ⟨by first | exact Nat.le_of_ble_eq_true rfl | (simp only [ab_rm]; omega), by first | exact Nat.le_of_ble_eq_true rfl | (simp only [ab_rm]; omega)⟩ ⟨by first | exact Nat.le_of_ble_eq_true rfl | (simp only [ab_rm]; omega), by first | exact Nat.le_of_ble_eq_true rfl | (simp only [ab_rm]; omega)⟩ (Nat.le_of_ble_eq_true rfl) (fun u241 r241 h241 => ?_)
    obtain ⟨q241, rfl⟩ := h241
    have P241 := q241.1
    exact ab_retv X hr0 hlk d_MO_write_244 ⟨ww.done P10 q241 (by rw [eW] <;> first | rfl | simp), rfl⟩
  ·
    have eW : wds kd ar cn 21 p1 (fun i => Wq (cp ch 21 p1 i) (cj cn 21 p1 i)) = (Wq (ch p1 0) 2) ++ (Wq (ch p1 1) 2) := cat_2 _
    rw [eW] at hK
    simp only [List.length_append, List.length_cons, List.length_nil] at hK
    obtain ⟨x, y, ex, ey, x1, x2, y1, y2, l0, l1, l2, rfl, rfl⟩ := W.two T hp (by omega)
    refine ab_aload_n X 0 d_MO_write_0 rfl rfl ?_
    refine ab_bipush (v := 100) X d_MO_write_1 (by decide) ?_
    refine ab_iload_n X 2 d_MO_write_3 rfl rfl ?_
    refine ab_imul X d_MO_write_4 ?_
    refine ab_top (nI_100m _) ?_
    refine ab_putI X fp_MO_63 d_MO_write_5 (by first | assumption | decide | (show _ < 124; omega) | (show _ < 61; omega) | (show _ < 20; omega)) rfl rfl ?_
    refine ab_gen (fun u5 e5 => ?_)
    have P5 : gP [16, 17] u u5 := by rw [e5]; exact P0.ui rfl (by decide)
    refine ab_aload_n X 0 d_MO_write_8 rfl rfl ?_
    refine ab_iconst (v := 0) X d_MO_write_9 (by decide) ?_
    refine ab_putI X fp_MO_60 d_MO_write_10 (by first | assumption | decide | (show _ < 124; omega) | (show _ < 61; omega) | (show _ < 20; omega)) rfl rfl ?_
    refine ab_gen (fun u10 e10 => ?_)
    have P10 : gP [16, 17] u u10 := by rw [e10]; exact P5.ui rfl (by decide)
    have h10 : ww u10 u10 (100 * (3 * p1 + j)) [] := ⟨gP.rf P10.1, by rw [e10, e5]; simp [ab_up], by rw [e10]; simp [ab_up]; rfl, fun i hi => absurd hi (Nat.not_lt_zero i), fun _ _ => rfl⟩
    have T10 := T.fr P10 (by decide) (by decide) (by decide) (by decide) (by decide)
    have G10 : ∀ c, p1 < c → c < P → rg u10 (3 * c) (Wq c 0) ∧ rg u10 (3 * c + 1) (Wq c 1) ∧ rg u10 (3 * c + 2) (Wq c 2) := fun c x y => ⟨(G c x y).1.fr P10 (by decide) (by decide), (G c x y).2.1.fr P10 (by decide) (by decide), (G c x y).2.2.fr P10 (by decide) (by decide)⟩
    refine ab_aload_n X 0 d_MO_write_13 rfl rfl ?_
    refine ab_gR X fl_MO_45 d_MO_write_14 (by first | assumption | decide | (show _ < 124; omega) | (show _ < 61; omega) | (show _ < 20; omega)) (P10.1.mo11) ?_
    refine ab_iload_n X 2 d_MO_write_17 rfl rfl ?_
    refine ab_iald X (3 * p1 + j) ⟨rfl, rfl⟩ d_MO_write_18 (by first | assumption | decide | (show _ < 124; omega) | (show _ < 61; omega) | (show _ < 20; omega)) (rfl) (show 3 * p1 + j < 72 by omega) (ab_ln_lt _ _) ?_
    refine ab_top (P10.ai (by decide) ew) ?_
    refine ab_istore_n3 X 0 1 2 d_MO_write_19 rfl (by decide) rfl rfl rfl rfl rfl rfl ?_
    refine ab_aload_n X 1 d_MO_write_20 rfl rfl ?_
    refine ab_gR X fl_MO_42 d_MO_write_21 (by first | assumption | decide | (show _ < 124; omega) | (show _ < 61; omega) | (show _ < 20; omega)) (P10.1.mo10) ?_
    refine ab_iconst (v := 4) X d_MO_write_24 (by decide) ?_
    refine ab_iload_n X 2 d_MO_write_25 rfl rfl ?_
    refine ab_imul X d_MO_write_26 ?_
    refine ab_iald X (4 * p1) ⟨rfl, rfl⟩ d_MO_write_27 (by first | assumption | decide | (show _ < 124; omega) | (show _ < 61; omega) | (show _ < 20; omega)) (nI_4m p1) (show 4 * p1 < 160 by omega) (ab_ln_lt _ _) ?_
    refine ab_top (P10.ai (by decide) ex) ?_
    refine ab_istore4 X 0 1 2 3 d_MO_write_28 (by decide) rfl rfl rfl rfl rfl rfl rfl rfl ?_
    refine ab_aload_n X 2 d_MO_write_30 rfl rfl ?_
    refine ab_gR X fl_MO_42 d_MO_write_31 (by first | assumption | decide | (show _ < 124; omega) | (show _ < 61; omega) | (show _ < 20; omega)) (P10.1.mo10) ?_
    refine ab_iconst (v := 4) X d_MO_write_34 (by decide) ?_
    refine ab_iload_n X 3 d_MO_write_35 rfl rfl ?_
    refine ab_imul X d_MO_write_36 ?_
    refine ab_iconst (v := 1) X d_MO_write_37 (by decide) ?_
    refine ab_iadd X d_MO_write_38 ?_
    refine ab_iald X (4 * p1 + 1) ⟨rfl, rfl⟩ d_MO_write_39 (by first | assumption | decide | (show _ < 124; omega) | (show _ < 61; omega) | (show _ < 20; omega)) (nI_4b p1) (show 4 * p1 + 1 < 160 by omega) (ab_ln_lt _ _) ?_
    refine ab_top (P10.ai (by decide) ey) ?_
    obtain ⟨gx0, gx1, gx2⟩ := G10 _ x1 x2
    obtain ⟨gy0, gy1, gy2⟩ := G10 _ y1 y2
    refine ab_istore5 X 0 1 2 3 4 d_MO_write_40 (by decide) rfl rfl rfl rfl rfl rfl rfl rfl rfl rfl ?_
    refine ab_iload_n X 2 d_MO_write_42 rfl rfl ?_
    refine ab_iconst (v := 1) X d_MO_write_43 (by decide) ?_
    refine ab_icmp_eq X 59 d_MO_write_44 rfl (fun hb => absurd hb ((by decide))) (fun _ => ?_)
    refine ab_iload_n X 2 d_MO_write_47 rfl rfl ?_
    refine ab_bipush (v := 11) X d_MO_write_48 (by decide) ?_
    refine ab_icmp_eq X 59 d_MO_write_50 rfl (fun hb => absurd hb ((by decide))) (fun _ => ?_)
    refine ab_iload_n X 2 d_MO_write_53 rfl rfl ?_
    refine ab_bipush (v := 12) X d_MO_write_54 (by decide) ?_
    refine ab_icmp_ne X 75 d_MO_write_56 rfl (fun _ => ?_) (fun hb => absurd hb ((by decide)))
    refine ab_iload_n X 2 d_MO_write_75 rfl rfl ?_
    refine ab_iconst (v := 2) X d_MO_write_76 (by decide) ?_
    refine ab_icmp_ne X 96 d_MO_write_77 rfl (fun _ => ?_) (fun hb => absurd hb ((by decide)))
    refine ab_iload_n X 2 d_MO_write_96 rfl rfl ?_
    refine ab_iconst (v := 3) X d_MO_write_97 (by decide) ?_
    refine ab_icmp_ne X 117 d_MO_write_98 rfl (fun _ => ?_) (fun hb => absurd hb ((by decide)))
    refine ab_iload_n X 2 d_MO_write_117 rfl rfl ?_
    refine ab_iconst (v := 4) X d_MO_write_118 (by decide) ?_
    refine ab_icmp_ne X 136 d_MO_write_119 rfl (fun _ => ?_) (fun hb => absurd hb ((by decide)))
    refine ab_iload_n X 2 d_MO_write_136 rfl rfl ?_
    refine ab_iconst (v := 5) X d_MO_write_137 (by decide) ?_
    refine ab_icmp_ne X 155 d_MO_write_138 rfl (fun _ => ?_) (fun hb => absurd hb ((by decide)))
    refine ab_iload_n X 2 d_MO_write_155 rfl rfl ?_
    refine ab_bipush (v := 6) X d_MO_write_156 (by decide) ?_
    refine ab_icmp_ne X 175 d_MO_write_158 rfl (fun _ => ?_) (fun hb => absurd hb ((by decide)))
    refine ab_iload_n X 2 d_MO_write_175 rfl rfl ?_
    refine ab_bipush (v := 7) X d_MO_write_176 (by decide) ?_
    refine ab_icmp_ne X 186 d_MO_write_178 rfl (fun _ => ?_) (fun hb => absurd hb ((by decide)))
    refine ab_iload_n X 2 d_MO_write_186 rfl rfl ?_
    refine ab_bipush (v := 8) X d_MO_write_187 (by decide) ?_
    refine ab_icmp_ne X 228 d_MO_write_189 rfl (fun _ => ?_) (fun hb => absurd hb ((by decide)))
    refine ab_iload_n X 2 d_MO_write_228 rfl rfl ?_
    refine ab_bipush (v := 12) X d_MO_write_229 (by decide) ?_
    refine ab_icmp_le X 244 d_MO_write_231 rfl (fun hb => absurd hb ((by decide))) (fun _ => ?_)
    refine ab_aload_n X 3 d_MO_write_234 rfl rfl ?_
    refine ab_iload_n X 4 d_MO_write_235 rfl rfl ?_
    refine ab_iload_n X 2 d_MO_write_236 rfl rfl ?_
    refine ab_iload X 1 d_MO_write_237 rfl ?_
    refine ab_iload X 0 d_MO_write_239 rfl ?_
    refine ab_callV (as := [ab_I (nI p1), ab_I (nI 21), ab_I (nI (ch p1 0)), ab_I (nI (ch p1 1))]) X (fun h => by cases h) (x_MO_writeMore21 u10 u10 p1 j (ch p1 0) (ch p1 1) Wq (by omega) hj x1 (by omega) y1 (by omega) ⟨gx0, gx1, gx2⟩ ⟨gy0, gy1, gy2⟩ (by omega) h10) lk_MO_257 d_MO_write_241 rfl rfl (by first | assumption | decide | (show _ < 124; omega) | (show _ < 61; omega) | (show _ < 20; omega)) ⟨by first | exact Nat.le_of_ble_eq_true rfl | (simp only [ab_rm]; omega), by first | exact Nat.le_of_ble_eq_true rfl | (simp only [ab_rm]; omega)⟩ ⟨by first | exact Nat.le_of_ble_eq_true rfl | (simp only [ab_rm]; omega), by first | exact Nat.le_of_ble_eq_true rfl | (simp only [ab_rm]; omega)⟩ (Nat.le_of_ble_eq_true rfl) (fun u241 r241 h241 => ?_)
    obtain ⟨q241, rfl⟩ := h241
    have P241 := q241.1
    exact ab_retv X hr0 hlk d_MO_write_244 ⟨ww.done P10 q241 (by rw [eW] <;> first | rfl | simp), rfl⟩
  ·
    have eW : wds kd ar cn 22 p1 (fun i => Wq (cp ch 22 p1 i) (cj cn 22 p1 i)) = (Wq (ch p1 0) 1) ++ [15000] ++ (Wq (ch p1 1) 2) ++ [14000] := rfl
    rw [eW] at hK
    simp only [List.length_append, List.length_cons, List.length_nil] at hK
    obtain ⟨x, y, ex, ey, x1, x2, y1, y2, l0, l1, l2, rfl, rfl⟩ := W.two T hp (by omega)
    refine ab_aload_n X 0 d_MO_write_0 rfl rfl ?_
    refine ab_bipush (v := 100) X d_MO_write_1 (by decide) ?_
    refine ab_iload_n X 2 d_MO_write_3 rfl rfl ?_
    refine ab_imul X d_MO_write_4 ?_
    refine ab_top (nI_100m _) ?_
    refine ab_putI X fp_MO_63 d_MO_write_5 (by first | assumption | decide | (show _ < 124; omega) | (show _ < 61; omega) | (show _ < 20; omega)) rfl rfl ?_
    refine ab_gen (fun u5 e5 => ?_)
    have P5 : gP [16, 17] u u5 := by rw [e5]; exact P0.ui rfl (by decide)
    refine ab_aload_n X 0 d_MO_write_8 rfl rfl ?_
    refine ab_iconst (v := 0) X d_MO_write_9 (by decide) ?_
    refine ab_putI X fp_MO_60 d_MO_write_10 (by first | assumption | decide | (show _ < 124; omega) | (show _ < 61; omega) | (show _ < 20; omega)) rfl rfl ?_
    refine ab_gen (fun u10 e10 => ?_)
    have P10 : gP [16, 17] u u10 := by rw [e10]; exact P5.ui rfl (by decide)
    have h10 : ww u10 u10 (100 * (3 * p1 + j)) [] := ⟨gP.rf P10.1, by rw [e10, e5]; simp [ab_up], by rw [e10]; simp [ab_up]; rfl, fun i hi => absurd hi (Nat.not_lt_zero i), fun _ _ => rfl⟩
    have T10 := T.fr P10 (by decide) (by decide) (by decide) (by decide) (by decide)
    have G10 : ∀ c, p1 < c → c < P → rg u10 (3 * c) (Wq c 0) ∧ rg u10 (3 * c + 1) (Wq c 1) ∧ rg u10 (3 * c + 2) (Wq c 2) := fun c x y => ⟨(G c x y).1.fr P10 (by decide) (by decide), (G c x y).2.1.fr P10 (by decide) (by decide), (G c x y).2.2.fr P10 (by decide) (by decide)⟩
    refine ab_aload_n X 0 d_MO_write_13 rfl rfl ?_
    refine ab_gR X fl_MO_45 d_MO_write_14 (by first | assumption | decide | (show _ < 124; omega) | (show _ < 61; omega) | (show _ < 20; omega)) (P10.1.mo11) ?_
    refine ab_iload_n X 2 d_MO_write_17 rfl rfl ?_
    refine ab_iald X (3 * p1 + j) ⟨rfl, rfl⟩ d_MO_write_18 (by first | assumption | decide | (show _ < 124; omega) | (show _ < 61; omega) | (show _ < 20; omega)) (rfl) (show 3 * p1 + j < 72 by omega) (ab_ln_lt _ _) ?_
    refine ab_top (P10.ai (by decide) ew) ?_
    refine ab_istore_n3 X 0 1 2 d_MO_write_19 rfl (by decide) rfl rfl rfl rfl rfl rfl ?_
    refine ab_aload_n X 1 d_MO_write_20 rfl rfl ?_
    refine ab_gR X fl_MO_42 d_MO_write_21 (by first | assumption | decide | (show _ < 124; omega) | (show _ < 61; omega) | (show _ < 20; omega)) (P10.1.mo10) ?_
    refine ab_iconst (v := 4) X d_MO_write_24 (by decide) ?_
    refine ab_iload_n X 2 d_MO_write_25 rfl rfl ?_
    refine ab_imul X d_MO_write_26 ?_
    refine ab_iald X (4 * p1) ⟨rfl, rfl⟩ d_MO_write_27 (by first | assumption | decide | (show _ < 124; omega) | (show _ < 61; omega) | (show _ < 20; omega)) (nI_4m p1) (show 4 * p1 < 160 by omega) (ab_ln_lt _ _) ?_
    refine ab_top (P10.ai (by decide) ex) ?_
    refine ab_istore4 X 0 1 2 3 d_MO_write_28 (by decide) rfl rfl rfl rfl rfl rfl rfl rfl ?_
    refine ab_aload_n X 2 d_MO_write_30 rfl rfl ?_
    refine ab_gR X fl_MO_42 d_MO_write_31 (by first | assumption | decide | (show _ < 124; omega) | (show _ < 61; omega) | (show _ < 20; omega)) (P10.1.mo10) ?_
    refine ab_iconst (v := 4) X d_MO_write_34 (by decide) ?_
    refine ab_iload_n X 3 d_MO_write_35 rfl rfl ?_
    refine ab_imul X d_MO_write_36 ?_
    refine ab_iconst (v := 1) X d_MO_write_37 (by decide) ?_
    refine ab_iadd X d_MO_write_38 ?_
    refine ab_iald X (4 * p1 + 1) ⟨rfl, rfl⟩ d_MO_write_39 (by first | assumption | decide | (show _ < 124; omega) | (show _ < 61; omega) | (show _ < 20; omega)) (nI_4b p1) (show 4 * p1 + 1 < 160 by omega) (ab_ln_lt _ _) ?_
    refine ab_top (P10.ai (by decide) ey) ?_
    obtain ⟨gx0, gx1, gx2⟩ := G10 _ x1 x2
    obtain ⟨gy0, gy1, gy2⟩ := G10 _ y1 y2
    refine ab_istore5 X 0 1 2 3 4 d_MO_write_40 (by decide) rfl rfl rfl rfl rfl rfl rfl rfl rfl rfl ?_
    refine ab_iload_n X 2 d_MO_write_42 rfl rfl ?_
    refine ab_iconst (v := 1) X d_MO_write_43 (by decide) ?_
    refine ab_icmp_eq X 59 d_MO_write_44 rfl (fun hb => absurd hb ((by decide))) (fun _ => ?_)
    refine ab_iload_n X 2 d_MO_write_47 rfl rfl ?_
    refine ab_bipush (v := 11) X d_MO_write_48 (by decide) ?_
    refine ab_icmp_eq X 59 d_MO_write_50 rfl (fun hb => absurd hb ((by decide))) (fun _ => ?_)
    refine ab_iload_n X 2 d_MO_write_53 rfl rfl ?_
    refine ab_bipush (v := 12) X d_MO_write_54 (by decide) ?_
    refine ab_icmp_ne X 75 d_MO_write_56 rfl (fun _ => ?_) (fun hb => absurd hb ((by decide)))
    refine ab_iload_n X 2 d_MO_write_75 rfl rfl ?_
    refine ab_iconst (v := 2) X d_MO_write_76 (by decide) ?_
    refine ab_icmp_ne X 96 d_MO_write_77 rfl (fun _ => ?_) (fun hb => absurd hb ((by decide)))
    refine ab_iload_n X 2 d_MO_write_96 rfl rfl ?_
    refine ab_iconst (v := 3) X d_MO_write_97 (by decide) ?_
    refine ab_icmp_ne X 117 d_MO_write_98 rfl (fun _ => ?_) (fun hb => absurd hb ((by decide)))
    refine ab_iload_n X 2 d_MO_write_117 rfl rfl ?_
    refine ab_iconst (v := 4) X d_MO_write_118 (by decide) ?_
    refine ab_icmp_ne X 136 d_MO_write_119 rfl (fun _ => ?_) (fun hb => absurd hb ((by decide)))
    refine ab_iload_n X 2 d_MO_write_136 rfl rfl ?_
    refine ab_iconst (v := 5) X d_MO_write_137 (by decide) ?_
    refine ab_icmp_ne X 155 d_MO_write_138 rfl (fun _ => ?_) (fun hb => absurd hb ((by decide)))
    refine ab_iload_n X 2 d_MO_write_155 rfl rfl ?_
    refine ab_bipush (v := 6) X d_MO_write_156 (by decide) ?_
    refine ab_icmp_ne X 175 d_MO_write_158 rfl (fun _ => ?_) (fun hb => absurd hb ((by decide)))
    refine ab_iload_n X 2 d_MO_write_175 rfl rfl ?_
    refine ab_bipush (v := 7) X d_MO_write_176 (by decide) ?_
    refine ab_icmp_ne X 186 d_MO_write_178 rfl (fun _ => ?_) (fun hb => absurd hb ((by decide)))
    refine ab_iload_n X 2 d_MO_write_186 rfl rfl ?_
    refine ab_bipush (v := 8) X d_MO_write_187 (by decide) ?_
    refine ab_icmp_ne X 228 d_MO_write_189 rfl (fun _ => ?_) (fun hb => absurd hb ((by decide)))
    refine ab_iload_n X 2 d_MO_write_228 rfl rfl ?_
    refine ab_bipush (v := 12) X d_MO_write_229 (by decide) ?_
    refine ab_icmp_le X 244 d_MO_write_231 rfl (fun hb => absurd hb ((by decide))) (fun _ => ?_)
    refine ab_aload_n X 3 d_MO_write_234 rfl rfl ?_
    refine ab_iload_n X 4 d_MO_write_235 rfl rfl ?_
    refine ab_iload_n X 2 d_MO_write_236 rfl rfl ?_
    refine ab_iload X 1 d_MO_write_237 rfl ?_
    refine ab_iload X 0 d_MO_write_239 rfl ?_
    refine ab_callV (as := [ab_I (nI p1), ab_I (nI 22), ab_I (nI (ch p1 0)), ab_I (nI (ch p1 1))]) X (fun h => by cases h) (x_MO_writeMore22 u10 u10 p1 j (ch p1 0) (ch p1 1) Wq (by omega) hj x1 (by omega) y1 (by omega) ⟨gx0, gx1, gx2⟩ ⟨gy0, gy1, gy2⟩ (by omega) h10) lk_MO_257 d_MO_write_241 rfl rfl (by first | assumption | decide | (show _ < 124; omega) | (show _ < 61; omega) | (show _ < 20; omega)) ⟨by first | exact Nat.le_of_ble_eq_true rfl | (simp only [ab_rm]; omega), by first | exact Nat.le_of_ble_eq_true rfl | (simp only [ab_rm]; omega)⟩ ⟨by first | exact Nat.le_of_ble_eq_true rfl | (simp only [ab_rm]; omega), by first | exact Nat.le_of_ble_eq_true rfl | (simp only [ab_rm]; omega)⟩ (Nat.le_of_ble_eq_true rfl) (fun u241 r241 h241 => ?_)
    obtain ⟨q241, rfl⟩ := h241
    have P241 := q241.1
    exact ab_retv X hr0 hlk d_MO_write_244 ⟨ww.done P10 q241 (by rw [eW] <;> first | rfl | simp), rfl⟩
  ·
    have eW : wds kd ar cn 23 p1 (fun i => Wq (cp ch 23 p1 i) (cj cn 23 p1 i)) = [12000] ++ (Wq (ch p1 0) 2) ++ [13000] ++ (Wq (ch p1 1) 2) ++ [14000] := rfl
    rw [eW] at hK
    simp only [List.length_append, List.length_cons, List.length_nil] at hK
    obtain ⟨x, y, ex, ey, x1, x2, y1, y2, l0, l1, l2, rfl, rfl⟩ := W.two T hp (by omega)
    refine ab_aload_n X 0 d_MO_write_0 rfl rfl ?_
    refine ab_bipush (v := 100) X d_MO_write_1 (by decide) ?_
    refine ab_iload_n X 2 d_MO_write_3 rfl rfl ?_
    refine ab_imul X d_MO_write_4 ?_
    refine ab_top (nI_100m _) ?_
    refine ab_putI X fp_MO_63 d_MO_write_5 (by first | assumption | decide | (show _ < 124; omega) | (show _ < 61; omega) | (show _ < 20; omega)) rfl rfl ?_
    refine ab_gen (fun u5 e5 => ?_)
    have P5 : gP [16, 17] u u5 := by rw [e5]; exact P0.ui rfl (by decide)
    refine ab_aload_n X 0 d_MO_write_8 rfl rfl ?_
    refine ab_iconst (v := 0) X d_MO_write_9 (by decide) ?_
    refine ab_putI X fp_MO_60 d_MO_write_10 (by first | assumption | decide | (show _ < 124; omega) | (show _ < 61; omega) | (show _ < 20; omega)) rfl rfl ?_
    refine ab_gen (fun u10 e10 => ?_)
    have P10 : gP [16, 17] u u10 := by rw [e10]; exact P5.ui rfl (by decide)
    have h10 : ww u10 u10 (100 * (3 * p1 + j)) [] := ⟨gP.rf P10.1, by rw [e10, e5]; simp [ab_up], by rw [e10]; simp [ab_up]; rfl, fun i hi => absurd hi (Nat.not_lt_zero i), fun _ _ => rfl⟩
    have T10 := T.fr P10 (by decide) (by decide) (by decide) (by decide) (by decide)
    have G10 : ∀ c, p1 < c → c < P → rg u10 (3 * c) (Wq c 0) ∧ rg u10 (3 * c + 1) (Wq c 1) ∧ rg u10 (3 * c + 2) (Wq c 2) := fun c x y => ⟨(G c x y).1.fr P10 (by decide) (by decide), (G c x y).2.1.fr P10 (by decide) (by decide), (G c x y).2.2.fr P10 (by decide) (by decide)⟩
    refine ab_aload_n X 0 d_MO_write_13 rfl rfl ?_
    refine ab_gR X fl_MO_45 d_MO_write_14 (by first | assumption | decide | (show _ < 124; omega) | (show _ < 61; omega) | (show _ < 20; omega)) (P10.1.mo11) ?_
    refine ab_iload_n X 2 d_MO_write_17 rfl rfl ?_
    refine ab_iald X (3 * p1 + j) ⟨rfl, rfl⟩ d_MO_write_18 (by first | assumption | decide | (show _ < 124; omega) | (show _ < 61; omega) | (show _ < 20; omega)) (rfl) (show 3 * p1 + j < 72 by omega) (ab_ln_lt _ _) ?_
    refine ab_top (P10.ai (by decide) ew) ?_
    refine ab_istore_n3 X 0 1 2 d_MO_write_19 rfl (by decide) rfl rfl rfl rfl rfl rfl ?_
    refine ab_aload_n X 1 d_MO_write_20 rfl rfl ?_
    refine ab_gR X fl_MO_42 d_MO_write_21 (by first | assumption | decide | (show _ < 124; omega) | (show _ < 61; omega) | (show _ < 20; omega)) (P10.1.mo10) ?_
    refine ab_iconst (v := 4) X d_MO_write_24 (by decide) ?_
    refine ab_iload_n X 2 d_MO_write_25 rfl rfl ?_
    refine ab_imul X d_MO_write_26 ?_
    refine ab_iald X (4 * p1) ⟨rfl, rfl⟩ d_MO_write_27 (by first | assumption | decide | (show _ < 124; omega) | (show _ < 61; omega) | (show _ < 20; omega)) (nI_4m p1) (show 4 * p1 < 160 by omega) (ab_ln_lt _ _) ?_
    refine ab_top (P10.ai (by decide) ex) ?_
    refine ab_istore4 X 0 1 2 3 d_MO_write_28 (by decide) rfl rfl rfl rfl rfl rfl rfl rfl ?_
    refine ab_aload_n X 2 d_MO_write_30 rfl rfl ?_
    refine ab_gR X fl_MO_42 d_MO_write_31 (by first | assumption | decide | (show _ < 124; omega) | (show _ < 61; omega) | (show _ < 20; omega)) (P10.1.mo10) ?_
    refine ab_iconst (v := 4) X d_MO_write_34 (by decide) ?_
    refine ab_iload_n X 3 d_MO_write_35 rfl rfl ?_
    refine ab_imul X d_MO_write_36 ?_
    refine ab_iconst (v := 1) X d_MO_write_37 (by decide) ?_
    refine ab_iadd X d_MO_write_38 ?_
    refine ab_iald X (4 * p1 + 1) ⟨rfl, rfl⟩ d_MO_write_39 (by first | assumption | decide | (show _ < 124; omega) | (show _ < 61; omega) | (show _ < 20; omega)) (nI_4b p1) (show 4 * p1 + 1 < 160 by omega) (ab_ln_lt _ _) ?_
    refine ab_top (P10.ai (by decide) ey) ?_
    obtain ⟨gx0, gx1, gx2⟩ := G10 _ x1 x2
    obtain ⟨gy0, gy1, gy2⟩ := G10 _ y1 y2
    refine ab_istore5 X 0 1 2 3 4 d_MO_write_40 (by decide) rfl rfl rfl rfl rfl rfl rfl rfl rfl rfl ?_
    refine ab_iload_n X 2 d_MO_write_42 rfl rfl ?_
    refine ab_iconst (v := 1) X d_MO_write_43 (by decide) ?_
    refine ab_icmp_eq X 59 d_MO_write_44 rfl (fun hb => absurd hb ((by decide))) (fun _ => ?_)
    refine ab_iload_n X 2 d_MO_write_47 rfl rfl ?_
    refine ab_bipush (v := 11) X d_MO_write_48 (by decide) ?_
    refine ab_icmp_eq X 59 d_MO_write_50 rfl (fun hb => absurd hb ((by decide))) (fun _ => ?_)
    refine ab_iload_n X 2 d_MO_write_53 rfl rfl ?_
    refine ab_bipush (v := 12) X d_MO_write_54 (by decide) ?_
    refine ab_icmp_ne X 75 d_MO_write_56 rfl (fun _ => ?_) (fun hb => absurd hb ((by decide)))
    refine ab_iload_n X 2 d_MO_write_75 rfl rfl ?_
    refine ab_iconst (v := 2) X d_MO_write_76 (by decide) ?_
    refine ab_icmp_ne X 96 d_MO_write_77 rfl (fun _ => ?_) (fun hb => absurd hb ((by decide)))
    refine ab_iload_n X 2 d_MO_write_96 rfl rfl ?_
    refine ab_iconst (v := 3) X d_MO_write_97 (by decide) ?_
    refine ab_icmp_ne X 117 d_MO_write_98 rfl (fun _ => ?_) (fun hb => absurd hb ((by decide)))
    refine ab_iload_n X 2 d_MO_write_117 rfl rfl ?_
    refine ab_iconst (v := 4) X d_MO_write_118 (by decide) ?_
    refine ab_icmp_ne X 136 d_MO_write_119 rfl (fun _ => ?_) (fun hb => absurd hb ((by decide)))
    refine ab_iload_n X 2 d_MO_write_136 rfl rfl ?_
    refine ab_iconst (v := 5) X d_MO_write_137 (by decide) ?_
    refine ab_icmp_ne X 155 d_MO_write_138 rfl (fun _ => ?_) (fun hb => absurd hb ((by decide)))
    refine ab_iload_n X 2 d_MO_write_155 rfl rfl ?_
    refine ab_bipush (v := 6) X d_MO_write_156 (by decide) ?_
    refine ab_icmp_ne X 175 d_MO_write_158 rfl (fun _ => ?_) (fun hb => absurd hb ((by decide)))
    refine ab_iload_n X 2 d_MO_write_175 rfl rfl ?_
    refine ab_bipush (v := 7) X d_MO_write_176 (by decide) ?_
    refine ab_icmp_ne X 186 d_MO_write_178 rfl (fun _ => ?_) (fun hb => absurd hb ((by decide)))
    refine ab_iload_n X 2 d_MO_write_186 rfl rfl ?_
    refine ab_bipush (v := 8) X d_MO_write_187 (by decide) ?_
    refine ab_icmp_ne X 228 d_MO_write_189 rfl (fun _ => ?_) (fun hb => absurd hb ((by decide)))
    refine ab_iload_n X 2 d_MO_write_228 rfl rfl ?_
    refine ab_bipush (v := 12) X d_MO_write_229 (by decide) ?_
    refine ab_icmp_le X 244 d_MO_write_231 rfl (fun hb => absurd hb ((by decide))) (fun _ => ?_)
    refine ab_aload_n X 3 d_MO_write_234 rfl rfl ?_
    refine ab_iload_n X 4 d_MO_write_235 rfl rfl ?_
    refine ab_iload_n X 2 d_MO_write_236 rfl rfl ?_
    refine ab_iload X 1 d_MO_write_237 rfl ?_
    refine ab_iload X 0 d_MO_write_239 rfl ?_
    refine ab_callV (as := [ab_I (nI p1), ab_I (nI 23), ab_I (nI (ch p1 0)), ab_I (nI (ch p1 1))]) X (fun h => by cases h) (x_MO_writeMore23 u10 u10 p1 j (ch p1 0) (ch p1 1) Wq (by omega) hj x1 (by omega) y1 (by omega) ⟨gx0, gx1, gx2⟩ ⟨gy0, gy1, gy2⟩ (by omega) h10) lk_MO_257 d_MO_write_241 rfl rfl (by first | assumption | decide | (show _ < 124; omega) | (show _ < 61; omega) | (show _ < 20; omega)) ⟨by first | exact Nat.le_of_ble_eq_true rfl | (simp only [ab_rm]; omega), by first | exact Nat.le_of_ble_eq_true rfl | (simp only [ab_rm]; omega)⟩ ⟨by first | exact Nat.le_of_ble_eq_true rfl | (simp only [ab_rm]; omega), by first | exact Nat.le_of_ble_eq_true rfl | (simp only [ab_rm]; omega)⟩ (Nat.le_of_ble_eq_true rfl) (fun u241 r241 h241 => ?_)
    obtain ⟨q241, rfl⟩ := h241
    have P241 := q241.1
    exact ab_retv X hr0 hlk d_MO_write_244 ⟨ww.done P10 q241 (by rw [eW] <;> first | rfl | simp), rfl⟩
  ·
    have eW : wds kd ar cn 24 p1 (fun i => Wq (cp ch 24 p1 i) (cj cn 24 p1 i)) = Wq p1 0 ++ [5000] := by
      show cat _ 1 ++ [5000] = _
      rw [cat_1]; rfl
    rw [eW] at hK
    simp only [List.length_append, List.length_cons, List.length_nil] at hK
    refine ab_aload_n X 0 d_MO_write_0 rfl rfl ?_
    refine ab_bipush (v := 100) X d_MO_write_1 (by decide) ?_
    refine ab_iload_n X 2 d_MO_write_3 rfl rfl ?_
    refine ab_imul X d_MO_write_4 ?_
    refine ab_top (nI_100m _) ?_
    refine ab_putI X fp_MO_63 d_MO_write_5 (by first | assumption | decide | (show _ < 124; omega) | (show _ < 61; omega) | (show _ < 20; omega)) rfl rfl ?_
    refine ab_gen (fun u5 e5 => ?_)
    have P5 : gP [16, 17] u u5 := by rw [e5]; exact P0.ui rfl (by decide)
    refine ab_aload_n X 0 d_MO_write_8 rfl rfl ?_
    refine ab_iconst (v := 0) X d_MO_write_9 (by decide) ?_
    refine ab_putI X fp_MO_60 d_MO_write_10 (by first | assumption | decide | (show _ < 124; omega) | (show _ < 61; omega) | (show _ < 20; omega)) rfl rfl ?_
    refine ab_gen (fun u10 e10 => ?_)
    have P10 : gP [16, 17] u u10 := by rw [e10]; exact P5.ui rfl (by decide)
    have h10 : ww u10 u10 (100 * (3 * p1 + j)) [] := ⟨gP.rf P10.1, by rw [e10, e5]; simp [ab_up], by rw [e10]; simp [ab_up]; rfl, fun i hi => absurd hi (Nat.not_lt_zero i), fun _ _ => rfl⟩
    have T10 := T.fr P10 (by decide) (by decide) (by decide) (by decide) (by decide)
    have G10 : ∀ c, p1 < c → c < P → rg u10 (3 * c) (Wq c 0) ∧ rg u10 (3 * c + 1) (Wq c 1) ∧ rg u10 (3 * c + 2) (Wq c 2) := fun c x y => ⟨(G c x y).1.fr P10 (by decide) (by decide), (G c x y).2.1.fr P10 (by decide) (by decide), (G c x y).2.2.fr P10 (by decide) (by decide)⟩
    refine ab_aload_n X 0 d_MO_write_13 rfl rfl ?_
    refine ab_gR X fl_MO_45 d_MO_write_14 (by first | assumption | decide | (show _ < 124; omega) | (show _ < 61; omega) | (show _ < 20; omega)) (P10.1.mo11) ?_
    refine ab_iload_n X 2 d_MO_write_17 rfl rfl ?_
    refine ab_iald X (3 * p1 + j) ⟨rfl, rfl⟩ d_MO_write_18 (by first | assumption | decide | (show _ < 124; omega) | (show _ < 61; omega) | (show _ < 20; omega)) (rfl) (show 3 * p1 + j < 72 by omega) (ab_ln_lt _ _) ?_
    refine ab_top (P10.ai (by decide) ew) ?_
    refine ab_istore_n3 X 0 1 2 d_MO_write_19 rfl (by decide) rfl rfl rfl rfl rfl rfl ?_
    refine ab_aload_n X 1 d_MO_write_20 rfl rfl ?_
    refine ab_gR X fl_MO_42 d_MO_write_21 (by first | assumption | decide | (show _ < 124; omega) | (show _ < 61; omega) | (show _ < 20; omega)) (P10.1.mo10) ?_
    refine ab_iconst (v := 4) X d_MO_write_24 (by decide) ?_
    refine ab_iload_n X 2 d_MO_write_25 rfl rfl ?_
    refine ab_imul X d_MO_write_26 ?_
    refine ab_iald X (4 * p1) ⟨rfl, rfl⟩ d_MO_write_27 (by first | assumption | decide | (show _ < 124; omega) | (show _ < 61; omega) | (show _ < 20; omega)) (nI_4m p1) (show 4 * p1 < 160 by omega) (ab_ln_lt _ _) ?_
    refine ab_istore4 X 0 1 2 3 d_MO_write_28 (by decide) rfl rfl rfl rfl rfl rfl rfl rfl ?_
    refine ab_aload_n X 2 d_MO_write_30 rfl rfl ?_
    refine ab_gR X fl_MO_42 d_MO_write_31 (by first | assumption | decide | (show _ < 124; omega) | (show _ < 61; omega) | (show _ < 20; omega)) (P10.1.mo10) ?_
    refine ab_iconst (v := 4) X d_MO_write_34 (by decide) ?_
    refine ab_iload_n X 3 d_MO_write_35 rfl rfl ?_
    refine ab_imul X d_MO_write_36 ?_
    refine ab_iconst (v := 1) X d_MO_write_37 (by decide) ?_
    refine ab_iadd X d_MO_write_38 ?_
    refine ab_iald X (4 * p1 + 1) ⟨rfl, rfl⟩ d_MO_write_39 (by first | assumption | decide | (show _ < 124; omega) | (show _ < 61; omega) | (show _ < 20; omega)) (nI_4b p1) (show 4 * p1 + 1 < 160 by omega) (ab_ln_lt _ _) ?_
    have gB := (hO (by omega)).fr P10 (by decide) (by decide)
    refine ab_istore5 X 0 1 2 3 4 d_MO_write_40 (by decide) rfl rfl rfl rfl rfl rfl rfl rfl rfl rfl ?_
    refine ab_iload_n X 2 d_MO_write_42 rfl rfl ?_
    refine ab_iconst (v := 1) X d_MO_write_43 (by decide) ?_
    refine ab_icmp_eq X 59 d_MO_write_44 rfl (fun hb => absurd hb ((by decide))) (fun _ => ?_)
    refine ab_iload_n X 2 d_MO_write_47 rfl rfl ?_
    refine ab_bipush (v := 11) X d_MO_write_48 (by decide) ?_
    refine ab_icmp_eq X 59 d_MO_write_50 rfl (fun hb => absurd hb ((by decide))) (fun _ => ?_)
    refine ab_iload_n X 2 d_MO_write_53 rfl rfl ?_
    refine ab_bipush (v := 12) X d_MO_write_54 (by decide) ?_
    refine ab_icmp_ne X 75 d_MO_write_56 rfl (fun _ => ?_) (fun hb => absurd hb ((by decide)))
    refine ab_iload_n X 2 d_MO_write_75 rfl rfl ?_
    refine ab_iconst (v := 2) X d_MO_write_76 (by decide) ?_
    refine ab_icmp_ne X 96 d_MO_write_77 rfl (fun _ => ?_) (fun hb => absurd hb ((by decide)))
    refine ab_iload_n X 2 d_MO_write_96 rfl rfl ?_
    refine ab_iconst (v := 3) X d_MO_write_97 (by decide) ?_
    refine ab_icmp_ne X 117 d_MO_write_98 rfl (fun _ => ?_) (fun hb => absurd hb ((by decide)))
    refine ab_iload_n X 2 d_MO_write_117 rfl rfl ?_
    refine ab_iconst (v := 4) X d_MO_write_118 (by decide) ?_
    refine ab_icmp_ne X 136 d_MO_write_119 rfl (fun _ => ?_) (fun hb => absurd hb ((by decide)))
    refine ab_iload_n X 2 d_MO_write_136 rfl rfl ?_
    refine ab_iconst (v := 5) X d_MO_write_137 (by decide) ?_
    refine ab_icmp_ne X 155 d_MO_write_138 rfl (fun _ => ?_) (fun hb => absurd hb ((by decide)))
    refine ab_iload_n X 2 d_MO_write_155 rfl rfl ?_
    refine ab_bipush (v := 6) X d_MO_write_156 (by decide) ?_
    refine ab_icmp_ne X 175 d_MO_write_158 rfl (fun _ => ?_) (fun hb => absurd hb ((by decide)))
    refine ab_iload_n X 2 d_MO_write_175 rfl rfl ?_
    refine ab_bipush (v := 7) X d_MO_write_176 (by decide) ?_
    refine ab_icmp_ne X 186 d_MO_write_178 rfl (fun _ => ?_) (fun hb => absurd hb ((by decide)))
    refine ab_iload_n X 2 d_MO_write_186 rfl rfl ?_
    refine ab_bipush (v := 8) X d_MO_write_187 (by decide) ?_
    refine ab_icmp_ne X 228 d_MO_write_189 rfl (fun _ => ?_) (fun hb => absurd hb ((by decide)))
    refine ab_iload_n X 2 d_MO_write_228 rfl rfl ?_
    refine ab_bipush (v := 12) X d_MO_write_229 (by decide) ?_
    refine ab_icmp_le X 244 d_MO_write_231 rfl (fun hb => absurd hb ((by decide))) (fun _ => ?_)
    refine ab_aload_n X 3 d_MO_write_234 rfl rfl ?_
    refine ab_iload_n X 4 d_MO_write_235 rfl rfl ?_
    refine ab_iload_n X 2 d_MO_write_236 rfl rfl ?_
    refine ab_iload X 1 d_MO_write_237 rfl ?_
    refine ab_iload X 0 d_MO_write_239 rfl ?_
    refine ab_callV (as := [ab_I (nI p1), ab_I (nI 24), ab_I _, ab_I _]) X (fun h => by cases h) (x_MO_writeMore24 u10 u10 p1 j _ _ (Wq p1 0) (by omega) hj (by omega) gB (by omega) h10) lk_MO_257 d_MO_write_241 rfl rfl (by first | assumption | decide | (show _ < 124; omega) | (show _ < 61; omega) | (show _ < 20; omega)) ⟨by first | exact Nat.le_of_ble_eq_true rfl | (simp only [ab_rm]; omega), by first | exact Nat.le_of_ble_eq_true rfl | (simp only [ab_rm]; omega)⟩ ⟨by first | exact Nat.le_of_ble_eq_true rfl | (simp only [ab_rm]; omega), by first | exact Nat.le_of_ble_eq_true rfl | (simp only [ab_rm]; omega)⟩ (Nat.le_of_ble_eq_true rfl) (fun u241 r241 h241 => ?_)
    obtain ⟨q241, rfl⟩ := h241
    have P241 := q241.1
    exact ab_retv X hr0 hlk d_MO_write_244 ⟨ww.done P10 q241 (by rw [eW] <;> first | rfl | simp), rfl⟩
end SaXMSay

