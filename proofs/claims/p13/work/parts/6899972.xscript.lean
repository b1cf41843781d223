/-! The script: which words are written, and which forms are kept. -/
/-- words and forms so far -/
def sX (u : ab_S) (ws fs : List Nat) : Prop := u.1 5 0 2 = nI ws.length ∧ (∀ i, i < ws.length → u.1 13 0 i = nI (ws.getD i 0)) ∧ u.1 5 0 3 = nI fs.length ∧ ∀ i, i < fs.length → u.2.1 14 0 i = some (3, fs.getD i 0)
theorem sX.cast {u : ab_S} {ws ws' fs fs' : List Nat} (h : sX u ws fs) (e1 : ws = ws') (e2 : fs = fs') : sX u ws' fs' := e1 ▸ e2 ▸ h
theorem sX.cp {K : List Nat} {u u' : ab_S} {ws fs : List Nat} (h : sX u ws fs) (g : cP K u u') (h5 : ¬ 5 ∈ K) (h13 : ¬ 13 ∈ K) (h14 : ¬ 14 ∈ K) : sX u' ws fs := ⟨g.ii h5 h.1, fun i hi => g.ii h13 (h.2.1 i hi), g.ii h5 h.2.2.1, fun i hi => g.rr h14 (h.2.2.2 i hi)⟩
section SaXScript
variable {l : Launch} {D : va_G} {ca : Nat → ClassId}
set_option maxRecDepth 100000 in
set_option maxHeartbeats 1000000 in
theorem x_SC_start (u : ab_S) (h : CI u) : ab_C false l D ca y_SC_start b_SC_start 1 none 0 ab_nQ u [ab_O 5 0] (fun u' v => (cP [5, 13, 14] u u' ∧ sX u' [] []) ∧ v = none) := by
  refine ab_C.of (by decide) (Nat.le_of_ble_eq_true rfl) ?_
  intro p e s m args below meth c ad X hZ hr0 hlk
  have P0 : cP [5, 13, 14] u u := cQ.rf h
  refine ab_aload_n X 0 d_SC_start_0 rfl rfl ?_
  refine ab_iconst (v := 0) X d_SC_start_1 (by decide) ?_
  refine ab_putI X fp_SC_21 d_SC_start_2 (by first | assumption | decide | (show _ < 124; omega) | (show _ < 61; omega) | (show _ < 20; omega)) rfl rfl ?_
  refine ab_gen (fun u2 e2 => ?_)
  have P2 : cP [5, 13, 14] u u2 := by rw [e2]; exact P0.sc (by decide) (n := 0) (by omega)
  refine ab_aload_n X 0 d_SC_start_5 rfl rfl ?_
  refine ab_iconst (v := 0) X d_SC_start_6 (by decide) ?_
  refine ab_putI X fp_SC_25 d_SC_start_7 (by first | assumption | decide | (show _ < 124; omega) | (show _ < 61; omega) | (show _ < 20; omega)) rfl rfl ?_
  refine ab_gen (fun u7 e7 => ?_)
  have P7 : cP [5, 13, 14] u u7 := by rw [e7]; exact P2.sf (by decide) (n := 0) (by omega) (fun j hj => absurd hj (by omega))
  exact ab_retv X hr0 hlk d_SC_start_10 ⟨⟨P7, by rw [e7, e2]; exact (ui_n _ (by omega)).trans ((ui_s _).trans rfl), fun i hi => absurd hi (Nat.not_lt_zero i), by rw [e7]; exact (ui_s _).trans rfl, fun i hi => absurd hi (Nat.not_lt_zero i)⟩, rfl⟩
set_option maxRecDepth 100000 in
set_option maxHeartbeats 1000000 in
theorem x_SC_addWord (u : ab_S) (a : Nat) (ws fs : List Nat) (h : CI u) (C : sX u ws fs) (hn : ws.length < 128) : ab_C false l D ca y_SC_addWord b_SC_addWord 2 none 0 ab_nQ u [ab_O 5 0, ab_I (nI a)] (fun u' v => (cP [5, 13, 14] u u' ∧ sX u' (ws ++ [a]) fs) ∧ v = none) := by
  refine ab_C.of (by decide) (Nat.le_of_ble_eq_true rfl) ?_
  intro p e s m args below meth c ad X hZ hr0 hlk
  have P0 : cP [5, 13, 14] u u := cQ.rf h
  obtain ⟨en, ew, ek, ef⟩ := C
  refine ab_aload_n X 0 d_SC_addWord_0 rfl rfl ?_
  refine ab_gI X fl_SC_21 d_SC_addWord_1 (by first | assumption | decide | (show _ < 124; omega) | (show _ < 61; omega) | (show _ < 20; omega)) (en) ?_
  refine ab_sipush (v := 128) X d_SC_addWord_4 (by decide) ?_
  refine ab_icmp_ge X 30 d_SC_addWord_7 rfl (fun hb => absurd hb ((nI_ge (b := 128) hn (by decide)))) (fun _ => ?_)
  refine ab_aload_n X 0 d_SC_addWord_10 rfl rfl ?_
  refine ab_gR X fl_SC_9 d_SC_addWord_11 (by first | assumption | decide | (show _ < 124; omega) | (show _ < 61; omega) | (show _ < 20; omega)) (P0.1.sc0) ?_
  refine ab_aload_n X 0 d_SC_addWord_14 rfl rfl ?_
  refine ab_gI X fl_SC_21 d_SC_addWord_15 (by first | assumption | decide | (show _ < 124; omega) | (show _ < 61; omega) | (show _ < 20; omega)) (en) ?_
  refine ab_iload_n X 1 d_SC_addWord_18 rfl rfl ?_
  refine ab_iast X (ws.length) ⟨rfl, rfl⟩ d_SC_addWord_19 (by first | assumption | decide | (show _ < 124; omega) | (show _ < 61; omega) | (show _ < 20; omega)) (rfl) (hn) (ab_ln_lt _ _) ?_
  refine ab_gen (fun u19 e19 => ?_)
  have P19 : cP [5, 13, 14] u u19 := by rw [e19]; exact P0.ui rfl (by decide)
  refine ab_aload_n X 0 d_SC_addWord_20 rfl rfl ?_
  refine ab_dup X d_SC_addWord_21 rfl ?_
  refine ab_gI X fl_SC_21 d_SC_addWord_22 (by first | assumption | decide | (show _ < 124; omega) | (show _ < 61; omega) | (show _ < 20; omega)) ((show _ = nI ws.length by rw [e19]; exact (ui_n _ (by omega)).trans en)) ?_
  refine ab_iconst (v := 1) X d_SC_addWord_25 (by decide) ?_
  refine ab_iadd X d_SC_addWord_26 ?_
  refine ab_top (nI_1 _) ?_
  refine ab_putI X fp_SC_21 d_SC_addWord_27 (by first | assumption | decide | (show _ < 124; omega) | (show _ < 61; omega) | (show _ < 20; omega)) rfl rfl ?_
  refine ab_gen (fun u27 e27 => ?_)
  have P27 : cP [5, 13, 14] u u27 := by rw [e27]; exact P19.sc (by decide) (by omega)
  exact ab_retv X hr0 hlk d_SC_addWord_30 ⟨⟨P27, by rw [e27, List.length_append]; exact ui_s _, fun i hi => by
      rw [List.length_append] at hi
      have hi : i < ws.length + 1 := hi
      rw [e27, e19]
      by_cases q : i = ws.length
      · rw [q]; exact (ui_n _ (by omega)).trans ((ui_s _).trans (by rw [show ws.length = ws.length + 0 from rfl, gd_app]; rfl))
      · exact (ui_n _ (by omega)).trans ((ui_n _ (by omega)).trans ((ew i (by omega)).trans (by rw [gd_appl (by omega)]))), by rw [e27, e19]; exact (ui_n _ (by omega)).trans ((ui_n _ (by omega)).trans ek), fun i hi => by rw [e27, e19]; exact ef i hi⟩, rfl⟩
set_option maxRecDepth 100000 in
set_option maxHeartbeats 1000000 in
theorem x_SC_addOp (u : ab_S) (a : Nat) (ws fs : List Nat) (h : CI u) (C : sX u ws fs) (hn : ws.length < 128) : ab_C false l D ca y_SC_addOperation b_SC_addOperation 2 none 1 ab_nQ u [ab_O 5 0, ab_I (nI a)] (fun u' v => (cP [5, 13, 14] u u' ∧ sX u' (ws ++ [1000 * a]) fs) ∧ v = none) := by
  refine ab_C.of (by decide) (Nat.le_of_ble_eq_true rfl) ?_
  intro p e s m args below meth c ad X hZ hr0 hlk
  have P0 : cP [5, 13, 14] u u := cQ.rf h
  refine ab_aload_n X 0 d_SC_addOperation_0 rfl rfl ?_
  refine ab_sipush (v := 1000) X d_SC_addOperation_1 (by decide) ?_
  refine ab_iload_n X 1 d_SC_addOperation_4 rfl rfl ?_
  refine ab_imul X d_SC_addOperation_5 ?_
  refine ab_top (pk_mul 1000 a) ?_
  refine ab_callV (as := [ab_I (nI (1000 * a))]) X (fun h => by cases h) (x_SC_addWord u (1000 * a) ws fs h C hn) lk_SC_34 d_SC_addOperation_6 rfl rfl (by first | assumption | decide | (show _ < 124; omega) | (show _ < 61; omega) | (show _ < 20; omega)) ⟨by first | exact Nat.le_of_ble_eq_true rfl | (simp only [ab_rm]; omega), by first | exact Nat.le_of_ble_eq_true rfl | (simp only [ab_rm]; omega)⟩ ⟨by first | exact Nat.le_of_ble_eq_true rfl | (simp only [ab_rm]; omega), by first | exact Nat.le_of_ble_eq_true rfl | (simp only [ab_rm]; omega)⟩ (Nat.le_of_ble_eq_true rfl) (fun u6 r6 h6 => ?_)
  obtain ⟨⟨q6, c6⟩, rfl⟩ := h6
  have P6 := P0.trans q6 (by decide)
  exact ab_retv X hr0 hlk d_SC_addOperation_9 ⟨⟨P6, c6⟩, rfl⟩
set_option maxRecDepth 100000 in
set_option maxHeartbeats 1000000 in
theorem x_SC_keep (u : ab_S) (f : Nat) (ws fs : List Nat) (h : CI u) (hf : f < 61) (C : sX u ws fs) (hk : fs.length < 38) : ab_C false l D ca y_SC_keepForm b_SC_keepForm 2 none 0 ab_nQ u [ab_O 5 0, ab_O 3 f] (fun u' v => (cP [5, 13, 14] u u' ∧ sX u' ws (fs ++ [f])) ∧ v = none) := by
  refine ab_C.of (by decide) (Nat.le_of_ble_eq_true rfl) ?_
  intro p e s m args below meth c ad X hZ hr0 hlk
  have P0 : cP [5, 13, 14] u u := cQ.rf h
  obtain ⟨en, ew, ek, ef⟩ := C
  have he : ∀ j, j < fs.length → ∃ g, g < 61 ∧ u.2.1 14 0 j = some (3, g) := by
    obtain ⟨-, n', hn', en', he⟩ := h.scr
    obtain rfl : n' = fs.length := (nI_eq (by omega) (by omega)).mp (en'.symm.trans ek)
    exact he
  refine ab_aload_n X 0 d_SC_keepForm_0 rfl rfl ?_
  refine ab_gI X fl_SC_25 d_SC_keepForm_1 (by first | assumption | decide | (show _ < 124; omega) | (show _ < 61; omega) | (show _ < 20; omega)) (ek) ?_
  refine ab_aload_n X 0 d_SC_keepForm_4 rfl rfl ?_
  refine ab_gR X fl_SC_17 d_SC_keepForm_5 (by first | assumption | decide | (show _ < 124; omega) | (show _ < 61; omega) | (show _ < 20; omega)) (P0.1.sc1) ?_
  refine ab_alen X ⟨by decide, _, fun _ => rfl⟩ d_SC_keepForm_8 (by first | assumption | decide | (show _ < 124; omega) | (show _ < 61; omega) | (show _ < 20; omega)) (rfl) ?_
  refine ab_icmp_ge X 32 d_SC_keepForm_9 rfl (fun hb => absurd hb ((nI_ge (b := 38) hk (by decide)))) (fun _ => ?_)
  refine ab_aload_n X 0 d_SC_keepForm_12 rfl rfl ?_
  refine ab_gR X fl_SC_17 d_SC_keepForm_13 (by first | assumption | decide | (show _ < 124; omega) | (show _ < 61; omega) | (show _ < 20; omega)) (P0.1.sc1) ?_
  refine ab_aload_n X 0 d_SC_keepForm_16 rfl rfl ?_
  refine ab_gI X fl_SC_25 d_SC_keepForm_17 (by first | assumption | decide | (show _ < 124; omega) | (show _ < 61; omega) | (show _ < 20; omega)) (ek) ?_
  refine ab_aload_n X 1 d_SC_keepForm_20 rfl rfl ?_
  refine ab_aast X (fs.length) ⟨rfl, rfl, _, rfl, fun _ => rfl⟩ d_SC_keepForm_21 (by first | assumption | decide | (show _ < 124; omega) | (show _ < 61; omega) | (show _ < 20; omega)) (by first | assumption | decide | (show _ < 124; omega) | (show _ < 61; omega) | (show _ < 20; omega)) (rfl) (hk) (ab_ln_lt _ _) ?_
  refine ab_gen (fun u21 e21 => ?_)
  have P21 : cP [5, 13, 14] u u21 := by rw [e21]; exact P0.sa (by decide) hf
  refine ab_aload_n X 0 d_SC_keepForm_22 rfl rfl ?_
  refine ab_dup X d_SC_keepForm_23 rfl ?_
  refine ab_gI X fl_SC_25 d_SC_keepForm_24 (by first | assumption | decide | (show _ < 124; omega) | (show _ < 61; omega) | (show _ < 20; omega)) ((show _ = nI fs.length by rw [e21]; exact ek)) ?_
  refine ab_iconst (v := 1) X d_SC_keepForm_27 (by decide) ?_
  refine ab_iadd X d_SC_keepForm_28 ?_
  refine ab_top (nI_1 _) ?_
  refine ab_putI X fp_SC_25 d_SC_keepForm_29 (by first | assumption | decide | (show _ < 124; omega) | (show _ < 61; omega) | (show _ < 20; omega)) rfl rfl ?_
  refine ab_gen (fun u29 e29 => ?_)
  have P29 : cP [5, 13, 14] u u29 := by rw [e29]; exact P21.sf (by decide) (by omega) (fun j hj => by
      by_cases q : j = fs.length
      · subst q; rw [e21]; exact ⟨f, hf, ab_up_s _ _ _ _ _⟩
      · obtain ⟨g', g1, g2⟩ := he j (by omega)
        refine ⟨g', g1, ?_⟩
        rw [e21]
        exact (ab_up_n _ _ (by omega)).trans g2)
  exact ab_retv X hr0 hlk d_SC_keepForm_32 ⟨⟨P29, by rw [e29, e21]; exact (ui_n _ (by omega)).trans en, fun i hi => by rw [e29, e21]; exact (ui_n _ (by omega)).trans (ew i hi), by rw [e29, List.length_append]; exact ui_s _, fun i hi => by
      rw [List.length_append] at hi
      have hi : i < fs.length + 1 := hi
      rw [e29, e21]
      by_cases q : i = fs.length
      · rw [q]; exact (ab_up_s _ _ _ _ _).trans (by rw [show fs.length = fs.length + 0 from rfl, gd_app]; rfl)
      · exact (ab_up_n _ _ (by omega)).trans ((ef i (by omega)).trans (by rw [gd_appl (by omega)]))⟩, rfl⟩
set_option maxRecDepth 100000 in
set_option maxHeartbeats 1000000 in
theorem x_SC_row (Q : ab_S → Prop) (hQ : ∀ u u', Q u → cP [5, 13, 14] u u' → Q u') (cw cf : Nat → List Nat) (d : Nat) (x : Int32) (nc : Nat) (g : Nat → Nat) (W : ∀ (i : Nat) (u : ab_S) (ws fs : List Nat), i < nc → CI u → Q u → sX u ws fs → ws.length + (cw i).length ≤ 128 → fs.length + (cf i).length ≤ 38 → ab_C false l D ca y_SC_write b_SC_write 3 none d ab_nQ u [ab_O 5 0, ab_O 3 (g i), ab_I (x + 1)] (fun u' v => (cP [5, 13, 14] u u' ∧ sX u' (ws ++ cw i) (fs ++ cf i)) ∧ v = none)) (u : ab_S) (f r mk nd : Nat) (ws fs : List Nat) (F : FD u f r (nI mk) (nI nd) nc g) (hc4 : nc ≤ 4) (hg : ∀ i, i < nc → g i < 61) (hQu : Q u) (h : CI u) (hf : f < 61) (C : sX u ws fs) (hd : 2 ≤ d) (hn : ws.length + (cat cw nc).length ≤ 128) (hk : fs.length + (cat cf nc).length ≤ 38) : ab_C false l D ca y_SC_writeRow b_SC_writeRow 4 none (d + 1) ab_nQ u [ab_O 5 0, ab_O 3 f, ab_I x] (fun u' v => (cP [5, 13, 14] u u' ∧ sX u' (ws ++ cat cw nc) (fs ++ cat cf nc)) ∧ v = none) := by
  refine ab_C.of (by decide) (Nat.le_of_ble_eq_true rfl) ?_
  intro p e s m args below meth c ad X hZ hr0 hlk
  have P0 : cP [5, 13, 14] u u := cQ.rf h
  obtain ⟨F1, F2, F3, F4, F5⟩ := F
  rw [cat_len] at hn hk
  have loop : ∀ (k j : Nat) (u1 : ab_S), k + j = nc → cP [5, 13, 14] u u1 → sX u1 (ws ++ cat cw j) (fs ++ cat cf j) → ab_J p l e (ab_rm (d + 1) 0 0) s m args below meth c (MQ below (ab_Q D ca ad ab_nQ s.heap.size (fun u' v => (cP [5, 13, 14] u u' ∧ sX u' (ws ++ cat cw nc) (fs ++ cat cf nc)) ∧ v = none)) args s 0 0 (ab_A ad ab_nQ s.heap.size)) D ca (ab_A ad ab_nQ s.heap.size) s.heap 4 0 0 ad ab_nQ u1 2 [(3, ab_I (nI j)), (0, ab_O 5 0), (1, ab_O 3 f), (2, ab_I x)] [] := by
    intro k
    induction k with
    | zero =>
      intro j u1 hj P1 C1
      obtain rfl : j = nc := by omega
      refine ab_iload_n X 0 d_SC_writeRow_2 rfl rfl ?_
      refine ab_aload_n X 2 d_SC_writeRow_3 rfl rfl ?_
      refine ab_gI X fl_SC_58 d_SC_writeRow_4 (by first | assumption | decide | (show _ < 124; omega) | (show _ < 61; omega) | (show _ < 20; omega)) (P1.ii (by decide) F4) ?_
      refine ab_icmp_ge X 29 d_SC_writeRow_7 rfl (fun _ => ?_) (fun hb => absurd ((nI_le (by omega) (by omega))) hb)
      exact ab_retv X hr0 hlk d_SC_writeRow_29 ⟨⟨P1, C1⟩, rfl⟩
    | succ k ih =>
      intro j u1 hj P1 C1
      have m1 : sm (fun i => (cw i).length) (j + 1) ≤ sm (fun i => (cw i).length) nc := sm_mono _ (by omega)
      have m2 : sm (fun i => (cf i).length) (j + 1) ≤ sm (fun i => (cf i).length) nc := sm_mono _ (by omega)
      have m3 : sm (fun i => (cw i).length) (j + 1) = sm (fun i => (cw i).length) j + (cw j).length := rfl
      have m4 : sm (fun i => (cf i).length) (j + 1) = sm (fun i => (cf i).length) j + (cf j).length := rfl
      have gj := hg j (by omega)
      refine ab_iload_n X 0 d_SC_writeRow_2 rfl rfl ?_
      refine ab_aload_n X 2 d_SC_writeRow_3 rfl rfl ?_
      refine ab_gI X fl_SC_58 d_SC_writeRow_4 (by first | assumption | decide | (show _ < 124; omega) | (show _ < 61; omega) | (show _ < 20; omega)) (P1.ii (by decide) F4) ?_
      refine ab_icmp_ge X 29 d_SC_writeRow_7 rfl (fun hb => absurd hb ((nI_ge (by omega) (by omega)))) (fun _ => ?_)
      refine ab_aload_n X 1 d_SC_writeRow_10 rfl rfl ?_
      refine ab_aload_n X 2 d_SC_writeRow_11 rfl rfl ?_
      refine ab_gR X fl_SC_59 d_SC_writeRow_12 (by first | assumption | decide | (show _ < 124; omega) | (show _ < 61; omega) | (show _ < 20; omega)) (P1.1.fm0 (by first | assumption | decide | omega)) ?_
      refine ab_iload_n X 0 d_SC_writeRow_15 rfl rfl ?_
      refine ab_aalv X (j) ⟨rfl, _, fun _ => rfl⟩ d_SC_writeRow_16 (by first | assumption | decide | (show _ < 124; omega) | (show _ < 61; omega) | (show _ < 20; omega)) (rfl) (show j < 4 by omega) (ab_ln_lt _ _) (P1.rr (by decide) (F5 j (by omega))) ?_
      refine ab_iload_n X 3 d_SC_writeRow_17 rfl rfl ?_
      refine ab_iconst (v := 1) X d_SC_writeRow_18 (by decide) ?_
      refine ab_iadd X d_SC_writeRow_19 ?_
      refine ab_callV (as := [ab_O 3 (g j), ab_I (x + 1)]) X (fun h => by cases h) (W j u1 _ _ (by omega) P1.1 (hQ _ _ hQu P1) C1 (by rw [List.length_append, cat_len]; omega) (by rw [List.length_append, cat_len]; omega)) lk_SC_62 d_SC_writeRow_20 rfl rfl (by first | assumption | decide | (show _ < 124; omega) | (show _ < 61; omega) | (show _ < 20; omega)) ⟨by first | exact Nat.le_of_ble_eq_true rfl | (simp only [ab_rm]; omega), by first | exact Nat.le_of_ble_eq_true rfl | (simp only [ab_rm]; omega)⟩ ⟨by first | exact Nat.le_of_ble_eq_true rfl | (simp only [ab_rm]; omega), by first | exact Nat.le_of_ble_eq_true rfl | (simp only [ab_rm]; omega)⟩ (Nat.le_of_ble_eq_true rfl) (fun u20 r20 h20 => ?_)
      obtain ⟨⟨q20, c20⟩, rfl⟩ := h20
      have P20 := P1.trans q20 (by decide)
      refine ab_iinc3 X 0 1 2 3 d_SC_writeRow_23 rfl (by decide) rfl rfl rfl rfl rfl rfl ?_
      refine ab_goto X 2 d_SC_writeRow_26 rfl ?_
      rw [show nI j + Int32.ofInt 1 = nI (j + 1) from nI_1 j]
      exact ih (j + 1) _ (by omega) P20 (c20.cast (List.append_assoc _ _ _) (List.append_assoc _ _ _))
  refine ab_iconst (v := 0) X d_SC_writeRow_0 (by decide) ?_
  refine ab_istore_n3 X 0 1 2 d_SC_writeRow_1 rfl (by decide) rfl rfl rfl rfl rfl rfl ?_
  exact loop nc 0 _ (by omega) P0 (C.cast (List.append_nil _).symm (List.append_nil _).symm)
set_option maxRecDepth 100000 in
set_option maxHeartbeats 1000000 in
theorem x_SC_aside (Q : ab_S → Prop) (hQ : ∀ u u', Q u → cP [5, 13, 14] u u' → Q u') (cw cf : Nat → List Nat) (d : Nat) (x : Int32) (nc : Nat) (g : Nat → Nat) (W : ∀ (i : Nat) (u : ab_S) (ws fs : List Nat), i < nc → CI u → Q u → sX u ws fs → ws.length + (cw i).length ≤ 128 → fs.length + (cf i).length ≤ 38 → ab_C false l D ca y_SC_write b_SC_write 3 none d ab_nQ u [ab_O 5 0, ab_O 3 (g i), ab_I (x + 1)] (fun u' v => (cP [5, 13, 14] u u' ∧ sX u' (ws ++ cw i) (fs ++ cf i)) ∧ v = none)) (u : ab_S) (f r mk nd : Nat) (ws fs : List Nat) (F : FD u f r (nI mk) (nI nd) nc g) (hc4 : nc ≤ 4) (hg : ∀ i, i < nc → g i < 61) (hQu : Q u) (h : CI u) (hf : f < 61) (C : sX u ws fs) (hd : 2 ≤ d) (h1 : 1 ≤ nc) (hmk : mk < 1000) (hn : ws.length + (asd cw (1000 * mk) nc ++ (if mk = 8 then [9000 + nd] else [])).length ≤ 128) (hk : fs.length + (cat cf nc).length ≤ 38) : ab_C false l D ca y_SC_writeAside b_SC_writeAside 4 none (d + 1) ab_nQ u [ab_O 5 0, ab_O 3 f, ab_I x] (fun u' v => (cP [5, 13, 14] u u' ∧ sX u' (ws ++ (asd cw (1000 * mk) nc ++ (if mk = 8 then [9000 + nd] else []))) (fs ++ cat cf nc)) ∧ v = none) := by
  refine ab_C.of (by decide) (Nat.le_of_ble_eq_true rfl) ?_
  intro p e s m args below meth c ad X hZ hr0 hlk
  have P0 : cP [5, 13, 14] u u := cQ.rf h
  obtain ⟨F1, F2, F3, F4, F5⟩ := F
  rw [List.length_append, asd_len (lw := fun i => (cw i).length) nc (fun _ _ => rfl)] at hn
  rw [cat_len] at hk
  have loop : ∀ (k j : Nat) (u1 : ab_S), k + j = nc → cP [5, 13, 14] u u1 → sX u1 (ws ++ asd cw (1000 * mk) j) (fs ++ cat cf j) → ab_J p l e (ab_rm (d + 1) 0 0) s m args below meth c (MQ below (ab_Q D ca ad ab_nQ s.heap.size (fun u' v => (cP [5, 13, 14] u u' ∧ sX u' (ws ++ (asd cw (1000 * mk) nc ++ (if mk = 8 then [9000 + nd] else []))) (fs ++ cat cf nc)) ∧ v = none)) args s 0 0 (ab_A ad ab_nQ s.heap.size)) D ca (ab_A ad ab_nQ s.heap.size) s.heap 4 0 0 ad ab_nQ u1 2 [(3, ab_I (nI j)), (0, ab_O 5 0), (1, ab_O 3 f), (2, ab_I x)] [] := by
    intro k
    induction k with
    | zero =>
      intro j u1 hj P1 C1
      obtain rfl : j = nc := by omega
      by_cases z8 : mk = 8
      · rw [if_pos z8] at hn ⊢
        have hn1 : ws.length + (sm (fun i => (cw i).length) j + 3 * (j - 1) + 1) ≤ 128 := hn
        refine ab_iload_n X 0 d_SC_writeAside_2 rfl rfl ?_
        refine ab_aload_n X 2 d_SC_writeAside_3 rfl rfl ?_
        refine ab_gI X fl_SC_58 d_SC_writeAside_4 (by first | assumption | decide | (show _ < 124; omega) | (show _ < 61; omega) | (show _ < 20; omega)) (P1.ii (by decide) F4) ?_
        refine ab_icmp_ge X 57 d_SC_writeAside_7 rfl (fun _ => ?_) (fun hb => absurd ((nI_le (by omega) (by omega))) hb)
        refine ab_aload_n X 2 d_SC_writeAside_57 rfl rfl ?_
        refine ab_gI X fl_SC_31 d_SC_writeAside_58 (by first | assumption | decide | (show _ < 124; omega) | (show _ < 61; omega) | (show _ < 20; omega)) (P1.ii (by decide) F2) ?_
        refine ab_bipush (v := 8) X d_SC_writeAside_61 (by decide) ?_
        refine ab_icmp_ne X 78 d_SC_writeAside_63 rfl (fun hb => absurd ((by rw [z8]; rfl)) hb) (fun _ => ?_)
        refine ab_aload_n X 1 d_SC_writeAside_66 rfl rfl ?_
        refine ab_sipush (v := 9000) X d_SC_writeAside_67 (by decide) ?_
        refine ab_aload_n X 2 d_SC_writeAside_70 rfl rfl ?_
        refine ab_gI X fl_SC_65 d_SC_writeAside_71 (by first | assumption | decide | (show _ < 124; omega) | (show _ < 61; omega) | (show _ < 20; omega)) (P1.ii (by decide) F3) ?_
        refine ab_iadd X d_SC_writeAside_74 ?_
        refine ab_top (nI_add 9000 nd) ?_
        refine ab_callV (as := [ab_I (nI (9000 + nd))]) X (fun h => by cases h) (x_SC_addWord u1 (9000 + nd) _ _ P1.1 C1 (by rw [List.length_append, asd_len (lw := fun i => (cw i).length) j (fun _ _ => rfl)]; omega)) lk_SC_34 d_SC_writeAside_75 rfl rfl (by first | assumption | decide | (show _ < 124; omega) | (show _ < 61; omega) | (show _ < 20; omega)) ⟨by first | exact Nat.le_of_ble_eq_true rfl | (simp only [ab_rm]; omega), by first | exact Nat.le_of_ble_eq_true rfl | (simp only [ab_rm]; omega)⟩ ⟨by first | exact Nat.le_of_ble_eq_true rfl | (simp only [ab_rm]; omega), by first | exact Nat.le_of_ble_eq_true rfl | (simp only [ab_rm]; omega)⟩ (Nat.le_of_ble_eq_true rfl) (fun u75 r75 h75 => ?_)
        obtain ⟨⟨q75, c75⟩, rfl⟩ := h75
        have P75 := P1.trans q75 (by decide)
        exact ab_retv X hr0 hlk d_SC_writeAside_78 ⟨⟨P75, c75.cast (List.append_assoc _ _ _) rfl⟩, rfl⟩
      · rw [if_neg z8] at hn ⊢
        refine ab_iload_n X 0 d_SC_writeAside_2 rfl rfl ?_
        refine ab_aload_n X 2 d_SC_writeAside_3 rfl rfl ?_
        refine ab_gI X fl_SC_58 d_SC_writeAside_4 (by first | assumption | decide | (show _ < 124; omega) | (show _ < 61; omega) | (show _ < 20; omega)) (P1.ii (by decide) F4) ?_
        refine ab_icmp_ge X 57 d_SC_writeAside_7 rfl (fun _ => ?_) (fun hb => absurd ((nI_le (by omega) (by omega))) hb)
        refine ab_aload_n X 2 d_SC_writeAside_57 rfl rfl ?_
        refine ab_gI X fl_SC_31 d_SC_writeAside_58 (by first | assumption | decide | (show _ < 124; omega) | (show _ < 61; omega) | (show _ < 20; omega)) (P1.ii (by decide) F2) ?_
        refine ab_bipush (v := 8) X d_SC_writeAside_61 (by decide) ?_
        refine ab_icmp_ne X 78 d_SC_writeAside_63 rfl (fun _ => ?_) (fun hb => absurd hb ((fun z => z8 ((nI_eq (b := 8) (by omega) (by decide)).mp z))))
        exact ab_retv X hr0 hlk d_SC_writeAside_78 ⟨⟨P1, C1.cast (by rw [List.append_nil]) rfl⟩, rfl⟩
    | succ k ih =>
      intro j u1 hj P1 C1
      have m1 : sm (fun i => (cw i).length) (j + 1) ≤ sm (fun i => (cw i).length) nc := sm_mono _ (by omega)
      have m2 : sm (fun i => (cf i).length) (j + 1) ≤ sm (fun i => (cf i).length) nc := sm_mono _ (by omega)
      have m3 : sm (fun i => (cw i).length) (j + 1) = sm (fun i => (cw i).length) j + (cw j).length := rfl
      have m4 : sm (fun i => (cf i).length) (j + 1) = sm (fun i => (cf i).length) j + (cf j).length := rfl
      have gj := hg j (by omega)
      have lf0 : (fs ++ cat cf j).length = fs.length + sm (fun i => (cf i).length) j := by rw [List.length_append, cat_len]
      have lw0 : (ws ++ asd cw (1000 * mk) j).length = ws.length + (sm (fun i => (cw i).length) j + 3 * (j - 1)) := by rw [List.length_append, asd_len (lw := fun i => (cw i).length) j (fun _ _ => rfl)]
      by_cases j0 : j = 0
      · have ea : asd cw (1000 * mk) (j + 1) = asd cw (1000 * mk) j ++ cw j := by show _ ++ (if j = 0 then cw 0 else _) = _; rw [if_pos j0, j0]
        refine ab_iload_n X 0 d_SC_writeAside_2 rfl rfl ?_
        refine ab_aload_n X 2 d_SC_writeAside_3 rfl rfl ?_
        refine ab_gI X fl_SC_58 d_SC_writeAside_4 (by first | assumption | decide | (show _ < 124; omega) | (show _ < 61; omega) | (show _ < 20; omega)) (P1.ii (by decide) F4) ?_
        refine ab_icmp_ge X 57 d_SC_writeAside_7 rfl (fun hb => absurd hb ((nI_ge (by omega) (by omega)))) (fun _ => ?_)
        refine ab_iload_n X 0 d_SC_writeAside_10 rfl rfl ?_
        refine ab_if_le X 20 d_SC_writeAside_11 rfl (fun _ => ?_) (fun hb => absurd ((by rw [j0]; decide)) hb)
        refine ab_aload_n X 1 d_SC_writeAside_20 rfl rfl ?_
        refine ab_aload_n X 2 d_SC_writeAside_21 rfl rfl ?_
        refine ab_gR X fl_SC_59 d_SC_writeAside_22 (by first | assumption | decide | (show _ < 124; omega) | (show _ < 61; omega) | (show _ < 20; omega)) (P1.1.fm0 (by first | assumption | decide | omega)) ?_
        refine ab_iload_n X 0 d_SC_writeAside_25 rfl rfl ?_
        refine ab_aalv X (j) ⟨rfl, _, fun _ => rfl⟩ d_SC_writeAside_26 (by first | assumption | decide | (show _ < 124; omega) | (show _ < 61; omega) | (show _ < 20; omega)) (rfl) (show j < 4 by omega) (ab_ln_lt _ _) (P1.rr (by decide) (F5 j (by omega))) ?_
        refine ab_iload_n X 3 d_SC_writeAside_27 rfl rfl ?_
        refine ab_iconst (v := 1) X d_SC_writeAside_28 (by decide) ?_
        refine ab_iadd X d_SC_writeAside_29 ?_
        refine ab_callV (as := [ab_O 3 (g j), ab_I (x + 1)]) X (fun h => by cases h) (W j u1 _ _ (by omega) P1.1 (hQ _ _ hQu P1) C1 (by omega) (by omega)) lk_SC_62 d_SC_writeAside_30 rfl rfl (by first | assumption | decide | (show _ < 124; omega) | (show _ < 61; omega) | (show _ < 20; omega)) ⟨by first | exact Nat.le_of_ble_eq_true rfl | (simp only [ab_rm]; omega), by first | exact Nat.le_of_ble_eq_true rfl | (simp only [ab_rm]; omega)⟩ ⟨by first | exact Nat.le_of_ble_eq_true rfl | (simp only [ab_rm]; omega), by first | exact Nat.le_of_ble_eq_true rfl | (simp only [ab_rm]; omega)⟩ (Nat.le_of_ble_eq_true rfl) (fun u30 r30 h30 => ?_)
        obtain ⟨⟨q30, c30⟩, rfl⟩ := h30
        have P30 := P1.trans q30 (by decide)
        refine ab_iload_n X 0 d_SC_writeAside_33 rfl rfl ?_
        refine ab_if_le X 51 d_SC_writeAside_34 rfl (fun _ => ?_) (fun hb => absurd ((by rw [j0]; decide)) hb)
        refine ab_iinc3 X 0 1 2 3 d_SC_writeAside_51 rfl (by decide) rfl rfl rfl rfl rfl rfl ?_
        refine ab_goto X 2 d_SC_writeAside_54 rfl ?_
        rw [show nI j + Int32.ofInt 1 = nI (j + 1) from nI_1 j]
        exact ih (j + 1) _ (by omega) P30 (c30.cast (by rw [ea, List.append_assoc]) (List.append_assoc _ _ _))
      · have ea : asd cw (1000 * mk) (j + 1) = asd cw (1000 * mk) j ++ ([10000] ++ cw j ++ [11000] ++ [1000 * mk]) := by show _ ++ (if j = 0 then cw 0 else _) = _; rw [if_neg j0]
        refine ab_iload_n X 0 d_SC_writeAside_2 rfl rfl ?_
        refine ab_aload_n X 2 d_SC_writeAside_3 rfl rfl ?_
        refine ab_gI X fl_SC_58 d_SC_writeAside_4 (by first | assumption | decide | (show _ < 124; omega) | (show _ < 61; omega) | (show _ < 20; omega)) (P1.ii (by decide) F4) ?_
        refine ab_icmp_ge X 57 d_SC_writeAside_7 rfl (fun hb => absurd hb ((nI_ge (by omega) (by omega)))) (fun _ => ?_)
        refine ab_iload_n X 0 d_SC_writeAside_10 rfl rfl ?_
        refine ab_if_le X 20 d_SC_writeAside_11 rfl (fun hb => absurd hb ((nI_nle (by omega) (by omega)))) (fun _ => ?_)
        refine ab_aload_n X 1 d_SC_writeAside_14 rfl rfl ?_
        refine ab_bipush (v := 10) X d_SC_writeAside_15 (by decide) ?_
        refine ab_callV (as := [ab_I (nI 10)]) X (fun h => by cases h) (x_SC_addOp u1 10 _ _ P1.1 C1 (by omega)) lk_SC_42 d_SC_writeAside_17 rfl rfl (by first | assumption | decide | (show _ < 124; omega) | (show _ < 61; omega) | (show _ < 20; omega)) ⟨by first | exact Nat.le_of_ble_eq_true rfl | (simp only [ab_rm]; omega), by first | exact Nat.le_of_ble_eq_true rfl | (simp only [ab_rm]; omega)⟩ ⟨by first | exact Nat.le_of_ble_eq_true rfl | (simp only [ab_rm]; omega), by first | exact Nat.le_of_ble_eq_true rfl | (simp only [ab_rm]; omega)⟩ (Nat.le_of_ble_eq_true rfl) (fun u17 r17 h17 => ?_)
        obtain ⟨⟨q17, c17⟩, rfl⟩ := h17
        have P17 := P1.trans q17 (by decide)
        have l17 : (ws ++ asd cw (1000 * mk) j ++ [1000 * 10]).length = ws.length + (sm (fun i => (cw i).length) j + 3 * (j - 1)) + 1 := by rw [List.length_append, lw0]; rfl
        refine ab_aload_n X 1 d_SC_writeAside_20 rfl rfl ?_
        refine ab_aload_n X 2 d_SC_writeAside_21 rfl rfl ?_
        refine ab_gR X fl_SC_59 d_SC_writeAside_22 (by first | assumption | decide | (show _ < 124; omega) | (show _ < 61; omega) | (show _ < 20; omega)) (P17.1.fm0 (by first | assumption | decide | omega)) ?_
        refine ab_iload_n X 0 d_SC_writeAside_25 rfl rfl ?_
        refine ab_aalv X (j) ⟨rfl, _, fun _ => rfl⟩ d_SC_writeAside_26 (by first | assumption | decide | (show _ < 124; omega) | (show _ < 61; omega) | (show _ < 20; omega)) (rfl) (show j < 4 by omega) (ab_ln_lt _ _) (P17.rr (by decide) (F5 j (by omega))) ?_
        refine ab_iload_n X 3 d_SC_writeAside_27 rfl rfl ?_
        refine ab_iconst (v := 1) X d_SC_writeAside_28 (by decide) ?_
        refine ab_iadd X d_SC_writeAside_29 ?_
        refine ab_callV (as := [ab_O 3 (g j), ab_I (x + 1)]) X (fun h => by cases h) (W j u17 _ _ (by omega) P17.1 (hQ _ _ hQu P17) c17 (by omega) (by omega)) lk_SC_62 d_SC_writeAside_30 rfl rfl (by first | assumption | decide | (show _ < 124; omega) | (show _ < 61; omega) | (show _ < 20; omega)) ⟨by first | exact Nat.le_of_ble_eq_true rfl | (simp only [ab_rm]; omega), by first | exact Nat.le_of_ble_eq_true rfl | (simp only [ab_rm]; omega)⟩ ⟨by first | exact Nat.le_of_ble_eq_true rfl | (simp only [ab_rm]; omega), by first | exact Nat.le_of_ble_eq_true rfl | (simp only [ab_rm]; omega)⟩ (Nat.le_of_ble_eq_true rfl) (fun u30 r30 h30 => ?_)
        obtain ⟨⟨q30, c30⟩, rfl⟩ := h30
        have P30 := P17.trans q30 (by decide)
        refine ab_iload_n X 0 d_SC_writeAside_33 rfl rfl ?_
        refine ab_if_le X 51 d_SC_writeAside_34 rfl (fun hb => absurd hb ((nI_nle (by omega) (by omega)))) (fun _ => ?_)
        refine ab_aload_n X 1 d_SC_writeAside_37 rfl rfl ?_
        refine ab_bipush (v := 11) X d_SC_writeAside_38 (by decide) ?_
        refine ab_callV (as := [ab_I (nI 11)]) X (fun h => by cases h) (x_SC_addOp u30 11 _ _ P30.1 c30 (by rw [List.length_append]; omega)) lk_SC_42 d_SC_writeAside_40 rfl rfl (by first | assumption | decide | (show _ < 124; omega) | (show _ < 61; omega) | (show _ < 20; omega)) ⟨by first | exact Nat.le_of_ble_eq_true rfl | (simp only [ab_rm]; omega), by first | exact Nat.le_of_ble_eq_true rfl | (simp only [ab_rm]; omega)⟩ ⟨by first | exact Nat.le_of_ble_eq_true rfl | (simp only [ab_rm]; omega), by first | exact Nat.le_of_ble_eq_true rfl | (simp only [ab_rm]; omega)⟩ (Nat.le_of_ble_eq_true rfl) (fun u40 r40 h40 => ?_)
        obtain ⟨⟨q40, c40⟩, rfl⟩ := h40
        have P40 := P30.trans q40 (by decide)
        refine ab_aload_n X 1 d_SC_writeAside_43 rfl rfl ?_
        refine ab_aload_n X 2 d_SC_writeAside_44 rfl rfl ?_
        refine ab_gI X fl_SC_31 d_SC_writeAside_45 (by first | assumption | decide | (show _ < 124; omega) | (show _ < 61; omega) | (show _ < 20; omega)) (P40.ii (by decide) F2) ?_
        refine ab_callV (as := [ab_I (nI mk)]) X (fun h => by cases h) (x_SC_addOp u40 mk _ _ P40.1 c40 (by rw [List.length_append, List.length_append]; show _ + _ + 1 < 128; omega)) lk_SC_42 d_SC_writeAside_48 rfl rfl (by first | assumption | decide | (show _ < 124; omega) | (show _ < 61; omega) | (show _ < 20; omega)) ⟨by first | exact Nat.le_of_ble_eq_true rfl | (simp only [ab_rm]; omega), by first | exact Nat.le_of_ble_eq_true rfl | (simp only [ab_rm]; omega)⟩ ⟨by first | exact Nat.le_of_ble_eq_true rfl | (simp only [ab_rm]; omega), by first | exact Nat.le_of_ble_eq_true rfl | (simp only [ab_rm]; omega)⟩ (Nat.le_of_ble_eq_true rfl) (fun u48 r48 h48 => ?_)
        obtain ⟨⟨q48, c48⟩, rfl⟩ := h48
        have P48 := P40.trans q48 (by decide)
        refine ab_iinc3 X 0 1 2 3 d_SC_writeAside_51 rfl (by decide) rfl rfl rfl rfl rfl rfl ?_
        refine ab_goto X 2 d_SC_writeAside_54 rfl ?_
        rw [show nI j + Int32.ofInt 1 = nI (j + 1) from nI_1 j]
        exact ih (j + 1) _ (by omega) P48 (c48.cast (by rw [ea]; simp [List.append_assoc]) (List.append_assoc _ _ _))
  refine ab_iconst (v := 0) X d_SC_writeAside_0 (by decide) ?_
  refine ab_istore_n3 X 0 1 2 d_SC_writeAside_1 rfl (by decide) rfl rfl rfl rfl rfl rfl ?_
  exact loop nc 0 _ (by omega) P0 (C.cast (List.append_nil _).symm (List.append_nil _).symm)
set_option maxRecDepth 100000 in
set_option maxHeartbeats 1000000 in
theorem x_SC_if5 (Q : ab_S → Prop) (hQ : ∀ u u', Q u → cP [5, 13, 14] u u' → Q u') (cw cf : Nat → List Nat) (d : Nat) (x : Int32) (nc : Nat) (g : Nat → Nat) (W : ∀ (i : Nat) (u : ab_S) (ws fs : List Nat), i < nc → CI u → Q u → sX u ws fs → ws.length + (cw i).length ≤ 128 → fs.length + (cf i).length ≤ 38 → ab_C false l D ca y_SC_write b_SC_write 3 none d ab_nQ u [ab_O 5 0, ab_O 3 (g i), ab_I (x + 1)] (fun u' v => (cP [5, 13, 14] u u' ∧ sX u' (ws ++ cw i) (fs ++ cf i)) ∧ v = none)) (u : ab_S) (f r mk nd : Nat) (ws fs : List Nat) (F : FD u f r (nI mk) (nI nd) nc g) (hc4 : nc ≤ 4) (hg : ∀ i, i < nc → g i < 61) (hQu : Q u) (h : CI u) (hf : f < 61) (C : sX u ws fs) (hd : 2 ≤ d) (hr : r = 5) (n2 : nc = 2) (hn : ws.length + (cw 0).length + (cw 1).length + 3 ≤ 128) (hk : fs.length + (cf 0).length + (cf 1).length ≤ 38) : ab_C false l D ca y_SC_writeIf b_SC_writeIf 3 none (d + 1) ab_nQ u [ab_O 5 0, ab_O 3 f, ab_I x] (fun u' v => (cP [5, 13, 14] u u' ∧ sX u' (ws ++ ([12000] ++ cw 0 ++ [13000] ++ cw 1 ++ [14000])) (fs ++ cf 0 ++ cf 1)) ∧ v = none) := by
  refine ab_C.of (by decide) (Nat.le_of_ble_eq_true rfl) ?_
  intro p e s m args below meth c ad X hZ hr0 hlk
  have P0 : cP [5, 13, 14] u u := cQ.rf h
  obtain ⟨F1, F2, F3, F4, F5⟩ := F
  have g0 := hg 0 (by omega)
  have g1 := hg 1 (by omega)
  have e5 : u.1 3 f 4 = nI 5 := by rw [F1, hr]
  refine ab_aload_n X 0 d_SC_writeIf_0 rfl rfl ?_
  refine ab_bipush (v := 12) X d_SC_writeIf_1 (by decide) ?_
  refine ab_callV (as := [ab_I (nI 12)]) X (fun h => by cases h) (x_SC_addOp u 12 _ _ h C (by omega)) lk_SC_42 d_SC_writeIf_3 rfl rfl (by first | assumption | decide | (show _ < 124; omega) | (show _ < 61; omega) | (show _ < 20; omega)) ⟨by first | exact Nat.le_of_ble_eq_true rfl | (simp only [ab_rm]; omega), by first | exact Nat.le_of_ble_eq_true rfl | (simp only [ab_rm]; omega)⟩ ⟨by first | exact Nat.le_of_ble_eq_true rfl | (simp only [ab_rm]; omega), by first | exact Nat.le_of_ble_eq_true rfl | (simp only [ab_rm]; omega)⟩ (Nat.le_of_ble_eq_true rfl) (fun u3 r3 h3 => ?_)
  obtain ⟨⟨q3, c3⟩, rfl⟩ := h3
  have P3 := P0.trans q3 (by decide)
  refine ab_aload_n X 0 d_SC_writeIf_6 rfl rfl ?_
  refine ab_aload_n X 1 d_SC_writeIf_7 rfl rfl ?_
  refine ab_gR X fl_SC_59 d_SC_writeIf_8 (by first | assumption | decide | (show _ < 124; omega) | (show _ < 61; omega) | (show _ < 20; omega)) (P3.1.fm0 (by first | assumption | decide | omega)) ?_
  refine ab_iconst (v := 0) X d_SC_writeIf_11 (by decide) ?_
  refine ab_aalv X (0) ⟨rfl, _, fun _ => rfl⟩ d_SC_writeIf_12 (by first | assumption | decide | (show _ < 124; omega) | (show _ < 61; omega) | (show _ < 20; omega)) (rfl) (show 0 < 4 by decide) (ab_ln_lt _ _) (P3.rr (by decide) (F5 0 (by omega))) ?_
  refine ab_iload_n X 2 d_SC_writeIf_13 rfl rfl ?_
  refine ab_iconst (v := 1) X d_SC_writeIf_14 (by decide) ?_
  refine ab_iadd X d_SC_writeIf_15 ?_
  refine ab_callV (as := [ab_O 3 (g 0), ab_I (x + 1)]) X (fun h => by cases h) (W 0 u3 _ _ (by omega) P3.1 (hQ _ _ hQu P3) c3 (by rw [List.length_append]; show _ + 1 + _ ≤ 128; omega) (by omega)) lk_SC_62 d_SC_writeIf_16 rfl rfl (by first | assumption | decide | (show _ < 124; omega) | (show _ < 61; omega) | (show _ < 20; omega)) ⟨by first | exact Nat.le_of_ble_eq_true rfl | (simp only [ab_rm]; omega), by first | exact Nat.le_of_ble_eq_true rfl | (simp only [ab_rm]; omega)⟩ ⟨by first | exact Nat.le_of_ble_eq_true rfl | (simp only [ab_rm]; omega), by first | exact Nat.le_of_ble_eq_true rfl | (simp only [ab_rm]; omega)⟩ (Nat.le_of_ble_eq_true rfl) (fun u16 r16 h16 => ?_)
  obtain ⟨⟨q16, c16⟩, rfl⟩ := h16
  have P16 := P3.trans q16 (by decide)
  refine ab_aload_n X 0 d_SC_writeIf_19 rfl rfl ?_
  refine ab_bipush (v := 13) X d_SC_writeIf_20 (by decide) ?_
  refine ab_callV (as := [ab_I (nI 13)]) X (fun h => by cases h) (x_SC_addOp u16 13 _ _ P16.1 c16 (by rw [List.length_append, List.length_append]; show _ + 1 + _ < 128; omega)) lk_SC_42 d_SC_writeIf_22 rfl rfl (by first | assumption | decide | (show _ < 124; omega) | (show _ < 61; omega) | (show _ < 20; omega)) ⟨by first | exact Nat.le_of_ble_eq_true rfl | (simp only [ab_rm]; omega), by first | exact Nat.le_of_ble_eq_true rfl | (simp only [ab_rm]; omega)⟩ ⟨by first | exact Nat.le_of_ble_eq_true rfl | (simp only [ab_rm]; omega), by first | exact Nat.le_of_ble_eq_true rfl | (simp only [ab_rm]; omega)⟩ (Nat.le_of_ble_eq_true rfl) (fun u22 r22 h22 => ?_)
  obtain ⟨⟨q22, c22⟩, rfl⟩ := h22
  have P22 := P16.trans q22 (by decide)
  refine ab_aload_n X 1 d_SC_writeIf_25 rfl rfl ?_
  refine ab_gI X fl_SC_28 d_SC_writeIf_26 (by first | assumption | decide | (show _ < 124; omega) | (show _ < 61; omega) | (show _ < 20; omega)) (P22.ii (by decide) e5) ?_
  refine ab_bipush (v := 6) X d_SC_writeIf_29 (by decide) ?_
  refine ab_icmp_ne X 43 d_SC_writeIf_31 rfl (fun _ => ?_) (fun hb => absurd hb ((by decide)))
  refine ab_aload_n X 0 d_SC_writeIf_43 rfl rfl ?_
  refine ab_aload_n X 1 d_SC_writeIf_44 rfl rfl ?_
  refine ab_gR X fl_SC_59 d_SC_writeIf_45 (by first | assumption | decide | (show _ < 124; omega) | (show _ < 61; omega) | (show _ < 20; omega)) (P22.1.fm0 (by first | assumption | decide | omega)) ?_
  refine ab_iconst (v := 1) X d_SC_writeIf_48 (by decide) ?_
  refine ab_aalv X (1) ⟨rfl, _, fun _ => rfl⟩ d_SC_writeIf_49 (by first | assumption | decide | (show _ < 124; omega) | (show _ < 61; omega) | (show _ < 20; omega)) (rfl) (show 1 < 4 by decide) (ab_ln_lt _ _) (P22.rr (by decide) (F5 1 (by omega))) ?_
  refine ab_iload_n X 2 d_SC_writeIf_50 rfl rfl ?_
  refine ab_iconst (v := 1) X d_SC_writeIf_51 (by decide) ?_
  refine ab_iadd X d_SC_writeIf_52 ?_
  refine ab_callV (as := [ab_O 3 (g 1), ab_I (x + 1)]) X (fun h => by cases h) (W 1 u22 _ _ (by omega) P22.1 (hQ _ _ hQu P22) c22 (by rw [List.length_append, List.length_append, List.length_append]; show _ + 1 + _ + 1 + _ ≤ 128; omega) (by rw [List.length_append]; omega)) lk_SC_62 d_SC_writeIf_53 rfl rfl (by first | assumption | decide | (show _ < 124; omega) | (show _ < 61; omega) | (show _ < 20; omega)) ⟨by first | exact Nat.le_of_ble_eq_true rfl | (simp only [ab_rm]; omega), by first | exact Nat.le_of_ble_eq_true rfl | (simp only [ab_rm]; omega)⟩ ⟨by first | exact Nat.le_of_ble_eq_true rfl | (simp only [ab_rm]; omega), by first | exact Nat.le_of_ble_eq_true rfl | (simp only [ab_rm]; omega)⟩ (Nat.le_of_ble_eq_true rfl) (fun u53 r53 h53 => ?_)
  obtain ⟨⟨q53, c53⟩, rfl⟩ := h53
  have P53 := P22.trans q53 (by decide)
  refine ab_aload_n X 0 d_SC_writeIf_56 rfl rfl ?_
  refine ab_bipush (v := 14) X d_SC_writeIf_57 (by decide) ?_
  refine ab_callV (as := [ab_I (nI 14)]) X (fun h => by cases h) (x_SC_addOp u53 14 _ _ P53.1 c53 (by rw [List.length_append, List.length_append, List.length_append, List.length_append]; show _ + 1 + _ + 1 + _ < 128; omega)) lk_SC_42 d_SC_writeIf_59 rfl rfl (by first | assumption | decide | (show _ < 124; omega) | (show _ < 61; omega) | (show _ < 20; omega)) ⟨by first | exact Nat.le_of_ble_eq_true rfl | (simp only [ab_rm]; omega), by first | exact Nat.le_of_ble_eq_true rfl | (simp only [ab_rm]; omega)⟩ ⟨by first | exact Nat.le_of_ble_eq_true rfl | (simp only [ab_rm]; omega), by first | exact Nat.le_of_ble_eq_true rfl | (simp only [ab_rm]; omega)⟩ (Nat.le_of_ble_eq_true rfl) (fun u59 r59 h59 => ?_)
  obtain ⟨⟨q59, c59⟩, rfl⟩ := h59
  have P59 := P53.trans q59 (by decide)
  exact ab_retv X hr0 hlk d_SC_writeIf_62 ⟨⟨P59, c59.cast (by simp [List.append_assoc]) rfl⟩, rfl⟩
set_option maxRecDepth 100000 in
set_option maxHeartbeats 1000000 in
theorem x_SC_if6 (Q : ab_S → Prop) (hQ : ∀ u u', Q u → cP [5, 13, 14] u u' → Q u') (cw cf : Nat → List Nat) (d : Nat) (x : Int32) (nc : Nat) (g : Nat → Nat) (W : ∀ (i : Nat) (u : ab_S) (ws fs : List Nat), i < nc → CI u → Q u → sX u ws fs → ws.length + (cw i).length ≤ 128 → fs.length + (cf i).length ≤ 38 → ab_C false l D ca y_SC_write b_SC_write 3 none d ab_nQ u [ab_O 5 0, ab_O 3 (g i), ab_I (x + 1)] (fun u' v => (cP [5, 13, 14] u u' ∧ sX u' (ws ++ cw i) (fs ++ cf i)) ∧ v = none)) (u : ab_S) (f r mk nd : Nat) (ws fs : List Nat) (F : FD u f r (nI mk) (nI nd) nc g) (hc4 : nc ≤ 4) (hg : ∀ i, i < nc → g i < 61) (hQu : Q u) (h : CI u) (hf : f < 61) (C : sX u ws fs) (hd : 2 ≤ d) (hr : r = 6) (n2 : nc = 1) (hn : ws.length + (cw 0).length + 4 ≤ 128) (hk : fs.length + (cf 0).length ≤ 38) : ab_C false l D ca y_SC_writeIf b_SC_writeIf 3 none (d + 1) ab_nQ u [ab_O 5 0, ab_O 3 f, ab_I x] (fun u' v => (cP [5, 13, 14] u u' ∧ sX u' (ws ++ ([12000] ++ cw 0 ++ [13000] ++ [17000] ++ [14000])) (fs ++ cf 0)) ∧ v = none) := by
  refine ab_C.of (by decide) (Nat.le_of_ble_eq_true rfl) ?_
  intro p e s m args below meth c ad X hZ hr0 hlk
  have P0 : cP [5, 13, 14] u u := cQ.rf h
  obtain ⟨F1, F2, F3, F4, F5⟩ := F
  have g0 := hg 0 (by omega)
  have e5 : u.1 3 f 4 = nI 6 := by rw [F1, hr]
  refine ab_aload_n X 0 d_SC_writeIf_0 rfl rfl ?_
  refine ab_bipush (v := 12) X d_SC_writeIf_1 (by decide) ?_
  refine ab_callV (as := [ab_I (nI 12)]) X (fun h => by cases h) (x_SC_addOp u 12 _ _ h C (by omega)) lk_SC_42 d_SC_writeIf_3 rfl rfl (by first | assumption | decide | (show _ < 124; omega) | (show _ < 61; omega) | (show _ < 20; omega)) ⟨by first | exact Nat.le_of_ble_eq_true rfl | (simp only [ab_rm]; omega), by first | exact Nat.le_of_ble_eq_true rfl | (simp only [ab_rm]; omega)⟩ ⟨by first | exact Nat.le_of_ble_eq_true rfl | (simp only [ab_rm]; omega), by first | exact Nat.le_of_ble_eq_true rfl | (simp only [ab_rm]; omega)⟩ (Nat.le_of_ble_eq_true rfl) (fun u3 r3 h3 => ?_)
  obtain ⟨⟨q3, c3⟩, rfl⟩ := h3
  have P3 := P0.trans q3 (by decide)
  refine ab_aload_n X 0 d_SC_writeIf_6 rfl rfl ?_
  refine ab_aload_n X 1 d_SC_writeIf_7 rfl rfl ?_
  refine ab_gR X fl_SC_59 d_SC_writeIf_8 (by first | assumption | decide | (show _ < 124; omega) | (show _ < 61; omega) | (show _ < 20; omega)) (P3.1.fm0 (by first | assumption | decide | omega)) ?_
  refine ab_iconst (v := 0) X d_SC_writeIf_11 (by decide) ?_
  refine ab_aalv X (0) ⟨rfl, _, fun _ => rfl⟩ d_SC_writeIf_12 (by first | assumption | decide | (show _ < 124; omega) | (show _ < 61; omega) | (show _ < 20; omega)) (rfl) (show 0 < 4 by decide) (ab_ln_lt _ _) (P3.rr (by decide) (F5 0 (by omega))) ?_
  refine ab_iload_n X 2 d_SC_writeIf_13 rfl rfl ?_
  refine ab_iconst (v := 1) X d_SC_writeIf_14 (by decide) ?_
  refine ab_iadd X d_SC_writeIf_15 ?_
  refine ab_callV (as := [ab_O 3 (g 0), ab_I (x + 1)]) X (fun h => by cases h) (W 0 u3 _ _ (by omega) P3.1 (hQ _ _ hQu P3) c3 (by rw [List.length_append]; show _ + 1 + _ ≤ 128; omega) (by omega)) lk_SC_62 d_SC_writeIf_16 rfl rfl (by first | assumption | decide | (show _ < 124; omega) | (show _ < 61; omega) | (show _ < 20; omega)) ⟨by first | exact Nat.le_of_ble_eq_true rfl | (simp only [ab_rm]; omega), by first | exact Nat.le_of_ble_eq_true rfl | (simp only [ab_rm]; omega)⟩ ⟨by first | exact Nat.le_of_ble_eq_true rfl | (simp only [ab_rm]; omega), by first | exact Nat.le_of_ble_eq_true rfl | (simp only [ab_rm]; omega)⟩ (Nat.le_of_ble_eq_true rfl) (fun u16 r16 h16 => ?_)
  obtain ⟨⟨q16, c16⟩, rfl⟩ := h16
  have P16 := P3.trans q16 (by decide)
  refine ab_aload_n X 0 d_SC_writeIf_19 rfl rfl ?_
  refine ab_bipush (v := 13) X d_SC_writeIf_20 (by decide) ?_
  refine ab_callV (as := [ab_I (nI 13)]) X (fun h => by cases h) (x_SC_addOp u16 13 _ _ P16.1 c16 (by rw [List.length_append, List.length_append]; show _ + 1 + _ < 128; omega)) lk_SC_42 d_SC_writeIf_22 rfl rfl (by first | assumption | decide | (show _ < 124; omega) | (show _ < 61; omega) | (show _ < 20; omega)) ⟨by first | exact Nat.le_of_ble_eq_true rfl | (simp only [ab_rm]; omega), by first | exact Nat.le_of_ble_eq_true rfl | (simp only [ab_rm]; omega)⟩ ⟨by first | exact Nat.le_of_ble_eq_true rfl | (simp only [ab_rm]; omega), by first | exact Nat.le_of_ble_eq_true rfl | (simp only [ab_rm]; omega)⟩ (Nat.le_of_ble_eq_true rfl) (fun u22 r22 h22 => ?_)
  obtain ⟨⟨q22, c22⟩, rfl⟩ := h22
  have P22 := P16.trans q22 (by decide)
  refine ab_aload_n X 1 d_SC_writeIf_25 rfl rfl ?_
  refine ab_gI X fl_SC_28 d_SC_writeIf_26 (by first | assumption | decide | (show _ < 124; omega) | (show _ < 61; omega) | (show _ < 20; omega)) (P22.ii (by decide) e5) ?_
  refine ab_bipush (v := 6) X d_SC_writeIf_29 (by decide) ?_
  refine ab_icmp_ne X 43 d_SC_writeIf_31 rfl (fun hb => absurd (rfl) hb) (fun _ => ?_)
  refine ab_aload_n X 0 d_SC_writeIf_34 rfl rfl ?_
  refine ab_bipush (v := 17) X d_SC_writeIf_35 (by decide) ?_
  refine ab_callV (as := [ab_I (nI 17)]) X (fun h => by cases h) (x_SC_addOp u22 17 _ _ P22.1 c22 (by rw [List.length_append, List.length_append, List.length_append]; show _ + 1 + _ + 1 < 128; omega)) lk_SC_42 d_SC_writeIf_37 rfl rfl (by first | assumption | decide | (show _ < 124; omega) | (show _ < 61; omega) | (show _ < 20; omega)) ⟨by first | exact Nat.le_of_ble_eq_true rfl | (simp only [ab_rm]; omega), by first | exact Nat.le_of_ble_eq_true rfl | (simp only [ab_rm]; omega)⟩ ⟨by first | exact Nat.le_of_ble_eq_true rfl | (simp only [ab_rm]; omega), by first | exact Nat.le_of_ble_eq_true rfl | (simp only [ab_rm]; omega)⟩ (Nat.le_of_ble_eq_true rfl) (fun u37 r37 h37 => ?_)
  obtain ⟨⟨q37, c37⟩, rfl⟩ := h37
  have P37 := P22.trans q37 (by decide)
  refine ab_goto X 56 d_SC_writeIf_40 rfl ?_
  refine ab_aload_n X 0 d_SC_writeIf_56 rfl rfl ?_
  refine ab_bipush (v := 14) X d_SC_writeIf_57 (by decide) ?_
  refine ab_callV (as := [ab_I (nI 14)]) X (fun h => by cases h) (x_SC_addOp u37 14 _ _ P37.1 c37 (by rw [List.length_append, List.length_append, List.length_append, List.length_append]; show _ + 1 + _ + 1 + 1 < 128; omega)) lk_SC_42 d_SC_writeIf_59 rfl rfl (by first | assumption | decide | (show _ < 124; omega) | (show _ < 61; omega) | (show _ < 20; omega)) ⟨by first | exact Nat.le_of_ble_eq_true rfl | (simp only [ab_rm]; omega), by first | exact Nat.le_of_ble_eq_true rfl | (simp only [ab_rm]; omega)⟩ ⟨by first | exact Nat.le_of_ble_eq_true rfl | (simp only [ab_rm]; omega), by first | exact Nat.le_of_ble_eq_true rfl | (simp only [ab_rm]; omega)⟩ (Nat.le_of_ble_eq_true rfl) (fun u59 r59 h59 => ?_)
  obtain ⟨⟨q59, c59⟩, rfl⟩ := h59
  have P59 := P37.trans q59 (by decide)
  exact ab_retv X hr0 hlk d_SC_writeIf_62 ⟨⟨P59, c59.cast (by simp [List.append_assoc]) rfl⟩, rfl⟩
set_option maxRecDepth 100000 in
set_option maxHeartbeats 1000000 in
theorem x_SC_un7 (Q : ab_S → Prop) (hQ : ∀ u u', Q u → cP [5, 13, 14] u u' → Q u') (cw cf : Nat → List Nat) (d : Nat) (x : Int32) (nc : Nat) (g : Nat → Nat) (W : ∀ (i : Nat) (u : ab_S) (ws fs : List Nat), i < nc → CI u → Q u → sX u ws fs → ws.length + (cw i).length ≤ 128 → fs.length + (cf i).length ≤ 38 → ab_C false l D ca y_SC_write b_SC_write 3 none d ab_nQ u [ab_O 5 0, ab_O 3 (g i), ab_I (x + 1)] (fun u' v => (cP [5, 13, 14] u u' ∧ sX u' (ws ++ cw i) (fs ++ cf i)) ∧ v = none)) (u : ab_S) (f r mk nd : Nat) (ws fs : List Nat) (F : FD u f r (nI mk) (nI nd) nc g) (hc4 : nc ≤ 4) (hg : ∀ i, i < nc → g i < 61) (hQu : Q u) (h : CI u) (hf : f < 61) (C : sX u ws fs) (hd : 2 ≤ d) (hr : r = 7) (n2 : nc = 2) (hn : ws.length + (cw 0).length + (cw 1).length + 3 ≤ 128) (hk : fs.length + (cf 0).length + (cf 1).length ≤ 38) : ab_C false l D ca y_SC_writeUnless b_SC_writeUnless 3 none (d + 1) ab_nQ u [ab_O 5 0, ab_O 3 f, ab_I x] (fun u' v => (cP [5, 13, 14] u u' ∧ sX u' (ws ++ (cw 0 ++ [16000] ++ [15000] ++ cw 1 ++ [14000])) (fs ++ cf 0 ++ cf 1)) ∧ v = none) := by
  refine ab_C.of (by decide) (Nat.le_of_ble_eq_true rfl) ?_
  intro p e s m args below meth c ad X hZ hr0 hlk
  have P0 : cP [5, 13, 14] u u := cQ.rf h
  obtain ⟨F1, F2, F3, F4, F5⟩ := F
  have g0 := hg 0 (by omega)
  have g1 := hg 1 (by omega)
  have e5 : u.1 3 f 4 = nI 7 := by rw [F1, hr]
  refine ab_aload_n X 0 d_SC_writeUnless_0 rfl rfl ?_
  refine ab_aload_n X 1 d_SC_writeUnless_1 rfl rfl ?_
  refine ab_gR X fl_SC_59 d_SC_writeUnless_2 (by first | assumption | decide | (show _ < 124; omega) | (show _ < 61; omega) | (show _ < 20; omega)) (P0.1.fm0 (by first | assumption | decide | omega)) ?_
  refine ab_iconst (v := 0) X d_SC_writeUnless_5 (by decide) ?_
  refine ab_aalv X (0) ⟨rfl, _, fun _ => rfl⟩ d_SC_writeUnless_6 (by first | assumption | decide | (show _ < 124; omega) | (show _ < 61; omega) | (show _ < 20; omega)) (rfl) (show 0 < 4 by decide) (ab_ln_lt _ _) (F5 0 (by omega)) ?_
  refine ab_iload_n X 2 d_SC_writeUnless_7 rfl rfl ?_
  refine ab_iconst (v := 1) X d_SC_writeUnless_8 (by decide) ?_
  refine ab_iadd X d_SC_writeUnless_9 ?_
  refine ab_callV (as := [ab_O 3 (g 0), ab_I (x + 1)]) X (fun h => by cases h) (W 0 u _ _ (by omega) h hQu C (by omega) (by omega)) lk_SC_62 d_SC_writeUnless_10 rfl rfl (by first | assumption | decide | (show _ < 124; omega) | (show _ < 61; omega) | (show _ < 20; omega)) ⟨by first | exact Nat.le_of_ble_eq_true rfl | (simp only [ab_rm]; omega), by first | exact Nat.le_of_ble_eq_true rfl | (simp only [ab_rm]; omega)⟩ ⟨by first | exact Nat.le_of_ble_eq_true rfl | (simp only [ab_rm]; omega), by first | exact Nat.le_of_ble_eq_true rfl | (simp only [ab_rm]; omega)⟩ (Nat.le_of_ble_eq_true rfl) (fun u10 r10 h10 => ?_)
  obtain ⟨⟨q10, c10⟩, rfl⟩ := h10
  have P10 := P0.trans q10 (by decide)
  refine ab_aload_n X 1 d_SC_writeUnless_13 rfl rfl ?_
  refine ab_gI X fl_SC_28 d_SC_writeUnless_14 (by first | assumption | decide | (show _ < 124; omega) | (show _ < 61; omega) | (show _ < 20; omega)) (P10.ii (by decide) e5) ?_
  refine ab_bipush (v := 7) X d_SC_writeUnless_17 (by decide) ?_
  refine ab_icmp_ne X 28 d_SC_writeUnless_19 rfl (fun hb => absurd (rfl) hb) (fun _ => ?_)
  refine ab_aload_n X 0 d_SC_writeUnless_22 rfl rfl ?_
  refine ab_bipush (v := 16) X d_SC_writeUnless_23 (by decide) ?_
  refine ab_callV (as := [ab_I (nI 16)]) X (fun h => by cases h) (x_SC_addOp u10 16 _ _ P10.1 c10 (by rw [List.length_append]; omega)) lk_SC_42 d_SC_writeUnless_25 rfl rfl (by first | assumption | decide | (show _ < 124; omega) | (show _ < 61; omega) | (show _ < 20; omega)) ⟨by first | exact Nat.le_of_ble_eq_true rfl | (simp only [ab_rm]; omega), by first | exact Nat.le_of_ble_eq_true rfl | (simp only [ab_rm]; omega)⟩ ⟨by first | exact Nat.le_of_ble_eq_true rfl | (simp only [ab_rm]; omega), by first | exact Nat.le_of_ble_eq_true rfl | (simp only [ab_rm]; omega)⟩ (Nat.le_of_ble_eq_true rfl) (fun u25 r25 h25 => ?_)
  obtain ⟨⟨q25, c25⟩, rfl⟩ := h25
  have P25 := P10.trans q25 (by decide)
  refine ab_aload_n X 0 d_SC_writeUnless_28 rfl rfl ?_
  refine ab_bipush (v := 15) X d_SC_writeUnless_29 (by decide) ?_
  refine ab_callV (as := [ab_I (nI 15)]) X (fun h => by cases h) (x_SC_addOp u25 15 _ _ P25.1 c25 (by rw [List.length_append, List.length_append]; show _ + _ + 1 < 128; omega)) lk_SC_42 d_SC_writeUnless_31 rfl rfl (by first | assumption | decide | (show _ < 124; omega) | (show _ < 61; omega) | (show _ < 20; omega)) ⟨by first | exact Nat.le_of_ble_eq_true rfl | (simp only [ab_rm]; omega), by first | exact Nat.le_of_ble_eq_true rfl | (simp only [ab_rm]; omega)⟩ ⟨by first | exact Nat.le_of_ble_eq_true rfl | (simp only [ab_rm]; omega), by first | exact Nat.le_of_ble_eq_true rfl | (simp only [ab_rm]; omega)⟩ (Nat.le_of_ble_eq_true rfl) (fun u31 r31 h31 => ?_)
  obtain ⟨⟨q31, c31⟩, rfl⟩ := h31
  have P31 := P25.trans q31 (by decide)
  refine ab_aload_n X 0 d_SC_writeUnless_34 rfl rfl ?_
  refine ab_aload_n X 1 d_SC_writeUnless_35 rfl rfl ?_
  refine ab_gR X fl_SC_59 d_SC_writeUnless_36 (by first | assumption | decide | (show _ < 124; omega) | (show _ < 61; omega) | (show _ < 20; omega)) (P31.1.fm0 (by first | assumption | decide | omega)) ?_
  refine ab_iconst (v := 1) X d_SC_writeUnless_39 (by decide) ?_
  refine ab_aalv X (1) ⟨rfl, _, fun _ => rfl⟩ d_SC_writeUnless_40 (by first | assumption | decide | (show _ < 124; omega) | (show _ < 61; omega) | (show _ < 20; omega)) (rfl) (show 1 < 4 by decide) (ab_ln_lt _ _) (P31.rr (by decide) (F5 1 (by omega))) ?_
  refine ab_iload_n X 2 d_SC_writeUnless_41 rfl rfl ?_
  refine ab_iconst (v := 1) X d_SC_writeUnless_42 (by decide) ?_
  refine ab_iadd X d_SC_writeUnless_43 ?_
  refine ab_callV (as := [ab_O 3 (g 1), ab_I (x + 1)]) X (fun h => by cases h) (W 1 u31 _ _ (by omega) P31.1 (hQ _ _ hQu P31) c31 (by rw [List.length_append, List.length_append, List.length_append]; show _ + _ + 1 + 1 + _ ≤ 128; omega) (by rw [List.length_append]; omega)) lk_SC_62 d_SC_writeUnless_44 rfl rfl (by first | assumption | decide | (show _ < 124; omega) | (show _ < 61; omega) | (show _ < 20; omega)) ⟨by first | exact Nat.le_of_ble_eq_true rfl | (simp only [ab_rm]; omega), by first | exact Nat.le_of_ble_eq_true rfl | (simp only [ab_rm]; omega)⟩ ⟨by first | exact Nat.le_of_ble_eq_true rfl | (simp only [ab_rm]; omega), by first | exact Nat.le_of_ble_eq_true rfl | (simp only [ab_rm]; omega)⟩ (Nat.le_of_ble_eq_true rfl) (fun u44 r44 h44 => ?_)
  obtain ⟨⟨q44, c44⟩, rfl⟩ := h44
  have P44 := P31.trans q44 (by decide)
  refine ab_aload_n X 0 d_SC_writeUnless_47 rfl rfl ?_
  refine ab_bipush (v := 14) X d_SC_writeUnless_48 (by decide) ?_
  refine ab_callV (as := [ab_I (nI 14)]) X (fun h => by cases h) (x_SC_addOp u44 14 _ _ P44.1 c44 (by rw [List.length_append, List.length_append, List.length_append, List.length_append]; show _ + _ + 1 + 1 + _ < 128; omega)) lk_SC_42 d_SC_writeUnless_50 rfl rfl (by first | assumption | decide | (show _ < 124; omega) | (show _ < 61; omega) | (show _ < 20; omega)) ⟨by first | exact Nat.le_of_ble_eq_true rfl | (simp only [ab_rm]; omega), by first | exact Nat.le_of_ble_eq_true rfl | (simp only [ab_rm]; omega)⟩ ⟨by first | exact Nat.le_of_ble_eq_true rfl | (simp only [ab_rm]; omega), by first | exact Nat.le_of_ble_eq_true rfl | (simp only [ab_rm]; omega)⟩ (Nat.le_of_ble_eq_true rfl) (fun u50 r50 h50 => ?_)
  obtain ⟨⟨q50, c50⟩, rfl⟩ := h50
  have P50 := P44.trans q50 (by decide)
  exact ab_retv X hr0 hlk d_SC_writeUnless_53 ⟨⟨P50, c50.cast (by simp [List.append_assoc]) rfl⟩, rfl⟩
set_option maxRecDepth 100000 in
set_option maxHeartbeats 1000000 in
theorem x_SC_un8 (Q : ab_S → Prop) (hQ : ∀ u u', Q u → cP [5, 13, 14] u u' → Q u') (cw cf : Nat → List Nat) (d : Nat) (x : Int32) (nc : Nat) (g : Nat → Nat) (W : ∀ (i : Nat) (u : ab_S) (ws fs : List Nat), i < nc → CI u → Q u → sX u ws fs → ws.length + (cw i).length ≤ 128 → fs.length + (cf i).length ≤ 38 → ab_C false l D ca y_SC_write b_SC_write 3 none d ab_nQ u [ab_O 5 0, ab_O 3 (g i), ab_I (x + 1)] (fun u' v => (cP [5, 13, 14] u u' ∧ sX u' (ws ++ cw i) (fs ++ cf i)) ∧ v = none)) (u : ab_S) (f r mk nd : Nat) (ws fs : List Nat) (F : FD u f r (nI mk) (nI nd) nc g) (hc4 : nc ≤ 4) (hg : ∀ i, i < nc → g i < 61) (hQu : Q u) (h : CI u) (hf : f < 61) (C : sX u ws fs) (hd : 2 ≤ d) (hr : r = 8) (n2 : nc = 2) (hn : ws.length + (cw 0).length + (cw 1).length + 2 ≤ 128) (hk : fs.length + (cf 0).length + (cf 1).length ≤ 38) : ab_C false l D ca y_SC_writeUnless b_SC_writeUnless 3 none (d + 1) ab_nQ u [ab_O 5 0, ab_O 3 f, ab_I x] (fun u' v => (cP [5, 13, 14] u u' ∧ sX u' (ws ++ (cw 0 ++ [15000] ++ cw 1 ++ [14000])) (fs ++ cf 0 ++ cf 1)) ∧ v = none) := by
  refine ab_C.of (by decide) (Nat.le_of_ble_eq_true rfl) ?_
  intro p e s m args below meth c ad X hZ hr0 hlk
  have P0 : cP [5, 13, 14] u u := cQ.rf h
  obtain ⟨F1, F2, F3, F4, F5⟩ := F
  have g0 := hg 0 (by omega)
  have g1 := hg 1 (by omega)
  have e5 : u.1 3 f 4 = nI 8 := by rw [F1, hr]
  refine ab_aload_n X 0 d_SC_writeUnless_0 rfl rfl ?_
  refine ab_aload_n X 1 d_SC_writeUnless_1 rfl rfl ?_
  refine ab_gR X fl_SC_59 d_SC_writeUnless_2 (by first | assumption | decide | (show _ < 124; omega) | (show _ < 61; omega) | (show _ < 20; omega)) (P0.1.fm0 (by first | assumption | decide | omega)) ?_
  refine ab_iconst (v := 0) X d_SC_writeUnless_5 (by decide) ?_
  refine ab_aalv X (0) ⟨rfl, _, fun _ => rfl⟩ d_SC_writeUnless_6 (by first | assumption | decide | (show _ < 124; omega) | (show _ < 61; omega) | (show _ < 20; omega)) (rfl) (show 0 < 4 by decide) (ab_ln_lt _ _) (F5 0 (by omega)) ?_
  refine ab_iload_n X 2 d_SC_writeUnless_7 rfl rfl ?_
  refine ab_iconst (v := 1) X d_SC_writeUnless_8 (by decide) ?_
  refine ab_iadd X d_SC_writeUnless_9 ?_
  refine ab_callV (as := [ab_O 3 (g 0), ab_I (x + 1)]) X (fun h => by cases h) (W 0 u _ _ (by omega) h hQu C (by omega) (by omega)) lk_SC_62 d_SC_writeUnless_10 rfl rfl (by first | assumption | decide | (show _ < 124; omega) | (show _ < 61; omega) | (show _ < 20; omega)) ⟨by first | exact Nat.le_of_ble_eq_true rfl | (simp only [ab_rm]; omega), by first | exact Nat.le_of_ble_eq_true rfl | (simp only [ab_rm]; omega)⟩ ⟨by first | exact Nat.le_of_ble_eq_true rfl | (simp only [ab_rm]; omega), by first | exact Nat.le_of_ble_eq_true rfl | (simp only [ab_rm]; omega)⟩ (Nat.le_of_ble_eq_true rfl) (fun u10 r10 h10 => ?_)
  obtain ⟨⟨q10, c10⟩, rfl⟩ := h10
  have P10 := P0.trans q10 (by decide)
  refine ab_aload_n X 1 d_SC_writeUnless_13 rfl rfl ?_
  refine ab_gI X fl_SC_28 d_SC_writeUnless_14 (by first | assumption | decide | (show _ < 124; omega) | (show _ < 61; omega) | (show _ < 20; omega)) (P10.ii (by decide) e5) ?_
  refine ab_bipush (v := 7) X d_SC_writeUnless_17 (by decide) ?_
  refine ab_icmp_ne X 28 d_SC_writeUnless_19 rfl (fun _ => ?_) (fun hb => absurd hb ((by decide)))
  refine ab_aload_n X 0 d_SC_writeUnless_28 rfl rfl ?_
  refine ab_bipush (v := 15) X d_SC_writeUnless_29 (by decide) ?_
  refine ab_callV (as := [ab_I (nI 15)]) X (fun h => by cases h) (x_SC_addOp u10 15 _ _ P10.1 c10 (by rw [List.length_append]; omega)) lk_SC_42 d_SC_writeUnless_31 rfl rfl (by first | assumption | decide | (show _ < 124; omega) | (show _ < 61; omega) | (show _ < 20; omega)) ⟨by first | exact Nat.le_of_ble_eq_true rfl | (simp only [ab_rm]; omega), by first | exact Nat.le_of_ble_eq_true rfl | (simp only [ab_rm]; omega)⟩ ⟨by first | exact Nat.le_of_ble_eq_true rfl | (simp only [ab_rm]; omega), by first | exact Nat.le_of_ble_eq_true rfl | (simp only [ab_rm]; omega)⟩ (Nat.le_of_ble_eq_true rfl) (fun u31 r31 h31 => ?_)
  obtain ⟨⟨q31, c31⟩, rfl⟩ := h31
  have P31 := P10.trans q31 (by decide)
  refine ab_aload_n X 0 d_SC_writeUnless_34 rfl rfl ?_
  refine ab_aload_n X 1 d_SC_writeUnless_35 rfl rfl ?_
  refine ab_gR X fl_SC_59 d_SC_writeUnless_36 (by first | assumption | decide | (show _ < 124; omega) | (show _ < 61; omega) | (show _ < 20; omega)) (P31.1.fm0 (by first | assumption | decide | omega)) ?_
  refine ab_iconst (v := 1) X d_SC_writeUnless_39 (by decide) ?_
  refine ab_aalv X (1) ⟨rfl, _, fun _ => rfl⟩ d_SC_writeUnless_40 (by first | assumption | decide | (show _ < 124; omega) | (show _ < 61; omega) | (show _ < 20; omega)) (rfl) (show 1 < 4 by decide) (ab_ln_lt _ _) (P31.rr (by decide) (F5 1 (by omega))) ?_
  refine ab_iload_n X 2 d_SC_writeUnless_41 rfl rfl ?_
  refine ab_iconst (v := 1) X d_SC_writeUnless_42 (by decide) ?_
  refine ab_iadd X d_SC_writeUnless_43 ?_
  refine ab_callV (as := [ab_O 3 (g 1), ab_I (x + 1)]) X (fun h => by cases h) (W 1 u31 _ _ (by omega) P31.1 (hQ _ _ hQu P31) c31 (by rw [List.length_append, List.length_append]; show _ + _ + 1 + _ ≤ 128; omega) (by rw [List.length_append]; omega)) lk_SC_62 d_SC_writeUnless_44 rfl rfl (by first | assumption | decide | (show _ < 124; omega) | (show _ < 61; omega) | (show _ < 20; omega)) ⟨by first | exact Nat.le_of_ble_eq_true rfl | (simp only [ab_rm]; omega), by first | exact Nat.le_of_ble_eq_true rfl | (simp only [ab_rm]; omega)⟩ ⟨by first | exact Nat.le_of_ble_eq_true rfl | (simp only [ab_rm]; omega), by first | exact Nat.le_of_ble_eq_true rfl | (simp only [ab_rm]; omega)⟩ (Nat.le_of_ble_eq_true rfl) (fun u44 r44 h44 => ?_)
  obtain ⟨⟨q44, c44⟩, rfl⟩ := h44
  have P44 := P31.trans q44 (by decide)
  refine ab_aload_n X 0 d_SC_writeUnless_47 rfl rfl ?_
  refine ab_bipush (v := 14) X d_SC_writeUnless_48 (by decide) ?_
  refine ab_callV (as := [ab_I (nI 14)]) X (fun h => by cases h) (x_SC_addOp u44 14 _ _ P44.1 c44 (by rw [List.length_append, List.length_append, List.length_append]; show _ + _ + 1 + _ < 128; omega)) lk_SC_42 d_SC_writeUnless_50 rfl rfl (by first | assumption | decide | (show _ < 124; omega) | (show _ < 61; omega) | (show _ < 20; omega)) ⟨by first | exact Nat.le_of_ble_eq_true rfl | (simp only [ab_rm]; omega), by first | exact Nat.le_of_ble_eq_true rfl | (simp only [ab_rm]; omega)⟩ ⟨by first | exact Nat.le_of_ble_eq_true rfl | (simp only [ab_rm]; omega), by first | exact Nat.le_of_ble_eq_true rfl | (simp only [ab_rm]; omega)⟩ (Nat.le_of_ble_eq_true rfl) (fun u50 r50 h50 => ?_)
  obtain ⟨⟨q50, c50⟩, rfl⟩ := h50
  have P50 := P44.trans q50 (by decide)
  exact ab_retv X hr0 hlk d_SC_writeUnless_53 ⟨⟨P50, c50.cast (by simp [List.append_assoc]) rfl⟩, rfl⟩
/-- the words of a form by its rule -/
def wdr (r mk nd nc : Nat) (cw : Nat → List Nat) : List Nat := if r = 1 then [mk] else if r = 3 then cat cw nc ++ [5000] else if r = 4 then asd cw (1000 * mk) nc ++ (if mk = 8 then [9000 + nd] else []) else if r = 5 then [12000] ++ cw 0 ++ [13000] ++ cw 1 ++ [14000] else if r = 6 then [12000] ++ cw 0 ++ [13000] ++ [17000] ++ [14000] else if r = 7 then cw 0 ++ [16000] ++ [15000] ++ cw 1 ++ [14000] else if r = 8 then cw 0 ++ [15000] ++ cw 1 ++ [14000] else cat cw nc
theorem cat_2 (cf : Nat → List Nat) : cat cf 2 = cf 0 ++ cf 1 := by
  show [] ++ cf 0 ++ cf 1 = _
  rw [List.nil_append]
theorem cat_1 (cf : Nat → List Nat) : cat cf 1 = cf 0 := List.nil_append _
set_option maxRecDepth 100000 in
set_option maxHeartbeats 1000000 in
theorem x_SC_write1 (Q : ab_S → Prop) (hQ : ∀ u u', Q u → cP [5, 13, 14] u u' → Q u') (cw cf : Nat → List Nat) (d : Nat) (x : Int32) (nc : Nat) (g : Nat → Nat) (W : ∀ (i : Nat) (u : ab_S) (ws fs : List Nat), i < nc → CI u → Q u → sX u ws fs → ws.length + (cw i).length ≤ 128 → fs.length + (cf i).length ≤ 38 → ab_C false l D ca y_SC_write b_SC_write 3 none d ab_nQ u [ab_O 5 0, ab_O 3 (g i), ab_I (x + 1)] (fun u' v => (cP [5, 13, 14] u u' ∧ sX u' (ws ++ cw i) (fs ++ cf i)) ∧ v = none)) (u : ab_S) (f r mk nd : Nat) (ws fs : List Nat) (F : FD u f r (nI mk) (nI nd) nc g) (hc4 : nc ≤ 4) (hg : ∀ i, i < nc → g i < 61) (hQu : Q u) (h : CI u) (hf : f < 61) (C : sX u ws fs) (hd : 2 ≤ d) (hr : 1 ≤ r ∧ r ≤ 8) (sh : shx r nc) (hmk : r = 4 → mk < 1000) (hn : ws.length + (wdr r mk nd nc cw).length ≤ 128) (hk : fs.length + ((cat cf nc).length + 1) ≤ 38) (hx : ¬ 40 < x) : ab_C false l D ca y_SC_write b_SC_write 3 none (d + 2) ab_nQ u [ab_O 5 0, ab_O 3 f, ab_I x] (fun u' v => (cP [5, 13, 14] u u' ∧ sX u' (ws ++ wdr r mk nd nc cw) (fs ++ (cat cf nc ++ [f]))) ∧ v = none) := by
  refine ab_C.of (by decide) (Nat.le_of_ble_eq_true rfl) ?_
  intro p e s m args below meth c ad X hZ hr0 hlk
  have P0 : cP [5, 13, 14] u u := cQ.rf h
  obtain ⟨r1, r8⟩ := hr
  obtain ⟨h1, h3, h4, h5⟩ := sh
  obtain ⟨F1, F2, F3, F4, F5⟩ := id F
  have fin : ∀ (u1 : ab_S), cP [5, 13, 14] u u1 → sX u1 (ws ++ wdr r mk nd nc cw) (fs ++ cat cf nc) → ab_J p l e (ab_rm (d + 2) 0 0) s m args below meth c (MQ below (ab_Q D ca ad ab_nQ s.heap.size (fun u' v => (cP [5, 13, 14] u u' ∧ sX u' (ws ++ wdr r mk nd nc cw) (fs ++ (cat cf nc ++ [f]))) ∧ v = none)) args s 0 0 (ab_A ad ab_nQ s.heap.size)) D ca (ab_A ad ab_nQ s.heap.size) s.heap 3 0 0 ad ab_nQ u1 126 [(0, ab_O 5 0), (1, ab_O 3 f), (2, ab_I x)] [] := by
    intro u1 P1 C1
    refine ab_aload_n X 0 d_SC_write_126 rfl rfl ?_
    refine ab_aload_n X 1 d_SC_write_127 rfl rfl ?_
    refine ab_callV (as := [ab_O 3 f]) X (fun h => by cases h) (x_SC_keep u1 f _ _ P1.1 hf C1 (by rw [List.length_append]; omega)) lk_SC_54 d_SC_write_128 rfl rfl (by first | assumption | decide | (show _ < 124; omega) | (show _ < 61; omega) | (show _ < 20; omega)) ⟨by first | exact Nat.le_of_ble_eq_true rfl | (simp only [ab_rm]; omega), by first | exact Nat.le_of_ble_eq_true rfl | (simp only [ab_rm]; omega)⟩ ⟨by first | exact Nat.le_of_ble_eq_true rfl | (simp only [ab_rm]; omega), by first | exact Nat.le_of_ble_eq_true rfl | (simp only [ab_rm]; omega)⟩ (Nat.le_of_ble_eq_true rfl) (fun u128 r128 h128 => ?_)
    obtain ⟨⟨q128, c128⟩, rfl⟩ := h128
    have P128 := P1.trans q128 (by decide)
    exact ab_retv X hr0 hlk d_SC_write_131 ⟨⟨P128, c128.cast rfl (List.append_assoc _ _ _)⟩, rfl⟩
  have rr : ∀ {j : Nat}, nI r = nI j → j ≤ 8 → r = j := fun z hj => (nI_eq (by omega) (by omega)).mp z
  refine ab_iload_n X 2 d_SC_write_0 rfl rfl ?_
  refine ab_bipush (v := 40) X d_SC_write_1 (by decide) ?_
  refine ab_icmp_gt X 18 d_SC_write_3 rfl (fun hb => absurd hb (hx)) (fun _ => ?_)
  refine ab_aload_n X 0 d_SC_write_6 rfl rfl ?_
  refine ab_gI X fl_SC_25 d_SC_write_7 (by first | assumption | decide | (show _ < 124; omega) | (show _ < 61; omega) | (show _ < 20; omega)) (C.2.2.1) ?_
  refine ab_aload_n X 0 d_SC_write_10 rfl rfl ?_
  refine ab_gR X fl_SC_17 d_SC_write_11 (by first | assumption | decide | (show _ < 124; omega) | (show _ < 61; omega) | (show _ < 20; omega)) (P0.1.sc1) ?_
  refine ab_alen X ⟨by decide, _, fun _ => rfl⟩ d_SC_write_14 (by first | assumption | decide | (show _ < 124; omega) | (show _ < 61; omega) | (show _ < 20; omega)) (rfl) ?_
  refine ab_icmp_lt X 19 d_SC_write_15 rfl (fun _ => ?_) (fun hb => absurd ((nI_lt (b := 38) (by omega) (by decide))) hb)
  refine ab_aload_n X 1 d_SC_write_19 rfl rfl ?_
  refine ab_gI X fl_SC_28 d_SC_write_20 (by first | assumption | decide | (show _ < 124; omega) | (show _ < 61; omega) | (show _ < 20; omega)) (F1) ?_
  refine ab_tsw X [(1, 68), (3, 79), (4, 93), (5, 102), (6, 102), (7, 111), (8, 111)] 120 d_SC_write_23 (by decide +kernel) rfl (List.forall_mem_cons.mpr ⟨fun h23_1 => ?_, List.forall_mem_cons.mpr ⟨fun h23_3 => ?_, List.forall_mem_cons.mpr ⟨fun h23_4 => ?_, List.forall_mem_cons.mpr ⟨fun h23_5 => ?_, List.forall_mem_cons.mpr ⟨fun h23_6 => ?_, List.forall_mem_cons.mpr ⟨fun h23_7 => ?_, List.forall_mem_cons.mpr ⟨fun h23_8 => ?_, fun _ h => absurd h List.not_mem_nil⟩⟩⟩⟩⟩⟩⟩) (fun h23 => ?_)
  ·
    obtain rfl : r = 1 := rr h23_1 (by decide)
    have n0 := h1 rfl
    have eW : wdr 1 mk nd nc cw = [mk] := rfl
    rw [eW] at hn fin
    have hn1 : ws.length + 1 ≤ 128 := hn
    refine ab_aload_n X 0 d_SC_write_68 rfl rfl ?_
    refine ab_aload_n X 1 d_SC_write_69 rfl rfl ?_
    refine ab_gI X fl_SC_31 d_SC_write_70 (by first | assumption | decide | (show _ < 124; omega) | (show _ < 61; omega) | (show _ < 20; omega)) (F2) ?_
    refine ab_callV (as := [ab_I (nI mk)]) X (fun h => by cases h) (x_SC_addWord u mk ws fs h C (by omega)) lk_SC_34 d_SC_write_73 rfl rfl (by first | assumption | decide | (show _ < 124; omega) | (show _ < 61; omega) | (show _ < 20; omega)) ⟨by first | exact Nat.le_of_ble_eq_true rfl | (simp only [ab_rm]; omega), by first | exact Nat.le_of_ble_eq_true rfl | (simp only [ab_rm]; omega)⟩ ⟨by first | exact Nat.le_of_ble_eq_true rfl | (simp only [ab_rm]; omega), by first | exact Nat.le_of_ble_eq_true rfl | (simp only [ab_rm]; omega)⟩ (Nat.le_of_ble_eq_true rfl) (fun u73 r73 h73 => ?_)
    obtain ⟨⟨q73, c73⟩, rfl⟩ := h73
    have P73 := P0.trans q73 (by decide)
    refine ab_goto X 126 d_SC_write_76 rfl ?_
    first | exact fin _ P73 (c73.cast rfl (by rw [n0]; exact (List.append_nil _).symm)) | exact fin _ P73 (c87.cast (List.append_assoc _ _ _) rfl) | exact fin _ P73 c96 | exact fin _ P73 (c105.cast rfl ec) | exact fin _ P73 (c114.cast rfl ec) | exact fin _ P73 c123
  ·
    obtain rfl : r = 3 := rr h23_3 (by decide)
    have eW : wdr 3 mk nd nc cw = cat cw nc ++ [5000] := rfl
    rw [eW] at hn fin
    rw [List.length_append] at hn
    have hn1 : ws.length + ((cat cw nc).length + 1) ≤ 128 := hn
    refine ab_aload_n X 0 d_SC_write_79 rfl rfl ?_
    refine ab_aload_n X 1 d_SC_write_80 rfl rfl ?_
    refine ab_iload_n X 2 d_SC_write_81 rfl rfl ?_
    refine ab_callV (as := [ab_O 3 f, ab_I x]) X (fun h => by cases h) (x_SC_row Q hQ cw cf d x nc g W u f _ mk nd ws fs F hc4 hg hQu h hf C hd (by omega) (by omega)) lk_SC_38 d_SC_write_82 rfl rfl (by first | assumption | decide | (show _ < 124; omega) | (show _ < 61; omega) | (show _ < 20; omega)) ⟨by first | exact Nat.le_of_ble_eq_true rfl | (simp only [ab_rm]; omega), by first | exact Nat.le_of_ble_eq_true rfl | (simp only [ab_rm]; omega)⟩ ⟨by first | exact Nat.le_of_ble_eq_true rfl | (simp only [ab_rm]; omega), by first | exact Nat.le_of_ble_eq_true rfl | (simp only [ab_rm]; omega)⟩ (Nat.le_of_ble_eq_true rfl) (fun u82 r82 h82 => ?_)
    obtain ⟨⟨q82, c82⟩, rfl⟩ := h82
    have P82 := P0.trans q82 (by decide)
    refine ab_aload_n X 0 d_SC_write_85 rfl rfl ?_
    refine ab_iconst (v := 5) X d_SC_write_86 (by decide) ?_
    refine ab_callV (as := [ab_I (nI 5)]) X (fun h => by cases h) (x_SC_addOp u82 5 _ _ P82.1 c82 (by rw [List.length_append]; omega)) lk_SC_42 d_SC_write_87 rfl rfl (by first | assumption | decide | (show _ < 124; omega) | (show _ < 61; omega) | (show _ < 20; omega)) ⟨by first | exact Nat.le_of_ble_eq_true rfl | (simp only [ab_rm]; omega), by first | exact Nat.le_of_ble_eq_true rfl | (simp only [ab_rm]; omega)⟩ ⟨by first | exact Nat.le_of_ble_eq_true rfl | (simp only [ab_rm]; omega), by first | exact Nat.le_of_ble_eq_true rfl | (simp only [ab_rm]; omega)⟩ (Nat.le_of_ble_eq_true rfl) (fun u87 r87 h87 => ?_)
    obtain ⟨⟨q87, c87⟩, rfl⟩ := h87
    have P87 := P82.trans q87 (by decide)
    refine ab_goto X 126 d_SC_write_90 rfl ?_
    first | exact fin _ P87 (c73.cast rfl (by rw [n0]; exact (List.append_nil _).symm)) | exact fin _ P87 (c87.cast (List.append_assoc _ _ _) rfl) | exact fin _ P87 c96 | exact fin _ P87 (c105.cast rfl ec) | exact fin _ P87 (c114.cast rfl ec) | exact fin _ P87 c123
  ·
    obtain rfl : r = 4 := rr h23_4 (by decide)
    have eW : wdr 4 mk nd nc cw = asd cw (1000 * mk) nc ++ (if mk = 8 then [9000 + nd] else []) := rfl
    rw [eW] at hn fin
    refine ab_aload_n X 0 d_SC_write_93 rfl rfl ?_
    refine ab_aload_n X 1 d_SC_write_94 rfl rfl ?_
    refine ab_iload_n X 2 d_SC_write_95 rfl rfl ?_
    refine ab_callV (as := [ab_O 3 f, ab_I x]) X (fun h => by cases h) (x_SC_aside Q hQ cw cf d x nc g W u f _ mk nd ws fs F hc4 hg hQu h hf C hd (h4 rfl) (hmk rfl) hn (by omega)) lk_SC_45 d_SC_write_96 rfl rfl (by first | assumption | decide | (show _ < 124; omega) | (show _ < 61; omega) | (show _ < 20; omega)) ⟨by first | exact Nat.le_of_ble_eq_true rfl | (simp only [ab_rm]; omega), by first | exact Nat.le_of_ble_eq_true rfl | (simp only [ab_rm]; omega)⟩ ⟨by first | exact Nat.le_of_ble_eq_true rfl | (simp only [ab_rm]; omega), by first | exact Nat.le_of_ble_eq_true rfl | (simp only [ab_rm]; omega)⟩ (Nat.le_of_ble_eq_true rfl) (fun u96 r96 h96 => ?_)
    obtain ⟨⟨q96, c96⟩, rfl⟩ := h96
    have P96 := P0.trans q96 (by decide)
    refine ab_goto X 126 d_SC_write_99 rfl ?_
    first | exact fin _ P96 (c73.cast rfl (by rw [n0]; exact (List.append_nil _).symm)) | exact fin _ P96 (c87.cast (List.append_assoc _ _ _) rfl) | exact fin _ P96 c96 | exact fin _ P96 (c105.cast rfl ec) | exact fin _ P96 (c114.cast rfl ec) | exact fin _ P96 c123
  ·
    obtain rfl : r = 5 := rr h23_5 (by decide)
    have n2 := h5 (Or.inl rfl)
    have eW : wdr 5 mk nd nc cw = [12000] ++ cw 0 ++ [13000] ++ cw 1 ++ [14000] := rfl
    have ec : fs ++ cf 0 ++ cf 1 = fs ++ cat cf nc := by rw [n2, cat_2, List.append_assoc]
    have lc : (cat cf nc).length = (cf 0).length + (cf 1).length := by rw [n2, cat_2, List.length_append]
    rw [eW] at hn fin
    have hn1 : ws.length + (cw 0).length + (cw 1).length + 3 ≤ 128 := by simp only [List.length_append, List.length_cons, List.length_nil] at hn; omega
    have K105 := x_SC_if5 (l := l) (D := D) (ca := ca) Q hQ cw cf d x nc g W u f 5 mk nd ws fs F hc4 hg hQu h hf C hd rfl n2 hn1 (by omega)
    refine ab_aload_n X 0 d_SC_write_102 rfl rfl ?_
    refine ab_aload_n X 1 d_SC_write_103 rfl rfl ?_
    refine ab_iload_n X 2 d_SC_write_104 rfl rfl ?_
    refine ab_callV (as := [ab_O 3 f, ab_I x]) X (fun h => by cases h) (K105) lk_SC_48 d_SC_write_105 rfl rfl (by first | assumption | decide | (show _ < 124; omega) | (show _ < 61; omega) | (show _ < 20; omega)) ⟨by first | exact Nat.le_of_ble_eq_true rfl | (simp only [ab_rm]; omega), by first | exact Nat.le_of_ble_eq_true rfl | (simp only [ab_rm]; omega)⟩ ⟨by first | exact Nat.le_of_ble_eq_true rfl | (simp only [ab_rm]; omega), by first | exact Nat.le_of_ble_eq_true rfl | (simp only [ab_rm]; omega)⟩ (Nat.le_of_ble_eq_true rfl) (fun u105 r105 h105 => ?_)
    obtain ⟨⟨q105, c105⟩, rfl⟩ := h105
    have P105 := P0.trans q105 (by decide)
    refine ab_goto X 126 d_SC_write_108 rfl ?_
    first | exact fin _ P105 (c73.cast rfl (by rw [n0]; exact (List.append_nil _).symm)) | exact fin _ P105 (c87.cast (List.append_assoc _ _ _) rfl) | exact fin _ P105 c96 | exact fin _ P105 (c105.cast rfl ec) | exact fin _ P105 (c114.cast rfl ec) | exact fin _ P105 c123
  ·
    obtain rfl : r = 6 := rr h23_6 (by decide)
    have n2 := h3 (Or.inr rfl)
    have eW : wdr 6 mk nd nc cw = [12000] ++ cw 0 ++ [13000] ++ [17000] ++ [14000] := rfl
    have ec : fs ++ cf 0 = fs ++ cat cf nc := by rw [n2, cat_1]
    have lc : (cat cf nc).length = (cf 0).length := by rw [n2, cat_1]
    rw [eW] at hn fin
    have hn1 : ws.length + (cw 0).length + 4 ≤ 128 := by simp only [List.length_append, List.length_cons, List.length_nil] at hn; omega
    have K105 := x_SC_if6 (l := l) (D := D) (ca := ca) Q hQ cw cf d x nc g W u f 6 mk nd ws fs F hc4 hg hQu h hf C hd rfl n2 hn1 (by omega)
    refine ab_aload_n X 0 d_SC_write_102 rfl rfl ?_
    refine ab_aload_n X 1 d_SC_write_103 rfl rfl ?_
    refine ab_iload_n X 2 d_SC_write_104 rfl rfl ?_
    refine ab_callV (as := [ab_O 3 f, ab_I x]) X (fun h => by cases h) (K105) lk_SC_48 d_SC_write_105 rfl rfl (by first | assumption | decide | (show _ < 124; omega) | (show _ < 61; omega) | (show _ < 20; omega)) ⟨by first | exact Nat.le_of_ble_eq_true rfl | (simp only [ab_rm]; omega), by first | exact Nat.le_of_ble_eq_true rfl | (simp only [ab_rm]; omega)⟩ ⟨by first | exact Nat.le_of_ble_eq_true rfl | (simp only [ab_rm]; omega), by first | exact Nat.le_of_ble_eq_true rfl | (simp only [ab_rm]; omega)⟩ (Nat.le_of_ble_eq_true rfl) (fun u105 r105 h105 => ?_)
    obtain ⟨⟨q105, c105⟩, rfl⟩ := h105
    have P105 := P0.trans q105 (by decide)
    refine ab_goto X 126 d_SC_write_108 rfl ?_
    first | exact fin _ P105 (c73.cast rfl (by rw [n0]; exact (List.append_nil _).symm)) | exact fin _ P105 (c87.cast (List.append_assoc _ _ _) rfl) | exact fin _ P105 c96 | exact fin _ P105 (c105.cast rfl ec) | exact fin _ P105 (c114.cast rfl ec) | exact fin _ P105 c123
  ·
    obtain rfl : r = 7 := rr h23_7 (by decide)
    have n2 := h5 (Or.inr (Or.inl rfl))
    have eW : wdr 7 mk nd nc cw = cw 0 ++ [16000] ++ [15000] ++ cw 1 ++ [14000] := rfl
    have ec : fs ++ cf 0 ++ cf 1 = fs ++ cat cf nc := by rw [n2, cat_2, List.append_assoc]
    have lc : (cat cf nc).length = (cf 0).length + (cf 1).length := by rw [n2, cat_2, List.length_append]
    rw [eW] at hn fin
    have hn1 : ws.length + (cw 0).length + (cw 1).length + 3 ≤ 128 := by simp only [List.length_append, List.length_cons, List.length_nil] at hn; omega
    have K114 := x_SC_un7 (l := l) (D := D) (ca := ca) Q hQ cw cf d x nc g W u f 7 mk nd ws fs F hc4 hg hQu h hf C hd rfl n2 hn1 (by omega)
    refine ab_aload_n X 0 d_SC_write_111 rfl rfl ?_
    refine ab_aload_n X 1 d_SC_write_112 rfl rfl ?_
    refine ab_iload_n X 2 d_SC_write_113 rfl rfl ?_
    refine ab_callV (as := [ab_O 3 f, ab_I x]) X (fun h => by cases h) (K114) lk_SC_51 d_SC_write_114 rfl rfl (by first | assumption | decide | (show _ < 124; omega) | (show _ < 61; omega) | (show _ < 20; omega)) ⟨by first | exact Nat.le_of_ble_eq_true rfl | (simp only [ab_rm]; omega), by first | exact Nat.le_of_ble_eq_true rfl | (simp only [ab_rm]; omega)⟩ ⟨by first | exact Nat.le_of_ble_eq_true rfl | (simp only [ab_rm]; omega), by first | exact Nat.le_of_ble_eq_true rfl | (simp only [ab_rm]; omega)⟩ (Nat.le_of_ble_eq_true rfl) (fun u114 r114 h114 => ?_)
    obtain ⟨⟨q114, c114⟩, rfl⟩ := h114
    have P114 := P0.trans q114 (by decide)
    refine ab_goto X 126 d_SC_write_117 rfl ?_
    first | exact fin _ P114 (c73.cast rfl (by rw [n0]; exact (List.append_nil _).symm)) | exact fin _ P114 (c87.cast (List.append_assoc _ _ _) rfl) | exact fin _ P114 c96 | exact fin _ P114 (c105.cast rfl ec) | exact fin _ P114 (c114.cast rfl ec) | exact fin _ P114 c123
  ·
    obtain rfl : r = 8 := rr h23_8 (by decide)
    have n2 := h5 (Or.inr (Or.inr rfl))
    have eW : wdr 8 mk nd nc cw = cw 0 ++ [15000] ++ cw 1 ++ [14000] := rfl
    have ec : fs ++ cf 0 ++ cf 1 = fs ++ cat cf nc := by rw [n2, cat_2, List.append_assoc]
    have lc : (cat cf nc).length = (cf 0).length + (cf 1).length := by rw [n2, cat_2, List.length_append]
    rw [eW] at hn fin
    have hn1 : ws.length + (cw 0).length + (cw 1).length + 2 ≤ 128 := by simp only [List.length_append, List.length_cons, List.length_nil] at hn; omega
    have K114 := x_SC_un8 (l := l) (D := D) (ca := ca) Q hQ cw cf d x nc g W u f 8 mk nd ws fs F hc4 hg hQu h hf C hd rfl n2 hn1 (by omega)
    refine ab_aload_n X 0 d_SC_write_111 rfl rfl ?_
    refine ab_aload_n X 1 d_SC_write_112 rfl rfl ?_
    refine ab_iload_n X 2 d_SC_write_113 rfl rfl ?_
    refine ab_callV (as := [ab_O 3 f, ab_I x]) X (fun h => by cases h) (K114) lk_SC_51 d_SC_write_114 rfl rfl (by first | assumption | decide | (show _ < 124; omega) | (show _ < 61; omega) | (show _ < 20; omega)) ⟨by first | exact Nat.le_of_ble_eq_true rfl | (simp only [ab_rm]; omega), by first | exact Nat.le_of_ble_eq_true rfl | (simp only [ab_rm]; omega)⟩ ⟨by first | exact Nat.le_of_ble_eq_true rfl | (simp only [ab_rm]; omega), by first | exact Nat.le_of_ble_eq_true rfl | (simp only [ab_rm]; omega)⟩ (Nat.le_of_ble_eq_true rfl) (fun u114 r114 h114 => ?_)
    obtain ⟨⟨q114, c114⟩, rfl⟩ := h114
    have P114 := P0.trans q114 (by decide)
    refine ab_goto X 126 d_SC_write_117 rfl ?_
    first | exact fin _ P114 (c73.cast rfl (by rw [n0]; exact (List.append_nil _).symm)) | exact fin _ P114 (c87.cast (List.append_assoc _ _ _) rfl) | exact fin _ P114 c96 | exact fin _ P114 (c105.cast rfl ec) | exact fin _ P114 (c114.cast rfl ec) | exact fin _ P114 c123
  ·
    have r2 : r = 2 := by
      have q : ∀ (a : Nat) (pc : Nat), (nI a, pc) ∈ [((1 : Int32), 68), (3, 79), (4, 93), (5, 102), (6, 102), (7, 111), (8, 111)] → ¬ r = a := fun a pc hm e => h23 _ hm (by rw [e])
      have q1 := q 1 68 (by decide)
      have q3 := q 3 79 (by decide)
      have q4 := q 4 93 (by decide)
      have q5 := q 5 102 (by decide)
      have q6 := q 6 102 (by decide)
      have q7 := q 7 111 (by decide)
      have q8 := q 8 111 (by decide)
      omega
    subst r2
    have eW : wdr 2 mk nd nc cw = cat cw nc := rfl
    rw [eW] at hn fin
    refine ab_aload_n X 0 d_SC_write_120 rfl rfl ?_
    refine ab_aload_n X 1 d_SC_write_121 rfl rfl ?_
    refine ab_iload_n X 2 d_SC_write_122 rfl rfl ?_
    refine ab_callV (as := [ab_O 3 f, ab_I x]) X (fun h => by cases h) (x_SC_row Q hQ cw cf d x nc g W u f _ mk nd ws fs F hc4 hg hQu h hf C hd hn (by omega)) lk_SC_38 d_SC_write_123 rfl rfl (by first | assumption | decide | (show _ < 124; omega) | (show _ < 61; omega) | (show _ < 20; omega)) ⟨by first | exact Nat.le_of_ble_eq_true rfl | (simp only [ab_rm]; omega), by first | exact Nat.le_of_ble_eq_true rfl | (simp only [ab_rm]; omega)⟩ ⟨by first | exact Nat.le_of_ble_eq_true rfl | (simp only [ab_rm]; omega), by first | exact Nat.le_of_ble_eq_true rfl | (simp only [ab_rm]; omega)⟩ (Nat.le_of_ble_eq_true rfl) (fun u123 r123 h123 => ?_)
    obtain ⟨⟨q123, c123⟩, rfl⟩ := h123
    have P123 := P0.trans q123 (by decide)
    first | exact fin _ P123 (c73.cast rfl (by rw [n0]; exact (List.append_nil _).symm)) | exact fin _ P123 (c87.cast (List.append_assoc _ _ _) rfl) | exact fin _ P123 c96 | exact fin _ P123 (c105.cast rfl ec) | exact fin _ P123 (c114.cast rfl ec) | exact fin _ P123 c123
end SaXScript

