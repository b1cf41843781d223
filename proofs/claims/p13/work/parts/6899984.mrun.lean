/-! The class's machine on a whole script. -/
/-- what a machine answers, and after how many words -/
def rn (hh aa : Int32) (N : Nat) : Nat → List Nat → List Nat → List Nat → Nat → Int32 × Nat
  | 0, _, _, _, k => (0, k)
  | _ + 1, [], st, sd, k => (if st = [1] ∧ sd = [] then -1 else nI N, k)
  | n + 1, x :: r, st, sd, k => match stp hh aa x r st sd with
    | none => (nI (N - (r.length + 1)), k + 1)
    | some (r', st', sd') => rn hh aa N n r' st' sd' (k + 1)
theorem rn_no {hh aa : Int32} {N n x k : Nat} {r st sd : List Nat} (e : stp hh aa x r st sd = none) : rn hh aa N (n + 1) (x :: r) st sd k = (nI (N - (r.length + 1)), k + 1) := by
  show (match stp hh aa x r st sd with
    | none => (nI (N - (r.length + 1)), k + 1)
    | some (r', st', sd') => rn hh aa N n r' st' sd' (k + 1)) = _
  rw [e]
theorem rn_yes {hh aa : Int32} {N n x k : Nat} {r st sd r' st' sd' : List Nat} (e : stp hh aa x r st sd = some (r', st', sd')) : rn hh aa N (n + 1) (x :: r) st sd k = rn hh aa N n r' st' sd' (k + 1) := by
  show (match stp hh aa x r st sd with
    | none => (nI (N - (r.length + 1)), k + 1)
    | some (r', st', sd') => rn hh aa N n r' st' sd' (k + 1)) = _
  rw [e]
theorem stp_len {hh aa : Int32} {x : Nat} {r st sd r' st' sd' : List Nat} (e : stp hh aa x r st sd = some (r', st', sd')) : (∃ n, r' = r.drop n) ∧ st'.length ≤ st.length + 1 ∧ sd'.length ≤ sd.length + 1 ∧ (x / 1000 ≠ 10 → sd'.length ≤ sd.length) := ⟨(stp_inv e).1, (stp_inv e).2.1, (stp_inv e).2.2.1, (stp_inv e).2.2.2.1⟩
theorem drop_c {xs : List Nat} {j : Nat} (h : j < xs.length) : xs.drop j = xs.getD j 0 :: xs.drop (j + 1) := by
  rw [List.drop_eq_getElem_cons h, List.getD_eq_getElem?_getD, List.getElem?_eq_getElem h]
  rfl
theorem getD_mem {xs : List Nat} {j : Nat} (h : j < xs.length) : xs.getD j 0 ∈ xs := by
  rw [List.getD_eq_getElem?_getD, List.getElem?_eq_getElem h]
  exact List.getElem_mem h
theorem rem_nI {x : Nat} (h : x < 20000) : nI x - nI x / 1000 * 1000 = nI (x % 1000) := pk_rem (d := 1000) (Nat.lt_trans h (by decide)) (by decide) (by decide)
section SaXRun
variable {l : Launch} {D : va_G} {ca : Nat → ClassId}
set_option maxRecDepth 100000 in
set_option maxHeartbeats 1000000 in
theorem x_MA_load (u : ab_S) (xs : List Nat) (x40 : xs.length ≤ 40) (xb : ∀ x, x ∈ xs → x < 1020) (ec : u.1 4 123 1 = nI xs.length) (ei : ∀ k, k < xs.length → u.1 8 123 k = nI (xs.getD k 0)) (h : CI u) : ab_C false l D ca y_MA_load b_MA_load 3 none 1 ab_nQ u [ab_O 7 0, ab_O 4 123] (fun u' v => (cP [7, 15, 16] u u' ∧ cM u' xs [] ∧ u'.1 7 0 4 = nI 0 ∧ u'.1 7 0 5 = nI 0 ∧ u'.1 7 0 6 = 0) ∧ v = none) := by
  refine ab_C.of (by decide) (Nat.le_of_ble_eq_true rfl) ?_
  intro p e s m args below meth c ad X hZ hr0 hlk
  have P0 : cP [7, 15, 16] u u := cQ.rf h
  have loop : ∀ (j : Nat) (u1 : ab_S), j ≤ xs.length → cP [7, 15, 16] u u1 → cM u1 (xs.drop j) [] → u1.1 7 0 4 = nI 0 → u1.1 7 0 5 = nI 0 → u1.1 7 0 6 = 0 → ab_J p l e (ab_rm 1 0 0) s m args below meth c (MQ below (ab_Q D ca ad ab_nQ s.heap.size (fun u' v => (cP [7, 15, 16] u u' ∧ cM u' xs [] ∧ u'.1 7 0 4 = nI 0 ∧ u'.1 7 0 5 = nI 0 ∧ u'.1 7 0 6 = 0) ∧ v = none)) args s 0 0 (ab_A ad ab_nQ s.heap.size)) D ca (ab_A ad ab_nQ s.heap.size) s.heap 3 0 0 ad ab_nQ u1 32 [(2, ab_I (nI j - 1)), (0, ab_O 7 0), (1, ab_O 4 123)] [] := by
    intro j
    induction j with
    | zero =>
      intro u1 hj P1 c1 a4 a5 a6
      refine ab_iload_n X 0 d_MA_load_32 rfl rfl ?_
      refine ab_if_lt X 52 d_MA_load_33 rfl (fun _ => ?_) (fun hb => absurd ((by decide)) hb)
      exact ab_retv X hr0 hlk d_MA_load_52 ⟨⟨P1, c1, a4, a5, a6⟩, rfl⟩
    | succ j ih =>
      intro u1 hj P1 c1 a4 a5 a6
      rw [nI_m1 (by omega), show j + 1 - 1 = j by omega]
      have b1 := xb _ (getD_mem (show j < xs.length by omega))
      refine ab_iload_n X 0 d_MA_load_32 rfl rfl ?_
      refine ab_if_lt X 52 d_MA_load_33 rfl (fun hb => absurd hb ((nI_pos (by omega)))) (fun _ => ?_)
      refine ab_aload_n X 1 d_MA_load_36 rfl rfl ?_
      refine ab_aload_n X 2 d_MA_load_37 rfl rfl ?_
      refine ab_gR X fl_MA_54 d_MA_load_38 (by first | assumption | decide | (show _ < 124; omega) | (show _ < 61; omega) | (show _ < 20; omega)) (P1.1.rw (by first | assumption | decide | omega)) ?_
      refine ab_iload_n X 0 d_MA_load_41 rfl rfl ?_
      refine ab_iald X (j) ⟨rfl, rfl⟩ d_MA_load_42 (by first | assumption | decide | (show _ < 124; omega) | (show _ < 61; omega) | (show _ < 20; omega)) (rfl) (show j < 40 by omega) (ab_ln_lt _ _) ?_
      refine ab_top (P1.ii (by decide) (ei j (by omega))) ?_
      refine ab_callV (as := [ab_I (nI (xs.getD j 0))]) X (fun h => by cases h) (x_MA_push u1 (xs.getD j 0) (xs.drop (j + 1)) [] P1.1 c1 (by omega) (by rw [List.length_drop]; omega)) lk_MA_57 d_MA_load_43 rfl rfl (by first | assumption | decide | (show _ < 124; omega) | (show _ < 61; omega) | (show _ < 20; omega)) ⟨by first | exact Nat.le_of_ble_eq_true rfl | (simp only [ab_rm]; omega), by first | exact Nat.le_of_ble_eq_true rfl | (simp only [ab_rm]; omega)⟩ ⟨by first | exact Nat.le_of_ble_eq_true rfl | (simp only [ab_rm]; omega), by first | exact Nat.le_of_ble_eq_true rfl | (simp only [ab_rm]; omega)⟩ (Nat.le_of_ble_eq_true rfl) (fun u43 r43 h43 => ?_)
      obtain ⟨⟨z43, c43, g43⟩, rfl⟩ := h43
      have q43 := z43.1.c
      have P43 := P1.trans q43 (by decide)
      refine ab_iinc2 X 0 1 2 d_MA_load_46 rfl (by decide) rfl rfl rfl rfl ?_
      refine ab_goto X 32 d_MA_load_49 rfl ?_
      rw [show nI j + Int32.ofInt (-1) = nI j - 1 from by rw [Int32.sub_eq_add_neg]; rfl]
      exact ih _ (by omega) P43 (by rw [drop_c (show j < xs.length by omega)]; exact c43) (z43.2.trans a4) (z43.1.2.2.1.trans a5) (g43.trans a6)
  refine ab_aload_n X 0 d_MA_load_0 rfl rfl ?_
  refine ab_iconst (v := 0) X d_MA_load_1 (by decide) ?_
  refine ab_putI X fp_MA_18 d_MA_load_2 (by first | assumption | decide | (show _ < 124; omega) | (show _ < 61; omega) | (show _ < 20; omega)) rfl rfl ?_
  refine ab_gen (fun u2 e2 => ?_)
  have P2 : cP [7, 15, 16] u u2 := by rw [e2]; exact P0.m2 (by decide) (n := 0) (by omega)
  refine ab_aload_n X 0 d_MA_load_5 rfl rfl ?_
  refine ab_iconst (v := 0) X d_MA_load_6 (by decide) ?_
  refine ab_putI X fp_MA_22 d_MA_load_7 (by first | assumption | decide | (show _ < 124; omega) | (show _ < 61; omega) | (show _ < 20; omega)) rfl rfl ?_
  refine ab_gen (fun u7 e7 => ?_)
  have P7 : cP [7, 15, 16] u u7 := by rw [e7]; exact P2.m3 (by decide) (n := 0) (by omega)
  refine ab_aload_n X 0 d_MA_load_10 rfl rfl ?_
  refine ab_iconst (v := 0) X d_MA_load_11 (by decide) ?_
  refine ab_putI X fp_MA_25 d_MA_load_12 (by first | assumption | decide | (show _ < 124; omega) | (show _ < 61; omega) | (show _ < 20; omega)) rfl rfl ?_
  refine ab_gen (fun u12 e12 => ?_)
  have P12 : cP [7, 15, 16] u u12 := by rw [e12]; exact P7.m4 (by decide) (n := 0) (by omega)
  refine ab_aload_n X 0 d_MA_load_15 rfl rfl ?_
  refine ab_iconst (v := 0) X d_MA_load_16 (by decide) ?_
  refine ab_putI X fp_MA_28 d_MA_load_17 (by first | assumption | decide | (show _ < 124; omega) | (show _ < 61; omega) | (show _ < 20; omega)) rfl rfl ?_
  refine ab_gen (fun u17 e17 => ?_)
  have P17 : cP [7, 15, 16] u u17 := by rw [e17]; exact P12.ui rfl (by decide)
  refine ab_aload_n X 0 d_MA_load_20 rfl rfl ?_
  refine ab_iconst (v := 0) X d_MA_load_21 (by decide) ?_
  refine ab_putI X fp_MA_31 d_MA_load_22 (by first | assumption | decide | (show _ < 124; omega) | (show _ < 61; omega) | (show _ < 20; omega)) rfl rfl ?_
  refine ab_gen (fun u22 e22 => ?_)
  have P22 : cP [7, 15, 16] u u22 := by rw [e22]; exact P17.ui rfl (by decide)
  refine ab_aload_n X 1 d_MA_load_25 rfl rfl ?_
  refine ab_gI X fl_MA_51 d_MA_load_26 (by first | assumption | decide | (show _ < 124; omega) | (show _ < 61; omega) | (show _ < 20; omega)) (P22.ii (by decide) ec) ?_
  refine ab_iconst (v := 1) X d_MA_load_29 (by decide) ?_
  refine ab_isub X d_MA_load_30 ?_
  refine ab_istore_n2 X 0 1 d_MA_load_31 rfl (by decide) rfl rfl rfl rfl ?_
  refine loop xs.length _ (Nat.le_refl _) P22 (by rw [List.drop_length]; refine ⟨⟨?_, trivial⟩, ?_, trivial⟩; (rw [e22, e17, e12, e7, e2]; exact (ui_n _ (by omega)).trans ((ui_n _ (by omega)).trans ((ui_n _ (by omega)).trans ((ui_n _ (by omega)).trans (ui_s _))))); (rw [e22, e17, e12, e7]; exact (ui_n _ (by omega)).trans ((ui_n _ (by omega)).trans ((ui_n _ (by omega)).trans (ui_s _))))) ?_ ?_ ?_
  · rw [e22, e17, e12]; exact (ui_n _ (by omega)).trans ((ui_n _ (by omega)).trans (ui_s _))
  · rw [e22, e17]; exact (ui_n _ (by omega)).trans (ui_s _)
  · rw [e22]; exact ui_s _
set_option maxRecDepth 100000 in
set_option maxHeartbeats 4000000 in
theorem x_MA_run (u : ab_S) (hh aa : Int32) (xs : List Nat) (x40 : xs.length ≤ 40) (xb : ∀ x, x ∈ xs → x < 1020) (ec : u.1 4 123 1 = nI xs.length) (ei : ∀ k, k < xs.length → u.1 8 123 k = nI (xs.getD k 0)) (ws : List Nat) (wl : ws.length ≤ 100) (wb : ∀ x, x ∈ ws → 1000 ≤ x ∧ x < 18000) (eN : u.1 5 0 2 = nI ws.length) (ew : ∀ i, i < ws.length → u.1 13 0 i = nI (ws.getD i 0)) (f0 : u.1 6 0 0 = 0) (f1 : u.1 6 0 1 = 0) (f2 : u.1 6 0 2 = hh) (f3 : u.1 6 0 3 = aa) (ok : ∀ n st sd, okm hh aa n ws st sd) (h : CI u) : ab_C false l D ca y_MA_run b_MA_run 5 (some FieldType.int) 4 ab_nQ u [ab_O 7 0, ab_O 5 0, ab_O 4 123, ab_O 6 0] (fun u' v => (cP [7, 15, 16] u u' ∧ u'.1 7 0 5 = nI (rn hh aa ws.length (ws.length + 1) ws xs [] 0).2) ∧ v = some (ab_I (rn hh aa ws.length (ws.length + 1) ws xs [] 0).1)) := by
  refine ab_C.of (by decide) (Nat.le_of_ble_eq_true rfl) ?_
  intro p e s m args below meth c ad X hZ hr0 hlk
  have P0 : cP [7, 15, 16] u u := cQ.rf h
  have stop : ∀ (u1 : ab_S) (a k : Nat), cP [7, 15, 16] u u1 → u1.1 7 0 4 = nI a → u1.1 7 0 5 = nI k → u1.1 7 0 6 = 1 → (rn hh aa ws.length (ws.length + 1) ws xs [] 0) = (nI a, k) → ab_J p l e (ab_rm 4 0 0) s m args below meth c (MQ below (ab_Q D ca ad ab_nQ s.heap.size (fun u' v => (cP [7, 15, 16] u u' ∧ u'.1 7 0 5 = nI (rn hh aa ws.length (ws.length + 1) ws xs [] 0).2) ∧ v = some (ab_I (rn hh aa ws.length (ws.length + 1) ws xs [] 0).1))) args s 0 0 (ab_A ad ab_nQ s.heap.size)) D ca (ab_A ad ab_nQ s.heap.size) s.heap 5 0 0 ad ab_nQ u1 5 [(0, ab_O 7 0), (1, ab_O 5 0), (2, ab_O 4 123), (3, ab_O 6 0)] [] := by
    intro u1 a k P1 a4 a5 a6 hR
    refine ab_aload_n X 0 d_MA_run_5 rfl rfl ?_
    refine ab_gI X fl_MA_31 d_MA_run_6 (by first | assumption | decide | (show _ < 124; omega) | (show _ < 61; omega) | (show _ < 20; omega)) (a6) ?_
    refine ab_if_ne X 97 d_MA_run_9 rfl (fun _ => ?_) (fun hb => absurd hb ((by decide)))
    refine ab_aload_n X 0 d_MA_run_97 rfl rfl ?_
    refine ab_gI X fl_MA_31 d_MA_run_98 (by first | assumption | decide | (show _ < 124; omega) | (show _ < 61; omega) | (show _ < 20; omega)) (a6) ?_
    refine ab_if_eq X 109 d_MA_run_101 rfl (fun hb => absurd hb ((by decide))) (fun _ => ?_)
    refine ab_aload_n X 0 d_MA_run_104 rfl rfl ?_
    refine ab_gI X fl_MA_25 d_MA_run_105 (by first | assumption | decide | (show _ < 124; omega) | (show _ < 61; omega) | (show _ < 20; omega)) (a4) ?_
    exact ab_reti X hr0 hlk d_MA_run_108 ⟨⟨P1, by rw [hR]; exact a5⟩, by rw [hR]⟩
  have last : ∀ (st sd : List Nat) (k : Nat) (u1 : ab_S), cP [7, 15, 16] u u1 → cM u1 st sd → st.length ≤ 140 → sd.length ≤ 100 → u1.1 7 0 5 = nI k → u1.1 7 0 6 = 0 → (rn hh aa ws.length (ws.length + 1) ws xs [] 0) = (if st = [1] ∧ sd = [] then -1 else nI ws.length, k) → ab_J p l e (ab_rm 4 0 0) s m args below meth c (MQ below (ab_Q D ca ad ab_nQ s.heap.size (fun u' v => (cP [7, 15, 16] u u' ∧ u'.1 7 0 5 = nI (rn hh aa ws.length (ws.length + 1) ws xs [] 0).2) ∧ v = some (ab_I (rn hh aa ws.length (ws.length + 1) ws xs [] 0).1))) args s 0 0 (ab_A ad ab_nQ s.heap.size)) D ca (ab_A ad ab_nQ s.heap.size) s.heap 5 0 0 ad ab_nQ u1 97 [(0, ab_O 7 0), (1, ab_O 5 0), (2, ab_O 4 123), (3, ab_O 6 0)] [] := by
    intro st sd k u1 P1 c1 bs bd a5 a6 hR
    have eN1 := P1.ii (by decide) eN
    by_cases q : st = [1] ∧ sd = []
    · rw [if_pos q] at hR
      obtain ⟨q1, q2⟩ := q
      rw [q1, q2] at c1
      refine ab_aload_n X 0 d_MA_run_97 rfl rfl ?_
      refine ab_gI X fl_MA_31 d_MA_run_98 (by first | assumption | decide | (show _ < 124; omega) | (show _ < 61; omega) | (show _ < 20; omega)) (a6) ?_
      refine ab_if_eq X 109 d_MA_run_101 rfl (fun _ => ?_) (fun hb => absurd (rfl) hb)
      refine ab_aload_n X 0 d_MA_run_109 rfl rfl ?_
      refine ab_gI X fl_MA_18 d_MA_run_110 (by first | assumption | decide | (show _ < 124; omega) | (show _ < 61; omega) | (show _ < 20; omega)) (c1.1.1) ?_
      refine ab_iconst (v := 1) X d_MA_run_113 (by decide) ?_
      refine ab_icmp_ne X 138 d_MA_run_114 rfl (fun hb => absurd (rfl) hb) (fun _ => ?_)
      refine ab_aload_n X 0 d_MA_run_117 rfl rfl ?_
      refine ab_gR X fl_MA_9 d_MA_run_118 (by first | assumption | decide | (show _ < 124; omega) | (show _ < 61; omega) | (show _ < 20; omega)) (P1.1.ma0) ?_
      refine ab_iconst (v := 0) X d_MA_run_121 (by decide) ?_
      refine ab_iald X (0) ⟨rfl, rfl⟩ d_MA_run_122 (by first | assumption | decide | (show _ < 124; omega) | (show _ < 61; omega) | (show _ < 20; omega)) (rfl) (show 0 < 168 by decide) (ab_ln_lt _ _) ?_
      refine ab_top c1.1.2.1.1 ?_
      refine ab_iconst (v := 1) X d_MA_run_123 (by decide) ?_
      refine ab_icmp_ne X 138 d_MA_run_124 rfl (fun hb => absurd (rfl) hb) (fun _ => ?_)
      refine ab_aload_n X 0 d_MA_run_127 rfl rfl ?_
      refine ab_gI X fl_MA_22 d_MA_run_128 (by first | assumption | decide | (show _ < 124; omega) | (show _ < 61; omega) | (show _ < 20; omega)) (c1.2.1) ?_
      refine ab_if_ne X 138 d_MA_run_131 rfl (fun hb => absurd (rfl) hb) (fun _ => ?_)
      refine ab_iconst (v := 1) X d_MA_run_134 (by decide) ?_
      refine ab_goto X 139 d_MA_run_135 rfl ?_
      refine ab_istore4 X 0 1 2 3 d_MA_run_139 (by decide) rfl rfl rfl rfl rfl rfl rfl rfl ?_
      refine ab_iload X 0 d_MA_run_141 rfl ?_
      refine ab_if_eq X 150 d_MA_run_143 rfl (fun hb => absurd hb ((by decide))) (fun _ => ?_)
      refine ab_iconst (v := (-1)) X d_MA_run_146 (by decide) ?_
      refine ab_goto X 154 d_MA_run_147 rfl ?_
      exact ab_reti X hr0 hlk d_MA_run_154 ⟨⟨P1, by rw [hR]; exact a5⟩, by rw [hR]⟩
    · rw [if_neg q] at hR
      by_cases q1 : st.length = 1
      · obtain ⟨w, rfl⟩ : ∃ w, st = [w] := List.length_eq_one_iff.mp q1
        have hw : w < 2000 := c1.1.2.1.2
        by_cases q2 : w = 1
        · have q3 : sd ≠ [] := fun z => q ⟨by rw [q2], z⟩
          have q4 : sd.length ≠ 0 := fun z => q3 (List.length_eq_zero_iff.mp z)
          refine ab_aload_n X 0 d_MA_run_97 rfl rfl ?_
          refine ab_gI X fl_MA_31 d_MA_run_98 (by first | assumption | decide | (show _ < 124; omega) | (show _ < 61; omega) | (show _ < 20; omega)) (a6) ?_
          refine ab_if_eq X 109 d_MA_run_101 rfl (fun _ => ?_) (fun hb => absurd (rfl) hb)
          refine ab_aload_n X 0 d_MA_run_109 rfl rfl ?_
          refine ab_gI X fl_MA_18 d_MA_run_110 (by first | assumption | decide | (show _ < 124; omega) | (show _ < 61; omega) | (show _ < 20; omega)) (c1.1.1) ?_
          refine ab_iconst (v := 1) X d_MA_run_113 (by decide) ?_
          refine ab_icmp_ne X 138 d_MA_run_114 rfl (fun hb => absurd (rfl) hb) (fun _ => ?_)
          refine ab_aload_n X 0 d_MA_run_117 rfl rfl ?_
          refine ab_gR X fl_MA_9 d_MA_run_118 (by first | assumption | decide | (show _ < 124; omega) | (show _ < 61; omega) | (show _ < 20; omega)) (P1.1.ma0) ?_
          refine ab_iconst (v := 0) X d_MA_run_121 (by decide) ?_
          refine ab_iald X (0) ⟨rfl, rfl⟩ d_MA_run_122 (by first | assumption | decide | (show _ < 124; omega) | (show _ < 61; omega) | (show _ < 20; omega)) (rfl) (show 0 < 168 by decide) (ab_ln_lt _ _) ?_
          refine ab_top c1.1.2.1.1 ?_
          refine ab_iconst (v := 1) X d_MA_run_123 (by decide) ?_
          refine ab_icmp_ne X 138 d_MA_run_124 rfl (fun hb => absurd ((congrArg nI q2)) hb) (fun _ => ?_)
          refine ab_aload_n X 0 d_MA_run_127 rfl rfl ?_
          refine ab_gI X fl_MA_22 d_MA_run_128 (by first | assumption | decide | (show _ < 124; omega) | (show _ < 61; omega) | (show _ < 20; omega)) (c1.2.1) ?_
          refine ab_if_ne X 138 d_MA_run_131 rfl (fun _ => ?_) (fun hb => absurd hb ((nI_n0 (by omega) q4)))
          refine ab_iconst (v := 0) X d_MA_run_138 (by decide) ?_
          refine ab_istore4 X 0 1 2 3 d_MA_run_139 (by decide) rfl rfl rfl rfl rfl rfl rfl rfl ?_
          refine ab_iload X 0 d_MA_run_141 rfl ?_
          refine ab_if_eq X 150 d_MA_run_143 rfl (fun _ => ?_) (fun hb => absurd ((by decide)) hb)
          refine ab_aload_n X 2 d_MA_run_150 rfl rfl ?_
          refine ab_gI X fl_MA_39 d_MA_run_151 (by first | assumption | decide | (show _ < 124; omega) | (show _ < 61; omega) | (show _ < 20; omega)) (eN1) ?_
          exact ab_reti X hr0 hlk d_MA_run_154 ⟨⟨P1, by rw [hR]; exact a5⟩, by rw [hR]⟩
        ·
          refine ab_aload_n X 0 d_MA_run_97 rfl rfl ?_
          refine ab_gI X fl_MA_31 d_MA_run_98 (by first | assumption | decide | (show _ < 124; omega) | (show _ < 61; omega) | (show _ < 20; omega)) (a6) ?_
          refine ab_if_eq X 109 d_MA_run_101 rfl (fun _ => ?_) (fun hb => absurd (rfl) hb)
          refine ab_aload_n X 0 d_MA_run_109 rfl rfl ?_
          refine ab_gI X fl_MA_18 d_MA_run_110 (by first | assumption | decide | (show _ < 124; omega) | (show _ < 61; omega) | (show _ < 20; omega)) (c1.1.1) ?_
          refine ab_iconst (v := 1) X d_MA_run_113 (by decide) ?_
          refine ab_icmp_ne X 138 d_MA_run_114 rfl (fun hb => absurd (rfl) hb) (fun _ => ?_)
          refine ab_aload_n X 0 d_MA_run_117 rfl rfl ?_
          refine ab_gR X fl_MA_9 d_MA_run_118 (by first | assumption | decide | (show _ < 124; omega) | (show _ < 61; omega) | (show _ < 20; omega)) (P1.1.ma0) ?_
          refine ab_iconst (v := 0) X d_MA_run_121 (by decide) ?_
          refine ab_iald X (0) ⟨rfl, rfl⟩ d_MA_run_122 (by first | assumption | decide | (show _ < 124; omega) | (show _ < 61; omega) | (show _ < 20; omega)) (rfl) (show 0 < 168 by decide) (ab_ln_lt _ _) ?_
          refine ab_top c1.1.2.1.1 ?_
          refine ab_iconst (v := 1) X d_MA_run_123 (by decide) ?_
          refine ab_icmp_ne X 138 d_MA_run_124 rfl (fun _ => ?_) (fun hb => absurd hb ((nI_ne (a := w) (b := 1) (by omega) (by decide) q2)))
          refine ab_iconst (v := 0) X d_MA_run_138 (by decide) ?_
          refine ab_istore4 X 0 1 2 3 d_MA_run_139 (by decide) rfl rfl rfl rfl rfl rfl rfl rfl ?_
          refine ab_iload X 0 d_MA_run_141 rfl ?_
          refine ab_if_eq X 150 d_MA_run_143 rfl (fun _ => ?_) (fun hb => absurd ((by decide)) hb)
          refine ab_aload_n X 2 d_MA_run_150 rfl rfl ?_
          refine ab_gI X fl_MA_39 d_MA_run_151 (by first | assumption | decide | (show _ < 124; omega) | (show _ < 61; omega) | (show _ < 20; omega)) (eN1) ?_
          exact ab_reti X hr0 hlk d_MA_run_154 ⟨⟨P1, by rw [hR]; exact a5⟩, by rw [hR]⟩
      ·
        refine ab_aload_n X 0 d_MA_run_97 rfl rfl ?_
        refine ab_gI X fl_MA_31 d_MA_run_98 (by first | assumption | decide | (show _ < 124; omega) | (show _ < 61; omega) | (show _ < 20; omega)) (a6) ?_
        refine ab_if_eq X 109 d_MA_run_101 rfl (fun _ => ?_) (fun hb => absurd (rfl) hb)
        refine ab_aload_n X 0 d_MA_run_109 rfl rfl ?_
        refine ab_gI X fl_MA_18 d_MA_run_110 (by first | assumption | decide | (show _ < 124; omega) | (show _ < 61; omega) | (show _ < 20; omega)) (c1.1.1) ?_
        refine ab_iconst (v := 1) X d_MA_run_113 (by decide) ?_
        refine ab_icmp_ne X 138 d_MA_run_114 rfl (fun _ => ?_) (fun hb => absurd hb ((nI_ne (b := 1) (by omega) (by decide) q1)))
        refine ab_iconst (v := 0) X d_MA_run_138 (by decide) ?_
        refine ab_istore4 X 0 1 2 3 d_MA_run_139 (by decide) rfl rfl rfl rfl rfl rfl rfl rfl ?_
        refine ab_iload X 0 d_MA_run_141 rfl ?_
        refine ab_if_eq X 150 d_MA_run_143 rfl (fun _ => ?_) (fun hb => absurd ((by decide)) hb)
        refine ab_aload_n X 2 d_MA_run_150 rfl rfl ?_
        refine ab_gI X fl_MA_39 d_MA_run_151 (by first | assumption | decide | (show _ < 124; omega) | (show _ < 61; omega) | (show _ < 20; omega)) (eN1) ?_
        exact ab_reti X hr0 hlk d_MA_run_154 ⟨⟨P1, by rw [hR]; exact a5⟩, by rw [hR]⟩
  have loop : ∀ (n : Nat) (r st sd : List Nat) (k b : Nat) (u1 : ab_S), r = ws.drop b → b + r.length = ws.length → r.length < n → cP [7, 15, 16] u u1 → cM u1 st sd → st.length + r.length ≤ 140 → sd.length + r.length ≤ 100 → u1.1 7 0 4 = nI b → u1.1 7 0 5 = nI k → k ≤ b → u1.1 7 0 6 = 0 → okm hh aa n r st sd → (rn hh aa ws.length (ws.length + 1) ws xs [] 0) = rn hh aa ws.length n r st sd k → ab_J p l e (ab_rm 4 0 0) s m args below meth c (MQ below (ab_Q D ca ad ab_nQ s.heap.size (fun u' v => (cP [7, 15, 16] u u' ∧ u'.1 7 0 5 = nI (rn hh aa ws.length (ws.length + 1) ws xs [] 0).2) ∧ v = some (ab_I (rn hh aa ws.length (ws.length + 1) ws xs [] 0).1))) args s 0 0 (ab_A ad ab_nQ s.heap.size)) D ca (ab_A ad ab_nQ s.heap.size) s.heap 5 0 0 ad ab_nQ u1 5 [(0, ab_O 7 0), (1, ab_O 5 0), (2, ab_O 4 123), (3, ab_O 6 0)] [] := by
    intro n
    induction n with
    | zero => intro r st sd k b u1 _ _ z; exact absurd z (Nat.not_lt_zero _)
    | succ n ih =>
      intro r st sd k b u1 er eb hn P1 c1 bs bd a4 a5 hk a6 okr hR
      have eN1 := P1.ii (by decide) eN
      cases r with
      | nil =>
        have eb : b + 0 = ws.length := eb
        refine ab_aload_n X 0 d_MA_run_5 rfl rfl ?_
        refine ab_gI X fl_MA_31 d_MA_run_6 (by first | assumption | decide | (show _ < 124; omega) | (show _ < 61; omega) | (show _ < 20; omega)) (a6) ?_
        refine ab_if_ne X 97 d_MA_run_9 rfl (fun hb => absurd (rfl) hb) (fun _ => ?_)
        refine ab_aload_n X 0 d_MA_run_12 rfl rfl ?_
        refine ab_gI X fl_MA_25 d_MA_run_13 (by first | assumption | decide | (show _ < 124; omega) | (show _ < 61; omega) | (show _ < 20; omega)) (a4) ?_
        refine ab_aload_n X 1 d_MA_run_16 rfl rfl ?_
        refine ab_gI X fl_MA_39 d_MA_run_17 (by first | assumption | decide | (show _ < 124; omega) | (show _ < 61; omega) | (show _ < 20; omega)) (eN1) ?_
        refine ab_icmp_ge X 97 d_MA_run_20 rfl (fun _ => ?_) (fun hb => absurd ((nI_le (by omega) (by omega))) hb)
        exact last st sd k _ P1 c1 (by omega) (by omega) a5 a6 hR
      | cons x r =>
        have eb : b + (r.length + 1) = ws.length := eb
        have hn : r.length + 1 < n + 1 := hn
        have bs : st.length + (r.length + 1) ≤ 140 := bs
        have bd : sd.length + (r.length + 1) ≤ 100 := bd
        have hb : b < ws.length := by omega
        have ed := er.trans (drop_c hb)
        have ex : x = ws.getD b 0 := (List.cons.inj ed).1
        have er2 : r = ws.drop (b + 1) := (List.cons.inj ed).2
        have hx := wb _ (getD_mem hb)
        rw [← ex] at hx
        have ew1 : u1.1 13 0 b = nI x := by rw [ex]; exact P1.ii (by decide) (ew b hb)
        have Wx : wX u1 b r := ⟨eN1.trans (congrArg nI (by omega)), by omega, fun i hi => by
          have g : r.getD i 0 = ws.getD (b + 1 + i) 0 := by rw [er2, List.getD_eq_getElem?_getD, List.getElem?_drop, ← List.getD_eq_getElem?_getD]
          rw [g]
          exact ⟨P1.ii (by decide) (ew _ (by omega)), by have := wb _ (getD_mem (show b + 1 + i < ws.length by omega)); omega⟩⟩
        have K73 : ∀ u2, cP [7, 15, 16] u u2 → u2.1 7 0 5 = nI (k + 1) → ((stp hh aa x r st sd = none ∧ u2.1 7 0 6 = 1 ∧ u2.1 7 0 4 = nI b) ∨ ∃ r' st' sd', stp hh aa x r st sd = some (r', st', sd') ∧ u2.1 7 0 6 = 0 ∧ cM u2 st' sd' ∧ u2.1 7 0 4 = nI (b + (r.length - r'.length))) → ab_J p l e (ab_rm 4 0 0) s m args below meth c (MQ below (ab_Q D ca ad ab_nQ s.heap.size (fun u' v => (cP [7, 15, 16] u u' ∧ u'.1 7 0 5 = nI (rn hh aa ws.length (ws.length + 1) ws xs [] 0).2) ∧ v = some (ab_I (rn hh aa ws.length (ws.length + 1) ws xs [] 0).1))) args s 0 0 (ab_A ad ab_nQ s.heap.size)) D ca (ab_A ad ab_nQ s.heap.size) s.heap 5 0 0 ad ab_nQ u2 73 [(0, ab_O 7 0), (1, ab_O 5 0), (2, ab_O 4 123), (3, ab_O 6 0)] [] := by
          intro u2 P2 b5 hs
          rcases hs with ⟨e, b6, b4⟩ | ⟨r', st', sd', e, b6, c2, b4⟩
          · rw [rn_no e] at hR
            refine ab_aload_n X 0 d_MA_run_73 rfl rfl ?_
            refine ab_dup X d_MA_run_74 rfl ?_
            refine ab_gI X fl_MA_25 d_MA_run_75 (by first | assumption | decide | (show _ < 124; omega) | (show _ < 61; omega) | (show _ < 20; omega)) (b4) ?_
            refine ab_aload_n X 0 d_MA_run_78 rfl rfl ?_
            refine ab_gI X fl_MA_31 d_MA_run_79 (by first | assumption | decide | (show _ < 124; omega) | (show _ < 61; omega) | (show _ < 20; omega)) (b6) ?_
            refine ab_if_eq X 89 d_MA_run_82 rfl (fun hb => absurd hb ((by decide))) (fun _ => ?_)
            refine ab_iconst (v := 0) X d_MA_run_85 (by decide) ?_
            refine ab_goto X 90 d_MA_run_86 rfl ?_
            refine ab_iadd X d_MA_run_90 ?_
            refine ab_top (Int32.add_zero _) ?_
            refine ab_putI X fp_MA_25 d_MA_run_91 (by first | assumption | decide | (show _ < 124; omega) | (show _ < 61; omega) | (show _ < 20; omega)) rfl rfl ?_
            refine ab_gen (fun u91 e91 => ?_)
            have P91 : cP [7, 15, 16] u u91 := by rw [e91]; exact P2.m4 (by decide) (by omega)
            refine ab_goto X 5 d_MA_run_94 rfl ?_
            exact stop _ b (k + 1) P91 (by rw [e91]; exact ui_s _) (by rw [e91]; exact (ui_n _ (by omega)).trans b5) (by rw [e91]; exact (ui_n _ (by omega)).trans b6) (by rw [hR, show ws.length - (r.length + 1) = b by omega])
          · rw [rn_yes e] at hR
            obtain ⟨⟨m', em⟩, l1, l2, -⟩ := stp_len e
            have lr : r'.length = r.length - m' := by rw [em, List.length_drop]
            have okr' : okm hh aa n r' st' sd' := okr.2 r' st' sd' e
            have er' : r' = ws.drop (b + 1 + (r.length - r'.length)) := by
              by_cases z : m' ≤ r.length
              · rw [show b + 1 + (r.length - r'.length) = b + 1 + m' by omega, ← List.drop_drop, ← er2]; exact em
              · have l0 : r'.length = 0 := by omega
                rw [List.length_eq_zero_iff.mp l0, List.drop_eq_nil_of_le (by simp only [List.length_nil]; omega)]
            refine ab_aload_n X 0 d_MA_run_73 rfl rfl ?_
            refine ab_dup X d_MA_run_74 rfl ?_
            refine ab_gI X fl_MA_25 d_MA_run_75 (by first | assumption | decide | (show _ < 124; omega) | (show _ < 61; omega) | (show _ < 20; omega)) (b4) ?_
            refine ab_aload_n X 0 d_MA_run_78 rfl rfl ?_
            refine ab_gI X fl_MA_31 d_MA_run_79 (by first | assumption | decide | (show _ < 124; omega) | (show _ < 61; omega) | (show _ < 20; omega)) (b6) ?_
            refine ab_if_eq X 89 d_MA_run_82 rfl (fun _ => ?_) (fun hb => absurd (rfl) hb)
            refine ab_iconst (v := 1) X d_MA_run_89 (by decide) ?_
            refine ab_iadd X d_MA_run_90 ?_
            refine ab_top (nI_1 _) ?_
            refine ab_putI X fp_MA_25 d_MA_run_91 (by first | assumption | decide | (show _ < 124; omega) | (show _ < 61; omega) | (show _ < 20; omega)) rfl rfl ?_
            refine ab_gen (fun u91 e91 => ?_)
            have P91 : cP [7, 15, 16] u u91 := by rw [e91]; exact P2.m4 (by decide) (by omega)
            refine ab_goto X 5 d_MA_run_94 rfl ?_
            exact ih r' st' sd' (k + 1) (b + 1 + (r.length - r'.length)) _ er' (by omega) (by omega) P91 (by rw [e91]; exact c2.ui (by decide)) (by omega) (by omega) (by rw [e91]; exact (ui_s _).trans (congrArg nI (by omega))) (by rw [e91]; exact (ui_n _ (by omega)).trans b5) (by omega) (by rw [e91]; exact (ui_n _ (by omega)).trans b6) okr' hR
        refine ab_aload_n X 0 d_MA_run_5 rfl rfl ?_
        refine ab_gI X fl_MA_31 d_MA_run_6 (by first | assumption | decide | (show _ < 124; omega) | (show _ < 61; omega) | (show _ < 20; omega)) (a6) ?_
        refine ab_if_ne X 97 d_MA_run_9 rfl (fun hb => absurd (rfl) hb) (fun _ => ?_)
        refine ab_aload_n X 0 d_MA_run_12 rfl rfl ?_
        refine ab_gI X fl_MA_25 d_MA_run_13 (by first | assumption | decide | (show _ < 124; omega) | (show _ < 61; omega) | (show _ < 20; omega)) (a4) ?_
        refine ab_aload_n X 1 d_MA_run_16 rfl rfl ?_
        refine ab_gI X fl_MA_39 d_MA_run_17 (by first | assumption | decide | (show _ < 124; omega) | (show _ < 61; omega) | (show _ < 20; omega)) (eN1) ?_
        refine ab_icmp_ge X 97 d_MA_run_20 rfl (fun hb => absurd hb ((nI_ge (by omega) (by omega)))) (fun _ => ?_)
        refine ab_aload_n X 0 d_MA_run_23 rfl rfl ?_
        refine ab_gI X fl_MA_28 d_MA_run_24 (by first | assumption | decide | (show _ < 124; omega) | (show _ < 61; omega) | (show _ < 20; omega)) (a5) ?_
        refine ab_aload_n X 1 d_MA_run_27 rfl rfl ?_
        refine ab_gI X fl_MA_39 d_MA_run_28 (by first | assumption | decide | (show _ < 124; omega) | (show _ < 61; omega) | (show _ < 20; omega)) (eN1) ?_
        refine ab_icmp_ge X 97 d_MA_run_31 rfl (fun hb => absurd hb ((nI_ge (by omega) (by omega)))) (fun _ => ?_)
        refine ab_aload_n X 1 d_MA_run_34 rfl rfl ?_
        refine ab_gR X fl_MA_44 d_MA_run_35 (by first | assumption | decide | (show _ < 124; omega) | (show _ < 61; omega) | (show _ < 20; omega)) (P1.1.sc0) ?_
        refine ab_aload_n X 0 d_MA_run_38 rfl rfl ?_
        refine ab_gI X fl_MA_25 d_MA_run_39 (by first | assumption | decide | (show _ < 124; omega) | (show _ < 61; omega) | (show _ < 20; omega)) (a4) ?_
        refine ab_iald X (b) ⟨rfl, rfl⟩ d_MA_run_42 (by first | assumption | decide | (show _ < 124; omega) | (show _ < 61; omega) | (show _ < 20; omega)) (rfl) (show b < 128 by omega) (ab_ln_lt _ _) ?_
        refine ab_top ew1 ?_
        refine ab_istore4 X 0 1 2 3 d_MA_run_43 (by decide) rfl rfl rfl rfl rfl rfl rfl rfl ?_
        refine ab_aload_n X 1 d_MA_run_45 rfl rfl ?_
        refine ab_dup X d_MA_run_46 rfl ?_
        refine ab_gI X fl_MA_28 d_MA_run_47 (by first | assumption | decide | (show _ < 124; omega) | (show _ < 61; omega) | (show _ < 20; omega)) (a5) ?_
        refine ab_iconst (v := 1) X d_MA_run_50 (by decide) ?_
        refine ab_iadd X d_MA_run_51 ?_
        refine ab_top (nI_1 _) ?_
        refine ab_putI X fp_MA_28 d_MA_run_52 (by first | assumption | decide | (show _ < 124; omega) | (show _ < 61; omega) | (show _ < 20; omega)) rfl rfl ?_
        refine ab_gen (fun u52 e52 => ?_)
        have P52 : cP [7, 15, 16] u u52 := by rw [e52]; exact P1.ui rfl (by decide)
        refine ab_aload_n X 1 d_MA_run_55 rfl rfl ?_
        refine ab_iload X 0 d_MA_run_56 rfl ?_
        refine ab_sipush (v := 1000) X d_MA_run_58 (by decide) ?_
        refine ab_idiv X d_MA_run_61 (by decide) ?_
        refine ab_top (div_nI (by omega)) ?_
        refine ab_iload X 0 d_MA_run_62 rfl ?_
        refine ab_sipush (v := 1000) X d_MA_run_64 (by decide) ?_
        refine ab_irem X d_MA_run_67 (by decide) ?_
        refine ab_top (rem_nI (by omega)) ?_
        refine ab_aload_n X 2 d_MA_run_68 rfl rfl ?_
        refine ab_aload_n X 4 d_MA_run_69 rfl rfl ?_
        refine ab_callV (as := [ab_I (nI (x / 1000)), ab_I (nI (x % 1000)), ab_O 5 0, ab_O 6 0]) X (fun h => by cases h) (x_MA_step u52 st sd P52.1 (by rw [e52]; exact c1.ui (by decide)) hh aa x b r (by omega) (by omega) (by rw [e52]; exact (ui_n _ (by omega)).trans a4) (by rw [e52]; exact (ui_n _ (by omega)).trans a6) (by rw [e52]; exact ⟨(ui_n _ (by omega)).trans Wx.1, Wx.2.1, fun i hi => ⟨(ui_n _ (by omega)).trans (Wx.2.2 i hi).1, (Wx.2.2 i hi).2⟩⟩) okr.1 (P52.ii (by decide) f0) (P52.ii (by decide) f1) (P52.ii (by decide) f2) (P52.ii (by decide) f3) hx) lk_MA_47 d_MA_run_70 rfl rfl (by first | assumption | decide | (show _ < 124; omega) | (show _ < 61; omega) | (show _ < 20; omega)) ⟨by first | exact Nat.le_of_ble_eq_true rfl | (simp only [ab_rm]; omega), by first | exact Nat.le_of_ble_eq_true rfl | (simp only [ab_rm]; omega)⟩ ⟨by first | exact Nat.le_of_ble_eq_true rfl | (simp only [ab_rm]; omega), by first | exact Nat.le_of_ble_eq_true rfl | (simp only [ab_rm]; omega)⟩ (Nat.le_of_ble_eq_true rfl) (fun u70 r70 h70 => ?_)
        obtain ⟨s70, rfl⟩ := h70
        have q70 := s70.1.c
        have P70 := P52.trans q70 (by decide)
        refine ab_lv (List.forall_mem_cons.mpr ⟨List.mem_of_getElem? (i := 1) rfl, List.forall_mem_cons.mpr ⟨List.mem_of_getElem? (i := 2) rfl, List.forall_mem_cons.mpr ⟨List.mem_of_getElem? (i := 3) rfl, List.forall_mem_cons.mpr ⟨List.mem_of_getElem? (i := 4) rfl, fun _ h => absurd h List.not_mem_nil⟩⟩⟩⟩) ?_
        exact K73 _ P70 (s70.1.2.2.1.trans (by rw [e52]; exact ui_s _)) s70.2
  refine ab_aload_n X 0 d_MA_run_0 rfl rfl ?_
  refine ab_aload_n X 2 d_MA_run_1 rfl rfl ?_
  refine ab_callV (as := [ab_O 4 123]) X (fun h => by cases h) (x_MA_load u xs x40 xb ec ei h) lk_MA_35 d_MA_run_2 rfl rfl (by first | assumption | decide | (show _ < 124; omega) | (show _ < 61; omega) | (show _ < 20; omega)) ⟨by first | exact Nat.le_of_ble_eq_true rfl | (simp only [ab_rm]; omega), by first | exact Nat.le_of_ble_eq_true rfl | (simp only [ab_rm]; omega)⟩ ⟨by first | exact Nat.le_of_ble_eq_true rfl | (simp only [ab_rm]; omega), by first | exact Nat.le_of_ble_eq_true rfl | (simp only [ab_rm]; omega)⟩ (Nat.le_of_ble_eq_true rfl) (fun u2 r2 h2 => ?_)
  obtain ⟨⟨q2, c2, a4, a5, a6⟩, rfl⟩ := h2
  have P2 := P0.trans q2 (by decide)
  exact loop (ws.length + 1) ws xs [] 0 0 _ rfl (Nat.zero_add _) (Nat.lt_succ_self _) P2 c2 (by omega) (by show 0 + ws.length ≤ 100; omega) a4 a5 (Nat.le_refl _) a6 (ok _ _ _) rfl
set_option maxRecDepth 100000 in
set_option maxHeartbeats 1000000 in
theorem x_PF_checkF (hfl : ab_fl0 l) (u : ab_S) (hh aa : Int32) (xs : List Nat) (x40 : xs.length ≤ 40) (xb : ∀ x, x ∈ xs → x < 1020) (ec : u.1 4 123 1 = nI xs.length) (ei : ∀ k, k < xs.length → u.1 8 123 k = nI (xs.getD k 0)) (ws : List Nat) (wl : ws.length ≤ 100) (wb : ∀ x, x ∈ ws → 1000 ≤ x ∧ x < 18000) (eN : u.1 5 0 2 = nI ws.length) (ew : ∀ i, i < ws.length → u.1 13 0 i = nI (ws.getD i 0)) (ok : ∀ n st sd, okm hh aa n ws st sd) (hp : u.2.1 0 0 7 = none ∨ u.2.1 0 0 7 = some (2, 1)) (h : CI u) : ab_CT l D ca y_PF_check b_PF_check 3 (some FieldType.int) 8 ab_nQ u [ab_O 0 0, ab_I hh, ab_I aa] (fun u' v => (cP [6, 7, 15, 16] u u' ∧ u.2.1 0 0 7 = some (2, 1) ∧ u'.1 7 0 5 = nI (rn hh aa ws.length (ws.length + 1) ws xs [] 0).2) ∧ v = some (ab_I (rn hh aa ws.length (ws.length + 1) ws xs [] 0).1)) (fun u' E => (u' = u ∧ u.2.1 0 0 7 = none) ∧ E = ab_NSE) := by
  refine ab_CT.of (by decide) (Nat.le_of_ble_eq_true rfl) ?_
  intro p e s m args below meth c ad X hZ hW0 hnh hr0 hlk
  have P0 : cP [6, 7, 15, 16] u u := cQ.rf h
  rcases hp with hn | hs
  ·
    refine ab_aload_n X 0 d_PF_check_0 rfl rfl ?_
    refine ab_gR X fl_PF_58 d_PF_check_1 (by first | assumption | decide | (show _ < 124; omega) | (show _ < 61; omega) | (show _ < 20; omega)) (hn) ?_
    refine ab_ifnonnull X 15 d_PF_check_4 rfl (fun hb => absurd (rfl) hb) (fun _ => ?_)
    exact ab_throw (cells := 0) (slots := 0) X hfl hZ hW0 hnh hlk ow_PF_107 d_PF_check_7 d_PF_check_10 d_PF_check_11 d_PF_check_14 ⟨Nat.le_of_ble_eq_true rfl, Nat.le_of_ble_eq_true rfl⟩ ⟨Nat.le_of_ble_eq_true rfl, Nat.le_of_ble_eq_true rfl⟩ ⟨⟨rfl, hn⟩, rfl⟩
  ·
    refine ab_aload_n X 0 d_PF_check_0 rfl rfl ?_
    refine ab_gR X fl_PF_58 d_PF_check_1 (by first | assumption | decide | (show _ < 124; omega) | (show _ < 61; omega) | (show _ < 20; omega)) (hs) ?_
    refine ab_ifnonnull X 15 d_PF_check_4 rfl (fun _ => ?_) (fun hb => absurd hb ((by intro z; cases z)))
    refine ab_aload_n X 0 d_PF_check_15 rfl rfl ?_
    refine ab_gR X fl_PF_44 d_PF_check_16 (by first | assumption | decide | (show _ < 124; omega) | (show _ < 61; omega) | (show _ < 20; omega)) (P0.1.pf4) ?_
    refine ab_iconst (v := 0) X d_PF_check_19 (by decide) ?_
    refine ab_iconst (v := 0) X d_PF_check_20 (by decide) ?_
    refine ab_iload_n X 1 d_PF_check_21 rfl rfl ?_
    refine ab_iload_n X 2 d_PF_check_22 rfl rfl ?_
    refine ab_callV (as := [ab_I 0, ab_I 0, ab_I hh, ab_I aa]) X (fun h => by cases h) (f_FA_set u 0 0 hh aa h) lk_PF_110 d_PF_check_23 rfl rfl (by first | assumption | decide | (show _ < 124; omega) | (show _ < 61; omega) | (show _ < 20; omega)) ⟨by first | exact Nat.le_of_ble_eq_true rfl | (simp only [ab_rm]; omega), by first | exact Nat.le_of_ble_eq_true rfl | (simp only [ab_rm]; omega)⟩ ⟨by first | exact Nat.le_of_ble_eq_true rfl | (simp only [ab_rm]; omega), by first | exact Nat.le_of_ble_eq_true rfl | (simp only [ab_rm]; omega)⟩ (Nat.le_of_ble_eq_true rfl) (fun u23 r23 h23 => ?_)
    obtain ⟨q23, ⟨g0, g1, g2, g3⟩, rfl⟩ := h23
    have P23 := P0.trans q23 (by decide)
    refine ab_aload_n X 0 d_PF_check_26 rfl rfl ?_
    refine ab_gR X fl_PF_54 d_PF_check_27 (by first | assumption | decide | (show _ < 124; omega) | (show _ < 61; omega) | (show _ < 20; omega)) (P23.1.pf6) ?_
    refine ab_aload_n X 0 d_PF_check_30 rfl rfl ?_
    refine ab_gR X fl_PF_37 d_PF_check_31 (by first | assumption | decide | (show _ < 124; omega) | (show _ < 61; omega) | (show _ < 20; omega)) (P23.1.pf3) ?_
    refine ab_aload_n X 0 d_PF_check_34 rfl rfl ?_
    refine ab_gR X fl_PF_48 d_PF_check_35 (by first | assumption | decide | (show _ < 124; omega) | (show _ < 61; omega) | (show _ < 20; omega)) (P23.1.pf5) ?_
    refine ab_aload_n X 0 d_PF_check_38 rfl rfl ?_
    refine ab_gR X fl_PF_44 d_PF_check_39 (by first | assumption | decide | (show _ < 124; omega) | (show _ < 61; omega) | (show _ < 20; omega)) (P23.1.pf4) ?_
    refine ab_callV (as := [ab_O 5 0, ab_O 4 123, ab_O 6 0]) X (fun h => by cases h) (x_MA_run u23 hh aa xs x40 xb (P23.ii (by decide) ec) (fun k hk => P23.ii (by decide) (ei k hk)) ws wl wb (P23.ii (by decide) eN) (fun i hi => P23.ii (by decide) (ew i hi)) g0 g1 g2 g3 ok P23.1) lk_PF_179 d_PF_check_42 rfl rfl (by first | assumption | decide | (show _ < 124; omega) | (show _ < 61; omega) | (show _ < 20; omega)) ⟨by first | exact Nat.le_of_ble_eq_true rfl | (simp only [ab_rm]; omega), by first | exact Nat.le_of_ble_eq_true rfl | (simp only [ab_rm]; omega)⟩ ⟨by first | exact Nat.le_of_ble_eq_true rfl | (simp only [ab_rm]; omega), by first | exact Nat.le_of_ble_eq_true rfl | (simp only [ab_rm]; omega)⟩ (Nat.le_of_ble_eq_true rfl) (fun u42 r42 h42 => ?_)
    obtain ⟨⟨q42, k42⟩, rfl⟩ := h42
    have P42 := P23.trans q42 (by decide)
    exact ab_retTi X hr0 hlk d_PF_check_45 ⟨⟨P42, hs, k42⟩, rfl⟩
end SaXRun

