/-! The reference's machine on a whole script. -/
/-- how many words lay something aside -/
def cq : List Nat → Nat
  | [] => 0
  | x :: r => (if x / 1000 = 10 then 1 else 0) + cq r
theorem cq_drop : ∀ (n : Nat) (r : List Nat), cq (r.drop n) ≤ cq r := by
  intro n
  induction n with
  | zero => intro r; exact Nat.le_refl _
  | succ n ih =>
    intro r
    cases r with
    | nil => exact Nat.le_refl _
    | cons x r => exact Nat.le_trans (ih r) (Nat.le_add_left _ _)
theorem cq_cas : ∀ (L : List Nat), (∀ x, x ∈ L → x < 20000) → cq L = cas (opL L) := by
  intro L
  induction L with
  | nil => intro _; rfl
  | cons x L ih =>
    intro h
    have hx := h x List.mem_cons_self
    show (if x / 1000 = 10 then 1 else 0) + cq L = (if nI (x / 1000) = 10 then 1 else 0) + cas (opL L)
    rw [ih (fun y hy => h y (List.mem_cons_of_mem _ hy))]
    by_cases z : x / 1000 = 10
    · rw [if_pos z, if_pos (show nI (x / 1000) = 10 from congrArg nI z)]
    · rw [if_neg z, if_neg (show ¬ nI (x / 1000) = 10 from nI_ne (b := 10) (by omega) (by decide) z)]
theorem Wd_all {M : Nat} {kd ar cn lf : Nat → Nat} {ch : Nat → Nat → Nat} {Y : Nat → Nat → Nat × Nat × Nat} {R : Nat → List Nat} (W : tW M kd ar cn lf ch) (F : ∀ q, q < M → xF kd ar cn ch Y R q) : (Wd kd ar cn ch Y 0 0).length ≤ 86 ∧ (∀ x, x ∈ Wd kd ar cn ch Y 0 0 → 1000 ≤ x ∧ x < 18000) ∧ cq (Wd kd ar cn ch Y 0 0) ≤ 9 ∧ ∀ (hh aa : Int32) (n : Nat) (st sd : List Nat), okm hh aa n (Wd kd ar cn ch Y 0 0) st sd := by
  have hl := (Wd_len W F _ 0 0 (Nat.le_refl _) W.1 (by decide)).1
  have hB := (xf_b W F (M - 0) 0 (by omega) W.1).1 0 (by decide)
  have l1 := (W.2.2 0 W.1).1
  obtain ⟨o1, o2, o3⟩ := Wd_ok W F _ 0 0 (Nat.le_refl _) W.1 (by decide)
  have b2 : (Y 0 0).2.1 ≤ 9 * lf 0 - 4 + 0 := hB.2.1
  refine ⟨by omega, (Wd_fq (hh := 0) (aa := 0) W F _ 0 0 (Nat.le_refl _) W.1 (by decide)).2.1, ?_, fun hh aa n st sd => Wd_okm W F n st sd⟩
  rw [cq_cas _ o3]
  omega
section SaXRChk
variable {l : Launch} {D : va_G} {ca : Nat → ClassId}
set_option maxRecDepth 100000 in
set_option maxHeartbeats 8000000 in
theorem z_MO_check (u : ab_S) (hh aa : Int32) (xs : List Nat) (x40 : xs.length ≤ 40) (xb : ∀ x, x ∈ xs → x < 1020) (em : u.1 17 0 32 = nI xs.length) (ej : ∀ k, k < xs.length → u.1 18 17 k = nI (xs.getD k 0)) (ws : List Nat) (wl : ws.length ≤ 86) (wb : ∀ x, x ∈ ws → 1000 ≤ x ∧ x < 18000) (wc : cq ws ≤ 9) (ok : ∀ n st sd, okm hh aa n ws st sd) (h : mR u.2.1) (hs : u.1 17 0 4 = 0 ∨ (u.1 17 0 4 = 1 ∧ u.1 18 6 0 = nI ws.length ∧ ∀ i, i < ws.length → u.1 18 9 i = nI (ws.getD i 0))) : ab_C false l D ca y_MO_check b_MO_check 5 (some FieldType.int) 4 ab_nQ u [ab_O 17 0, ab_I hh, ab_I aa] (fun u' v => gP [0, 33, 35, 37, 40, 118, 119] u u' ∧ ((u.1 17 0 4 = 0 ∧ u'.1 17 0 0 = 1 ∧ u'.1 17 0 33 = u.1 17 0 33 ∧ ∃ y : Int32, v = some (ab_I y)) ∨ (u.1 17 0 4 = 1 ∧ u'.1 17 0 0 = 0 ∧ u'.1 17 0 33 = nI (rn hh aa ws.length (ws.length + 1) ws xs [] 0).2 ∧ v = some (ab_I (rn hh aa ws.length (ws.length + 1) ws xs [] 0).1)))) := by
  refine ab_C.of (by decide) (Nat.le_of_ble_eq_true rfl) ?_
  intro p e s m args below meth c ad X hZ hr0 hlk
  have P0 : gP [0, 33, 35, 37, 40, 118, 119] u u := gP.rf h
  rcases hs with h0 | ⟨h1, en, ew⟩
  ·
    refine ab_aload_n X 0 d_MO_check_0 rfl rfl ?_
    refine ab_aload_n X 0 d_MO_check_1 rfl rfl ?_
    refine ab_gI X fl_MO_23 d_MO_check_2 (by first | assumption | decide | (show _ < 124; omega) | (show _ < 61; omega) | (show _ < 20; omega)) (h0) ?_
    refine ab_if_eq X 12 d_MO_check_5 rfl (fun _ => ?_) (fun hb => absurd (rfl) hb)
    refine ab_iconst (v := 1) X d_MO_check_12 (by decide) ?_
    refine ab_putI X fp_MO_7 d_MO_check_13 (by first | assumption | decide | (show _ < 124; omega) | (show _ < 61; omega) | (show _ < 20; omega)) rfl rfl ?_
    refine ab_gen (fun u13 e13 => ?_)
    have P13 : gP [0, 33, 35, 37, 40, 118, 119] u u13 := by rw [e13]; exact P0.ui rfl (by decide)
    refine ab_aload_n X 0 d_MO_check_16 rfl rfl ?_
    refine ab_gI X fl_MO_23 d_MO_check_17 (by first | assumption | decide | (show _ < 124; omega) | (show _ < 61; omega) | (show _ < 20; omega)) ((show _ = (0 : Int32) by rw [e13]; exact (ui_n _ (by omega)).trans h0)) ?_
    refine ab_if_ne X 25 d_MO_check_20 rfl (fun hb => absurd (rfl) hb) (fun _ => ?_)
    refine ab_iconst (v := 0) X d_MO_check_23 (by decide) ?_
    exact ab_reti X hr0 hlk d_MO_check_24 ⟨P13, Or.inl ⟨h0, by rw [e13]; exact ui_s _, by rw [e13]; exact ui_n _ (by omega), _, rfl⟩⟩
  · have K118 : ∀ (u1 : ab_S) (y : Int32) (k : Nat), gP [0, 33, 35, 37, 40, 118, 119] u u1 → u1.1 17 0 0 = 0 → u1.1 17 0 33 = nI k → u1.1 17 0 40 = 1 → (rn hh aa ws.length (ws.length + 1) ws xs [] 0) = (y, k) → ab_J p l e (ab_rm 4 0 0) s m args below meth c (MQ below (ab_Q D ca ad ab_nQ s.heap.size (fun u' v => gP [0, 33, 35, 37, 40, 118, 119] u u' ∧ ((u.1 17 0 4 = 0 ∧ u'.1 17 0 0 = 1 ∧ u'.1 17 0 33 = u.1 17 0 33 ∧ ∃ y : Int32, v = some (ab_I y)) ∨ (u.1 17 0 4 = 1 ∧ u'.1 17 0 0 = 0 ∧ u'.1 17 0 33 = nI (rn hh aa ws.length (ws.length + 1) ws xs [] 0).2 ∧ v = some (ab_I (rn hh aa ws.length (ws.length + 1) ws xs [] 0).1))))) args s 0 0 (ab_A ad ab_nQ s.heap.size)) D ca (ab_A ad ab_nQ s.heap.size) s.heap 5 0 0 ad ab_nQ u1 118 [(4, ab_I y), (0, ab_O 17 0), (1, ab_I hh), (2, ab_I aa)] [] := by
      intro u1 y k P1 a0 a3 a6 hR
      refine ab_aload_n X 1 d_MO_check_118 rfl rfl ?_
      refine ab_gI X fl_MO_132 d_MO_check_119 (by first | assumption | decide | (show _ < 124; omega) | (show _ < 61; omega) | (show _ < 20; omega)) (a6) ?_
      refine ab_if_eq X 128 d_MO_check_122 rfl (fun hb => absurd hb ((by decide))) (fun _ => ?_)
      refine ab_iload X 0 d_MO_check_125 rfl ?_
      exact ab_reti X hr0 hlk d_MO_check_127 ⟨P1, Or.inr ⟨h1, a0, by rw [hR]; exact a3, by rw [hR]⟩⟩
    have stop : ∀ (u1 : ab_S) (z y : Int32) (k : Nat), gP [0, 33, 35, 37, 40, 118, 119] u u1 → u1.1 17 0 0 = 0 → u1.1 17 0 33 = nI k → u1.1 17 0 40 = 1 → (rn hh aa ws.length (ws.length + 1) ws xs [] 0) = (y, k) → ab_J p l e (ab_rm 4 0 0) s m args below meth c (MQ below (ab_Q D ca ad ab_nQ s.heap.size (fun u' v => gP [0, 33, 35, 37, 40, 118, 119] u u' ∧ ((u.1 17 0 4 = 0 ∧ u'.1 17 0 0 = 1 ∧ u'.1 17 0 33 = u.1 17 0 33 ∧ ∃ y : Int32, v = some (ab_I y)) ∨ (u.1 17 0 4 = 1 ∧ u'.1 17 0 0 = 0 ∧ u'.1 17 0 33 = nI (rn hh aa ws.length (ws.length + 1) ws xs [] 0).2 ∧ v = some (ab_I (rn hh aa ws.length (ws.length + 1) ws xs [] 0).1))))) args s 0 0 (ab_A ad ab_nQ s.heap.size)) D ca (ab_A ad ab_nQ s.heap.size) s.heap 5 0 0 ad ab_nQ u1 77 [(3, ab_I z), (4, ab_I y), (0, ab_O 17 0), (1, ab_I hh), (2, ab_I aa)] [] := by
      intro u1 z y k P1 a0 a3 a6 hR
      refine ab_iload_n X 0 d_MO_check_77 rfl rfl ?_
      refine ab_aload_n X 2 d_MO_check_78 rfl rfl ?_
      refine ab_gR X fl_MO_48 d_MO_check_79 (by first | assumption | decide | (show _ < 124; omega) | (show _ < 61; omega) | (show _ < 20; omega)) (P1.1.mo12) ?_
      refine ab_iconst (v := 0) X d_MO_check_82 (by decide) ?_
      refine ab_iald X (0) ⟨rfl, rfl⟩ d_MO_check_83 (by first | assumption | decide | (show _ < 124; omega) | (show _ < 61; omega) | (show _ < 20; omega)) (rfl) (show 0 < 72 by decide) (ab_ln_lt _ _) ?_
      refine ab_icmp_ge X 118 d_MO_check_84 rfl (fun h84 => ?_) (fun h84 => ?_)
      ·
        refine ab_lv (List.forall_mem_cons.mpr ⟨List.mem_of_getElem? (i := 1) rfl, List.forall_mem_cons.mpr ⟨List.mem_of_getElem? (i := 2) rfl, List.forall_mem_cons.mpr ⟨List.mem_of_getElem? (i := 3) rfl, List.forall_mem_cons.mpr ⟨List.mem_of_getElem? (i := 4) rfl, fun _ h => absurd h List.not_mem_nil⟩⟩⟩⟩) ?_
        exact K118 _ _ k P1 a0 a3 a6 hR
      ·
        refine ab_aload_n X 2 d_MO_check_87 rfl rfl ?_
        refine ab_gI X fl_MO_132 d_MO_check_88 (by first | assumption | decide | (show _ < 124; omega) | (show _ < 61; omega) | (show _ < 20; omega)) (a6) ?_
        refine ab_if_ne X 118 d_MO_check_91 rfl (fun _ => ?_) (fun hb => absurd hb ((by decide)))
        refine ab_lv (List.forall_mem_cons.mpr ⟨List.mem_of_getElem? (i := 1) rfl, List.forall_mem_cons.mpr ⟨List.mem_of_getElem? (i := 2) rfl, List.forall_mem_cons.mpr ⟨List.mem_of_getElem? (i := 3) rfl, List.forall_mem_cons.mpr ⟨List.mem_of_getElem? (i := 4) rfl, fun _ h => absurd h List.not_mem_nil⟩⟩⟩⟩) ?_
        exact K118 _ _ k P1 a0 a3 a6 hR
    have last : ∀ (st sd : List Nat) (k : Nat) (u1 : ab_S) (y : Int32), gP [0, 33, 35, 37, 40, 118, 119] u u1 → rM u1 st sd → st.length ≤ 126 → sd.length ≤ 63 → u1.1 17 0 0 = 0 → u1.1 17 0 33 = nI k → u1.1 17 0 40 = 0 → (rn hh aa ws.length (ws.length + 1) ws xs [] 0) = (if st = [1] ∧ sd = [] then -1 else nI ws.length, k) → ab_J p l e (ab_rm 4 0 0) s m args below meth c (MQ below (ab_Q D ca ad ab_nQ s.heap.size (fun u' v => gP [0, 33, 35, 37, 40, 118, 119] u u' ∧ ((u.1 17 0 4 = 0 ∧ u'.1 17 0 0 = 1 ∧ u'.1 17 0 33 = u.1 17 0 33 ∧ ∃ y : Int32, v = some (ab_I y)) ∨ (u.1 17 0 4 = 1 ∧ u'.1 17 0 0 = 0 ∧ u'.1 17 0 33 = nI (rn hh aa ws.length (ws.length + 1) ws xs [] 0).2 ∧ v = some (ab_I (rn hh aa ws.length (ws.length + 1) ws xs [] 0).1))))) args s 0 0 (ab_A ad ab_nQ s.heap.size)) D ca (ab_A ad ab_nQ s.heap.size) s.heap 5 0 0 ad ab_nQ u1 118 [(4, ab_I y), (0, ab_O 17 0), (1, ab_I hh), (2, ab_I aa)] [] := by
      intro st sd k u1 y P1 c1 bs bd a0 a3 a6 hR
      have en1 := P1.ai (a := 6) (by decide) en
      by_cases q : st = [1] ∧ sd = []
      · rw [if_pos q] at hR
        obtain ⟨q1, q2⟩ := q
        rw [q1, q2] at c1
        refine ab_aload_n X 1 d_MO_check_118 rfl rfl ?_
        refine ab_gI X fl_MO_132 d_MO_check_119 (by first | assumption | decide | (show _ < 124; omega) | (show _ < 61; omega) | (show _ < 20; omega)) (a6) ?_
        refine ab_if_eq X 128 d_MO_check_122 rfl (fun _ => ?_) (fun hb => absurd (rfl) hb)
        refine ab_aload_n X 1 d_MO_check_128 rfl rfl ?_
        refine ab_gI X fl_MO_117 d_MO_check_129 (by first | assumption | decide | (show _ < 124; omega) | (show _ < 61; omega) | (show _ < 20; omega)) (c1.1.1) ?_
        refine ab_iconst (v := 1) X d_MO_check_132 (by decide) ?_
        refine ab_icmp_ne X 157 d_MO_check_133 rfl (fun hb => absurd (rfl) hb) (fun _ => ?_)
        refine ab_aload_n X 1 d_MO_check_136 rfl rfl ?_
        refine ab_gR X fl_MO_114 d_MO_check_137 (by first | assumption | decide | (show _ < 124; omega) | (show _ < 61; omega) | (show _ < 20; omega)) (P1.1.mo34) ?_
        refine ab_iconst (v := 0) X d_MO_check_140 (by decide) ?_
        refine ab_iald X (0) ⟨rfl, rfl⟩ d_MO_check_141 (by first | assumption | decide | (show _ < 124; omega) | (show _ < 61; omega) | (show _ < 20; omega)) (rfl) (show 0 < 128 by decide) (ab_ln_lt _ _) ?_
        refine ab_top c1.1.2.1.1 ?_
        refine ab_iconst (v := 1) X d_MO_check_142 (by decide) ?_
        refine ab_icmp_ne X 157 d_MO_check_143 rfl (fun hb => absurd (rfl) hb) (fun _ => ?_)
        refine ab_aload_n X 1 d_MO_check_146 rfl rfl ?_
        refine ab_gI X fl_MO_123 d_MO_check_147 (by first | assumption | decide | (show _ < 124; omega) | (show _ < 61; omega) | (show _ < 20; omega)) (c1.2.1) ?_
        refine ab_if_ne X 157 d_MO_check_150 rfl (fun hb => absurd (rfl) hb) (fun _ => ?_)
        refine ab_iconst (v := (-1)) X d_MO_check_153 (by decide) ?_
        refine ab_goto X 163 d_MO_check_154 rfl ?_
        exact ab_reti X hr0 hlk d_MO_check_163 ⟨P1, Or.inr ⟨h1, a0, by rw [hR]; exact a3, by rw [hR]⟩⟩
      · rw [if_neg q] at hR
        by_cases q1 : st.length = 1
        · obtain ⟨w, rfl⟩ : ∃ w, st = [w] := List.length_eq_one_iff.mp q1
          have hw : w < 2000 := c1.1.2.1.2
          by_cases q2 : w = 1
          · have q3 : sd ≠ [] := fun z => q ⟨by rw [q2], z⟩
            have q4 : sd.length ≠ 0 := fun z => q3 (List.length_eq_zero_iff.mp z)
            refine ab_aload_n X 1 d_MO_check_118 rfl rfl ?_
            refine ab_gI X fl_MO_132 d_MO_check_119 (by first | assumption | decide | (show _ < 124; omega) | (show _ < 61; omega) | (show _ < 20; omega)) (a6) ?_
            refine ab_if_eq X 128 d_MO_check_122 rfl (fun _ => ?_) (fun hb => absurd (rfl) hb)
            refine ab_aload_n X 1 d_MO_check_128 rfl rfl ?_
            refine ab_gI X fl_MO_117 d_MO_check_129 (by first | assumption | decide | (show _ < 124; omega) | (show _ < 61; omega) | (show _ < 20; omega)) (c1.1.1) ?_
            refine ab_iconst (v := 1) X d_MO_check_132 (by decide) ?_
            refine ab_icmp_ne X 157 d_MO_check_133 rfl (fun hb => absurd (rfl) hb) (fun _ => ?_)
            refine ab_aload_n X 1 d_MO_check_136 rfl rfl ?_
            refine ab_gR X fl_MO_114 d_MO_check_137 (by first | assumption | decide | (show _ < 124; omega) | (show _ < 61; omega) | (show _ < 20; omega)) (P1.1.mo34) ?_
            refine ab_iconst (v := 0) X d_MO_check_140 (by decide) ?_
            refine ab_iald X (0) ⟨rfl, rfl⟩ d_MO_check_141 (by first | assumption | decide | (show _ < 124; omega) | (show _ < 61; omega) | (show _ < 20; omega)) (rfl) (show 0 < 128 by decide) (ab_ln_lt _ _) ?_
            refine ab_top c1.1.2.1.1 ?_
            refine ab_iconst (v := 1) X d_MO_check_142 (by decide) ?_
            refine ab_icmp_ne X 157 d_MO_check_143 rfl (fun hb => absurd ((congrArg nI q2)) hb) (fun _ => ?_)
            refine ab_aload_n X 1 d_MO_check_146 rfl rfl ?_
            refine ab_gI X fl_MO_123 d_MO_check_147 (by first | assumption | decide | (show _ < 124; omega) | (show _ < 61; omega) | (show _ < 20; omega)) (c1.2.1) ?_
            refine ab_if_ne X 157 d_MO_check_150 rfl (fun _ => ?_) (fun hb => absurd hb ((nI_n0 (by omega) q4)))
            refine ab_aload_n X 1 d_MO_check_157 rfl rfl ?_
            refine ab_gR X fl_MO_48 d_MO_check_158 (by first | assumption | decide | (show _ < 124; omega) | (show _ < 61; omega) | (show _ < 20; omega)) (P1.1.mo12) ?_
            refine ab_iconst (v := 0) X d_MO_check_161 (by decide) ?_
            refine ab_iald X (0) ⟨rfl, rfl⟩ d_MO_check_162 (by first | assumption | decide | (show _ < 124; omega) | (show _ < 61; omega) | (show _ < 20; omega)) (rfl) (show 0 < 72 by decide) (ab_ln_lt _ _) ?_
            refine ab_top en1 ?_
            exact ab_reti X hr0 hlk d_MO_check_163 ⟨P1, Or.inr ⟨h1, a0, by rw [hR]; exact a3, by rw [hR]⟩⟩
          ·
            refine ab_aload_n X 1 d_MO_check_118 rfl rfl ?_
            refine ab_gI X fl_MO_132 d_MO_check_119 (by first | assumption | decide | (show _ < 124; omega) | (show _ < 61; omega) | (show _ < 20; omega)) (a6) ?_
            refine ab_if_eq X 128 d_MO_check_122 rfl (fun _ => ?_) (fun hb => absurd (rfl) hb)
            refine ab_aload_n X 1 d_MO_check_128 rfl rfl ?_
            refine ab_gI X fl_MO_117 d_MO_check_129 (by first | assumption | decide | (show _ < 124; omega) | (show _ < 61; omega) | (show _ < 20; omega)) (c1.1.1) ?_
            refine ab_iconst (v := 1) X d_MO_check_132 (by decide) ?_
            refine ab_icmp_ne X 157 d_MO_check_133 rfl (fun hb => absurd (rfl) hb) (fun _ => ?_)
            refine ab_aload_n X 1 d_MO_check_136 rfl rfl ?_
            refine ab_gR X fl_MO_114 d_MO_check_137 (by first | assumption | decide | (show _ < 124; omega) | (show _ < 61; omega) | (show _ < 20; omega)) (P1.1.mo34) ?_
            refine ab_iconst (v := 0) X d_MO_check_140 (by decide) ?_
            refine ab_iald X (0) ⟨rfl, rfl⟩ d_MO_check_141 (by first | assumption | decide | (show _ < 124; omega) | (show _ < 61; omega) | (show _ < 20; omega)) (rfl) (show 0 < 128 by decide) (ab_ln_lt _ _) ?_
            refine ab_top c1.1.2.1.1 ?_
            refine ab_iconst (v := 1) X d_MO_check_142 (by decide) ?_
            refine ab_icmp_ne X 157 d_MO_check_143 rfl (fun _ => ?_) (fun hb => absurd hb ((nI_ne (a := w) (b := 1) (by omega) (by decide) q2)))
            refine ab_aload_n X 1 d_MO_check_157 rfl rfl ?_
            refine ab_gR X fl_MO_48 d_MO_check_158 (by first | assumption | decide | (show _ < 124; omega) | (show _ < 61; omega) | (show _ < 20; omega)) (P1.1.mo12) ?_
            refine ab_iconst (v := 0) X d_MO_check_161 (by decide) ?_
            refine ab_iald X (0) ⟨rfl, rfl⟩ d_MO_check_162 (by first | assumption | decide | (show _ < 124; omega) | (show _ < 61; omega) | (show _ < 20; omega)) (rfl) (show 0 < 72 by decide) (ab_ln_lt _ _) ?_
            refine ab_top en1 ?_
            exact ab_reti X hr0 hlk d_MO_check_163 ⟨P1, Or.inr ⟨h1, a0, by rw [hR]; exact a3, by rw [hR]⟩⟩
        ·
          refine ab_aload_n X 1 d_MO_check_118 rfl rfl ?_
          refine ab_gI X fl_MO_132 d_MO_check_119 (by first | assumption | decide | (show _ < 124; omega) | (show _ < 61; omega) | (show _ < 20; omega)) (a6) ?_
          refine ab_if_eq X 128 d_MO_check_122 rfl (fun _ => ?_) (fun hb => absurd (rfl) hb)
          refine ab_aload_n X 1 d_MO_check_128 rfl rfl ?_
          refine ab_gI X fl_MO_117 d_MO_check_129 (by first | assumption | decide | (show _ < 124; omega) | (show _ < 61; omega) | (show _ < 20; omega)) (c1.1.1) ?_
          refine ab_iconst (v := 1) X d_MO_check_132 (by decide) ?_
          refine ab_icmp_ne X 157 d_MO_check_133 rfl (fun _ => ?_) (fun hb => absurd hb ((nI_ne (b := 1) (by omega) (by decide) q1)))
          refine ab_aload_n X 1 d_MO_check_157 rfl rfl ?_
          refine ab_gR X fl_MO_48 d_MO_check_158 (by first | assumption | decide | (show _ < 124; omega) | (show _ < 61; omega) | (show _ < 20; omega)) (P1.1.mo12) ?_
          refine ab_iconst (v := 0) X d_MO_check_161 (by decide) ?_
          refine ab_iald X (0) ⟨rfl, rfl⟩ d_MO_check_162 (by first | assumption | decide | (show _ < 124; omega) | (show _ < 61; omega) | (show _ < 20; omega)) (rfl) (show 0 < 72 by decide) (ab_ln_lt _ _) ?_
          refine ab_top en1 ?_
          exact ab_reti X hr0 hlk d_MO_check_163 ⟨P1, Or.inr ⟨h1, a0, by rw [hR]; exact a3, by rw [hR]⟩⟩
    have loop : ∀ (n : Nat) (r st sd : List Nat) (k b : Nat) (u1 : ab_S) (y : Int32), r = ws.drop b → b + r.length = ws.length → r.length < n → gP [0, 33, 35, 37, 40, 118, 119] u u1 → rM u1 st sd → st.length + r.length ≤ 126 → sd.length + cq r ≤ 9 → u1.1 17 0 0 = 0 → u1.1 17 0 33 = nI k → u1.1 17 0 40 = 0 → okm hh aa n r st sd → (rn hh aa ws.length (ws.length + 1) ws xs [] 0) = rn hh aa ws.length n r st sd k → ab_J p l e (ab_rm 4 0 0) s m args below meth c (MQ below (ab_Q D ca ad ab_nQ s.heap.size (fun u' v => gP [0, 33, 35, 37, 40, 118, 119] u u' ∧ ((u.1 17 0 4 = 0 ∧ u'.1 17 0 0 = 1 ∧ u'.1 17 0 33 = u.1 17 0 33 ∧ ∃ y : Int32, v = some (ab_I y)) ∨ (u.1 17 0 4 = 1 ∧ u'.1 17 0 0 = 0 ∧ u'.1 17 0 33 = nI (rn hh aa ws.length (ws.length + 1) ws xs [] 0).2 ∧ v = some (ab_I (rn hh aa ws.length (ws.length + 1) ws xs [] 0).1))))) args s 0 0 (ab_A ad ab_nQ s.heap.size)) D ca (ab_A ad ab_nQ s.heap.size) s.heap 5 0 0 ad ab_nQ u1 77 [(3, ab_I (nI b)), (4, ab_I y), (0, ab_O 17 0), (1, ab_I hh), (2, ab_I aa)] [] := by
      intro n
      induction n with
      | zero => intro r st sd k b u1 y _ _ z; exact absurd z (Nat.not_lt_zero _)
      | succ n ih =>
        intro r st sd k b u1 y er eb hn P1 c1 bs bd a0 a3 a6 okr hR
        have en1 := P1.ai (a := 6) (by decide) en
        cases r with
        | nil =>
          have eb : b + 0 = ws.length := eb
          refine ab_iload_n X 0 d_MO_check_77 rfl rfl ?_
          refine ab_aload_n X 2 d_MO_check_78 rfl rfl ?_
          refine ab_gR X fl_MO_48 d_MO_check_79 (by first | assumption | decide | (show _ < 124; omega) | (show _ < 61; omega) | (show _ < 20; omega)) (P1.1.mo12) ?_
          refine ab_iconst (v := 0) X d_MO_check_82 (by decide) ?_
          refine ab_iald X (0) ⟨rfl, rfl⟩ d_MO_check_83 (by first | assumption | decide | (show _ < 124; omega) | (show _ < 61; omega) | (show _ < 20; omega)) (rfl) (show 0 < 72 by decide) (ab_ln_lt _ _) ?_
          refine ab_top en1 ?_
          refine ab_icmp_ge X 118 d_MO_check_84 rfl (fun _ => ?_) (fun hb => absurd ((nI_le (by omega) (by omega))) hb)
          refine ab_lv (List.forall_mem_cons.mpr ⟨List.mem_of_getElem? (i := 1) rfl, List.forall_mem_cons.mpr ⟨List.mem_of_getElem? (i := 2) rfl, List.forall_mem_cons.mpr ⟨List.mem_of_getElem? (i := 3) rfl, List.forall_mem_cons.mpr ⟨List.mem_of_getElem? (i := 4) rfl, fun _ h => absurd h List.not_mem_nil⟩⟩⟩⟩) ?_
          exact last st sd k _ _ P1 c1 (by omega) (by omega) a0 a3 a6 hR
        | cons x r =>
          have eb : b + (r.length + 1) = ws.length := eb
          have hn : r.length + 1 < n + 1 := hn
          have bs : st.length + (r.length + 1) ≤ 126 := bs
          have bd : sd.length + ((if x / 1000 = 10 then 1 else 0) + cq r) ≤ 9 := bd
          have hb : b < ws.length := by omega
          have ed := er.trans (drop_c hb)
          have ex : x = ws.getD b 0 := (List.cons.inj ed).1
          have er2 : r = ws.drop (b + 1) := (List.cons.inj ed).2
          have hx := wb _ (getD_mem hb)
          rw [← ex] at hx
          have ew1 : u1.1 18 9 b = nI x := by rw [ex]; exact P1.ai (by decide) (ew b hb)
          have Wr : wR u1 b r := ⟨by omega, fun i hi => by
            have g : r.getD i 0 = ws.getD (b + 1 + i) 0 := by rw [er2, List.getD_eq_getElem?_getD, List.getElem?_drop, ← List.getD_eq_getElem?_getD]
            rw [g]
            exact ⟨P1.ai (by decide) (ew _ (by omega)), by have := wb _ (getD_mem (show b + 1 + i < ws.length by omega)); omega⟩⟩
          have K104 : ∀ u2 (v : Int32), gP [0, 33, 35, 37, 40, 118, 119] u u2 → u2.1 17 0 0 = 0 → u2.1 17 0 33 = nI k → sK hh aa x r st sd b u2 v → ab_J p l e (ab_rm 4 0 0) s m args below meth c (MQ below (ab_Q D ca ad ab_nQ s.heap.size (fun u' v => gP [0, 33, 35, 37, 40, 118, 119] u u' ∧ ((u.1 17 0 4 = 0 ∧ u'.1 17 0 0 = 1 ∧ u'.1 17 0 33 = u.1 17 0 33 ∧ ∃ y : Int32, v = some (ab_I y)) ∨ (u.1 17 0 4 = 1 ∧ u'.1 17 0 0 = 0 ∧ u'.1 17 0 33 = nI (rn hh aa ws.length (ws.length + 1) ws xs [] 0).2 ∧ v = some (ab_I (rn hh aa ws.length (ws.length + 1) ws xs [] 0).1))))) args s 0 0 (ab_A ad ab_nQ s.heap.size)) D ca (ab_A ad ab_nQ s.heap.size) s.heap 5 0 0 ad ab_nQ u2 104 [(4, ab_I (nI b)), (0, ab_O 17 0), (1, ab_I hh), (2, ab_I aa)] [ab_I v] := by
            intro u2 v P2 b0 b3 hs
            rcases hs with ⟨e, b6⟩ | ⟨r', st', sd', e, b6, c2, hv⟩
            · rw [rn_no e] at hR
              refine ab_istore_n4 X 0 1 2 3 d_MO_check_104 rfl (by decide) rfl rfl rfl rfl rfl rfl rfl rfl ?_
              refine ab_aload_n X 2 d_MO_check_105 rfl rfl ?_
              refine ab_dup X d_MO_check_106 rfl ?_
              refine ab_gI X fl_MO_111 d_MO_check_107 (by first | assumption | decide | (show _ < 124; omega) | (show _ < 61; omega) | (show _ < 20; omega)) (b3) ?_
              refine ab_iconst (v := 1) X d_MO_check_110 (by decide) ?_
              refine ab_iadd X d_MO_check_111 ?_
              refine ab_top (nI_1 _) ?_
              refine ab_putI X fp_MO_111 d_MO_check_112 (by first | assumption | decide | (show _ < 124; omega) | (show _ < 61; omega) | (show _ < 20; omega)) rfl rfl ?_
              refine ab_gen (fun u112 e112 => ?_)
              have P112 : gP [0, 33, 35, 37, 40, 118, 119] u u112 := by rw [e112]; exact P2.ui rfl (by decide)
              refine ab_goto X 77 d_MO_check_115 rfl ?_
              exact stop _ _ _ (k + 1) P112 (by rw [e112]; exact (ui_n _ (by omega)).trans b0) (by rw [e112]; exact ui_s _) (by rw [e112]; exact (ui_n _ (by omega)).trans b6) (by rw [hR, show ws.length - (r.length + 1) = b by omega])
            · rw [rn_yes e] at hR
              obtain ⟨⟨m', em'⟩, l1, l2, l3⟩ := stp_len e
              have lr : r'.length = r.length - m' := by rw [em', List.length_drop]
              have okr' : okm hh aa n r' st' sd' := okr.2 r' st' sd' e
              have cr : cq r' ≤ cq r := by rw [em']; exact cq_drop _ _
              have bd' : sd'.length + cq r' ≤ 9 := by
                by_cases z : x / 1000 = 10
                · rw [if_pos z] at bd; omega
                · rw [if_neg z] at bd; have := l3 z; omega
              have er' : r' = ws.drop (b + 1 + (r.length - r'.length)) := by
                by_cases z : m' ≤ r.length
                · rw [show b + 1 + (r.length - r'.length) = b + 1 + m' by omega, ← List.drop_drop, ← er2]; exact em'
                · have l0 : r'.length = 0 := by omega
                  rw [List.length_eq_zero_iff.mp l0, List.drop_eq_nil_of_le (by simp only [List.length_nil]; omega)]
              rw [hv]
              refine ab_istore_n4 X 0 1 2 3 d_MO_check_104 rfl (by decide) rfl rfl rfl rfl rfl rfl rfl rfl ?_
              refine ab_aload_n X 2 d_MO_check_105 rfl rfl ?_
              refine ab_dup X d_MO_check_106 rfl ?_
              refine ab_gI X fl_MO_111 d_MO_check_107 (by first | assumption | decide | (show _ < 124; omega) | (show _ < 61; omega) | (show _ < 20; omega)) (b3) ?_
              refine ab_iconst (v := 1) X d_MO_check_110 (by decide) ?_
              refine ab_iadd X d_MO_check_111 ?_
              refine ab_top (nI_1 _) ?_
              refine ab_putI X fp_MO_111 d_MO_check_112 (by first | assumption | decide | (show _ < 124; omega) | (show _ < 61; omega) | (show _ < 20; omega)) rfl rfl ?_
              refine ab_gen (fun u112 e112 => ?_)
              have P112 : gP [0, 33, 35, 37, 40, 118, 119] u u112 := by rw [e112]; exact P2.ui rfl (by decide)
              refine ab_goto X 77 d_MO_check_115 rfl ?_
              exact ih r' st' sd' (k + 1) (b + 1 + (r.length - r'.length)) _ _ er' (by omega) (by omega) P112 (by rw [e112]; exact c2.ui (by decide)) (by omega) bd' (by rw [e112]; exact (ui_n _ (by omega)).trans b0) (by rw [e112]; exact ui_s _) (by rw [e112]; exact (ui_n _ (by omega)).trans b6) okr' hR
          refine ab_iload_n X 0 d_MO_check_77 rfl rfl ?_
          refine ab_aload_n X 2 d_MO_check_78 rfl rfl ?_
          refine ab_gR X fl_MO_48 d_MO_check_79 (by first | assumption | decide | (show _ < 124; omega) | (show _ < 61; omega) | (show _ < 20; omega)) (P1.1.mo12) ?_
          refine ab_iconst (v := 0) X d_MO_check_82 (by decide) ?_
          refine ab_iald X (0) ⟨rfl, rfl⟩ d_MO_check_83 (by first | assumption | decide | (show _ < 124; omega) | (show _ < 61; omega) | (show _ < 20; omega)) (rfl) (show 0 < 72 by decide) (ab_ln_lt _ _) ?_
          refine ab_top en1 ?_
          refine ab_icmp_ge X 118 d_MO_check_84 rfl (fun hb => absurd hb ((nI_ge (by omega) (by omega)))) (fun _ => ?_)
          refine ab_aload_n X 2 d_MO_check_87 rfl rfl ?_
          refine ab_gI X fl_MO_132 d_MO_check_88 (by first | assumption | decide | (show _ < 124; omega) | (show _ < 61; omega) | (show _ < 20; omega)) (a6) ?_
          refine ab_if_ne X 118 d_MO_check_91 rfl (fun hb => absurd (rfl) hb) (fun _ => ?_)
          refine ab_iload_n X 0 d_MO_check_94 rfl rfl ?_
          refine ab_istore4 X 0 2 3 4 d_MO_check_95 (by decide) rfl rfl rfl rfl rfl rfl rfl rfl ?_
          refine ab_aload_n X 2 d_MO_check_97 rfl rfl ?_
          refine ab_iload_n X 1 d_MO_check_98 rfl rfl ?_
          refine ab_iload_n X 3 d_MO_check_99 rfl rfl ?_
          refine ab_iload_n X 4 d_MO_check_100 rfl rfl ?_
          refine ab_callV (as := [ab_I (nI b), ab_I hh, ab_I aa]) X (fun h => by cases h) (z_MO_step u1 st sd P1.1 c1 hh aa x b r (by omega) (by omega) ew1 (by omega) a6 Wr okr.1 hx) lk_MO_330 d_MO_check_101 rfl rfl (by first | assumption | decide | (show _ < 124; omega) | (show _ < 61; omega) | (show _ < 20; omega)) ⟨by first | exact Nat.le_of_ble_eq_true rfl | (simp only [ab_rm]; omega), by first | exact Nat.le_of_ble_eq_true rfl | (simp only [ab_rm]; omega)⟩ ⟨by first | exact Nat.le_of_ble_eq_true rfl | (simp only [ab_rm]; omega), by first | exact Nat.le_of_ble_eq_true rfl | (simp only [ab_rm]; omega)⟩ (Nat.le_of_ble_eq_true rfl) (fun u101 r101 h101 => ?_)
          obtain ⟨q101, v9, k101, rfl⟩ := h101
          have P101 := P1.trans q101 (by decide)
          refine ab_lv (List.forall_mem_cons.mpr ⟨List.mem_of_getElem? (i := 0) rfl, List.forall_mem_cons.mpr ⟨List.mem_of_getElem? (i := 2) rfl, List.forall_mem_cons.mpr ⟨List.mem_of_getElem? (i := 3) rfl, List.forall_mem_cons.mpr ⟨List.mem_of_getElem? (i := 4) rfl, fun _ h => absurd h List.not_mem_nil⟩⟩⟩⟩) ?_
          exact K104 _ _ P101 (q101.fi (by decide) a0) (q101.fi (by decide) a3) k101
    have main : ∀ u1, gP [0, 33, 35, 37, 40, 118, 119] u u1 → rM u1 xs [] → u1.1 17 0 0 = 0 → u1.1 17 0 33 = nI 0 → u1.1 17 0 40 = 0 → ab_J p l e (ab_rm 4 0 0) s m args below meth c (MQ below (ab_Q D ca ad ab_nQ s.heap.size (fun u' v => gP [0, 33, 35, 37, 40, 118, 119] u u' ∧ ((u.1 17 0 4 = 0 ∧ u'.1 17 0 0 = 1 ∧ u'.1 17 0 33 = u.1 17 0 33 ∧ ∃ y : Int32, v = some (ab_I y)) ∨ (u.1 17 0 4 = 1 ∧ u'.1 17 0 0 = 0 ∧ u'.1 17 0 33 = nI (rn hh aa ws.length (ws.length + 1) ws xs [] 0).2 ∧ v = some (ab_I (rn hh aa ws.length (ws.length + 1) ws xs [] 0).1))))) args s 0 0 (ab_A ad ab_nQ s.heap.size)) D ca (ab_A ad ab_nQ s.heap.size) s.heap 5 0 0 ad ab_nQ u1 72 [(0, ab_O 17 0), (1, ab_I hh), (2, ab_I aa)] [] := by
      intro u1 P1 c1 a0 a3 a6
      refine ab_iconst (v := 0) X d_MO_check_72 (by decide) ?_
      refine ab_istore_n3 X 0 1 2 d_MO_check_73 rfl (by decide) rfl rfl rfl rfl rfl rfl ?_
      refine ab_iconst (v := 0) X d_MO_check_74 (by decide) ?_
      refine ab_istore4 X 0 1 2 3 d_MO_check_75 (by decide) rfl rfl rfl rfl rfl rfl rfl rfl ?_
      refine ab_lv (List.forall_mem_cons.mpr ⟨List.mem_of_getElem? (i := 1) rfl, List.forall_mem_cons.mpr ⟨List.mem_of_getElem? (i := 0) rfl, List.forall_mem_cons.mpr ⟨List.mem_of_getElem? (i := 2) rfl, List.forall_mem_cons.mpr ⟨List.mem_of_getElem? (i := 3) rfl, List.forall_mem_cons.mpr ⟨List.mem_of_getElem? (i := 4) rfl, fun _ h => absurd h List.not_mem_nil⟩⟩⟩⟩⟩) ?_
      exact loop (ws.length + 1) ws xs [] 0 0 _ _ rfl (Nat.zero_add _) (Nat.lt_succ_self _) P1 c1 (by omega) (by show 0 + cq ws ≤ 9; omega) a0 a3 a6 (ok _ _ _) rfl
    have put : ∀ (j : Nat) (u1 : ab_S), j ≤ xs.length → gP [0, 33, 35, 37, 40, 118, 119] u u1 → rM u1 (xs.drop j) [] → u1.1 17 0 0 = 0 → u1.1 17 0 33 = nI 0 → u1.1 17 0 40 = 0 → ab_J p l e (ab_rm 4 0 0) s m args below meth c (MQ below (ab_Q D ca ad ab_nQ s.heap.size (fun u' v => gP [0, 33, 35, 37, 40, 118, 119] u u' ∧ ((u.1 17 0 4 = 0 ∧ u'.1 17 0 0 = 1 ∧ u'.1 17 0 33 = u.1 17 0 33 ∧ ∃ y : Int32, v = some (ab_I y)) ∨ (u.1 17 0 4 = 1 ∧ u'.1 17 0 0 = 0 ∧ u'.1 17 0 33 = nI (rn hh aa ws.length (ws.length + 1) ws xs [] 0).2 ∧ v = some (ab_I (rn hh aa ws.length (ws.length + 1) ws xs [] 0).1))))) args s 0 0 (ab_A ad ab_nQ s.heap.size)) D ca (ab_A ad ab_nQ s.heap.size) s.heap 5 0 0 ad ab_nQ u1 52 [(3, ab_I (nI j - 1)), (0, ab_O 17 0), (1, ab_I hh), (2, ab_I aa)] [] := by
      intro j
      induction j with
      | zero =>
        intro u1 hj P1 c1 a0 a3 a6
        refine ab_iload_n X 0 d_MO_check_52 rfl rfl ?_
        refine ab_if_lt X 72 d_MO_check_53 rfl (fun _ => ?_) (fun hb => absurd ((by decide)) hb)
        refine ab_lv (List.forall_mem_cons.mpr ⟨List.mem_of_getElem? (i := 1) rfl, List.forall_mem_cons.mpr ⟨List.mem_of_getElem? (i := 2) rfl, List.forall_mem_cons.mpr ⟨List.mem_of_getElem? (i := 3) rfl, fun _ h => absurd h List.not_mem_nil⟩⟩⟩) ?_
        exact main _ P1 c1 a0 a3 a6
      | succ j ih =>
        intro u1 hj P1 c1 a0 a3 a6
        rw [nI_m1 (by omega), show j + 1 - 1 = j by omega]
        have b1 := xb _ (getD_mem (show j < xs.length by omega))
        refine ab_iload_n X 0 d_MO_check_52 rfl rfl ?_
        refine ab_if_lt X 72 d_MO_check_53 rfl (fun hb => absurd hb ((nI_pos (by omega)))) (fun _ => ?_)
        refine ab_aload_n X 1 d_MO_check_56 rfl rfl ?_
        refine ab_aload_n X 1 d_MO_check_57 rfl rfl ?_
        refine ab_gR X fl_MO_105 d_MO_check_58 (by first | assumption | decide | (show _ < 124; omega) | (show _ < 61; omega) | (show _ < 20; omega)) (P1.1.mo31) ?_
        refine ab_iload_n X 0 d_MO_check_61 rfl rfl ?_
        refine ab_iald X (j) ⟨rfl, rfl⟩ d_MO_check_62 (by first | assumption | decide | (show _ < 124; omega) | (show _ < 61; omega) | (show _ < 20; omega)) (rfl) (show j < 64 by omega) (ab_ln_lt _ _) ?_
        refine ab_top (P1.ai (by decide) (ej j (by omega))) ?_
        refine ab_callV (as := [ab_I (nI (xs.getD j 0))]) X (fun h => by cases h) (z_MO_putOn u1 (xs.getD j 0) (xs.drop (j + 1)) [] P1.1 c1 (by omega) (by rw [List.length_drop]; omega)) lk_MO_301 d_MO_check_63 rfl rfl (by first | assumption | decide | (show _ < 124; omega) | (show _ < 61; omega) | (show _ < 20; omega)) ⟨by first | exact Nat.le_of_ble_eq_true rfl | (simp only [ab_rm]; omega), by first | exact Nat.le_of_ble_eq_true rfl | (simp only [ab_rm]; omega)⟩ ⟨by first | exact Nat.le_of_ble_eq_true rfl | (simp only [ab_rm]; omega), by first | exact Nat.le_of_ble_eq_true rfl | (simp only [ab_rm]; omega)⟩ (Nat.le_of_ble_eq_true rfl) (fun u63 r63 h63 => ?_)
        obtain ⟨⟨q63, c63, g63⟩, rfl⟩ := h63
        have P63 := P1.trans q63 (by decide)
        refine ab_iinc3 X 0 1 2 3 d_MO_check_66 rfl (by decide) rfl rfl rfl rfl rfl rfl ?_
        refine ab_goto X 52 d_MO_check_69 rfl ?_
        rw [show nI j + Int32.ofInt (-1) = nI j - 1 from by rw [Int32.sub_eq_add_neg]; rfl]
        exact ih _ (by omega) P63 (by rw [drop_c (show j < xs.length by omega)]; exact c63) (q63.fi (by decide) a0) (q63.fi (by decide) a3) (g63.trans a6)
    refine ab_aload_n X 0 d_MO_check_0 rfl rfl ?_
    refine ab_aload_n X 0 d_MO_check_1 rfl rfl ?_
    refine ab_gI X fl_MO_23 d_MO_check_2 (by first | assumption | decide | (show _ < 124; omega) | (show _ < 61; omega) | (show _ < 20; omega)) (h1) ?_
    refine ab_if_eq X 12 d_MO_check_5 rfl (fun hb => absurd hb ((by decide))) (fun _ => ?_)
    refine ab_iconst (v := 0) X d_MO_check_8 (by decide) ?_
    refine ab_goto X 13 d_MO_check_9 rfl ?_
    refine ab_putI X fp_MO_7 d_MO_check_13 (by first | assumption | decide | (show _ < 124; omega) | (show _ < 61; omega) | (show _ < 20; omega)) rfl rfl ?_
    refine ab_gen (fun u13 e13 => ?_)
    have P13 : gP [0, 33, 35, 37, 40, 118, 119] u u13 := by rw [e13]; exact P0.ui rfl (by decide)
    refine ab_aload_n X 0 d_MO_check_16 rfl rfl ?_
    refine ab_gI X fl_MO_23 d_MO_check_17 (by first | assumption | decide | (show _ < 124; omega) | (show _ < 61; omega) | (show _ < 20; omega)) ((show _ = (1 : Int32) by rw [e13]; exact (ui_n _ (by omega)).trans h1)) ?_
    refine ab_if_ne X 25 d_MO_check_20 rfl (fun _ => ?_) (fun hb => absurd hb ((by decide)))
    refine ab_aload_n X 0 d_MO_check_25 rfl rfl ?_
    refine ab_iconst (v := 0) X d_MO_check_26 (by decide) ?_
    refine ab_putI X fp_MO_117 d_MO_check_27 (by first | assumption | decide | (show _ < 124; omega) | (show _ < 61; omega) | (show _ < 20; omega)) rfl rfl ?_
    refine ab_gen (fun u27 e27 => ?_)
    have P27 : gP [0, 33, 35, 37, 40, 118, 119] u u27 := by rw [e27]; exact P13.ui rfl (by decide)
    refine ab_aload_n X 0 d_MO_check_30 rfl rfl ?_
    refine ab_iconst (v := 0) X d_MO_check_31 (by decide) ?_
    refine ab_putI X fp_MO_123 d_MO_check_32 (by first | assumption | decide | (show _ < 124; omega) | (show _ < 61; omega) | (show _ < 20; omega)) rfl rfl ?_
    refine ab_gen (fun u32 e32 => ?_)
    have P32 : gP [0, 33, 35, 37, 40, 118, 119] u u32 := by rw [e32]; exact P27.ui rfl (by decide)
    refine ab_aload_n X 0 d_MO_check_35 rfl rfl ?_
    refine ab_iconst (v := 0) X d_MO_check_36 (by decide) ?_
    refine ab_putI X fp_MO_132 d_MO_check_37 (by first | assumption | decide | (show _ < 124; omega) | (show _ < 61; omega) | (show _ < 20; omega)) rfl rfl ?_
    refine ab_gen (fun u37 e37 => ?_)
    have P37 : gP [0, 33, 35, 37, 40, 118, 119] u u37 := by rw [e37]; exact P32.ui rfl (by decide)
    refine ab_aload_n X 0 d_MO_check_40 rfl rfl ?_
    refine ab_iconst (v := 0) X d_MO_check_41 (by decide) ?_
    refine ab_putI X fp_MO_111 d_MO_check_42 (by first | assumption | decide | (show _ < 124; omega) | (show _ < 61; omega) | (show _ < 20; omega)) rfl rfl ?_
    refine ab_gen (fun u42 e42 => ?_)
    have P42 : gP [0, 33, 35, 37, 40, 118, 119] u u42 := by rw [e42]; exact P37.ui rfl (by decide)
    refine ab_aload_n X 0 d_MO_check_45 rfl rfl ?_
    refine ab_gI X fl_MO_108 d_MO_check_46 (by first | assumption | decide | (show _ < 124; omega) | (show _ < 61; omega) | (show _ < 20; omega)) (P42.fi (by decide) em) ?_
    refine ab_iconst (v := 1) X d_MO_check_49 (by decide) ?_
    refine ab_isub X d_MO_check_50 ?_
    refine ab_istore_n3 X 0 1 2 d_MO_check_51 rfl (by decide) rfl rfl rfl rfl rfl rfl ?_
    refine put xs.length _ (Nat.le_refl _) P42 (by rw [List.drop_length]; refine ⟨⟨?_, trivial⟩, ?_, trivial⟩; (rw [e42, e37, e32, e27]; exact (ui_n _ (by omega)).trans ((ui_n _ (by omega)).trans ((ui_n _ (by omega)).trans (ui_s _)))); (rw [e42, e37, e32]; exact (ui_n _ (by omega)).trans ((ui_n _ (by omega)).trans (ui_s _)))) ?_ ?_ ?_
    · rw [e42, e37, e32, e27, e13]; exact (ui_n _ (by omega)).trans ((ui_n _ (by omega)).trans ((ui_n _ (by omega)).trans ((ui_n _ (by omega)).trans (ui_s _))))
    · rw [e42]; exact ui_s _
    · rw [e42, e37]; exact (ui_n _ (by omega)).trans (ui_s _)
end SaXRChk

