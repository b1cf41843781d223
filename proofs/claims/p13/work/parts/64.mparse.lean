/-! The reference's reader. -/
def lcn (kd : Nat → Nat) : Nat → Nat
  | 0 => 0
  | n + 1 => lcn kd n + (if kd n < 5 then 1 else 0)
theorem lcn_mono (kd : Nat → Nat) {a b : Nat} (h : a ≤ b) : lcn kd a ≤ lcn kd b := by
  induction b with
  | zero => rw [show a = 0 by omega]; exact Nat.le_refl _
  | succ b ih =>
    by_cases q : a = b + 1
    · rw [q]; exact Nat.le_refl _
    · exact Nat.le_trans (ih (by omega)) (Nat.le_add_right _ _)
theorem lcn_congr {kd kd' : Nat → Nat} : ∀ n, (∀ i, i < n → kd' i = kd i) → lcn kd' n = lcn kd n := by
  intro n
  induction n with
  | zero => intro _; rfl
  | succ n ih =>
    intro h
    show lcn kd' n + (if kd' n < 5 then 1 else 0) = lcn kd n + (if kd n < 5 then 1 else 0)
    rw [ih (fun i hi => h i (by omega)), h n (by omega)]
/-- all read: a tree -/
theorem rt.done {M : Nat} {kd ar cn en cl op : Nat → Nat} {ch : Nat → Nat → Nat} (h : rt M 0 kd ar cn en cl op ch) (hM : 0 < M) (hL : lcn kd M ≤ 10) : tW M kd ar cn (fun p => lcn kd (en p) - lcn kd p) ch := by
  obtain ⟨h1, c1, -, -, c4⟩ := h
  have hc : ∀ p, p < M → cl p = 1 := fun p hp => Classical.byContradiction fun z => by obtain ⟨j, hj, -⟩ := c1 p hp z; omega
  have chain : ∀ p, p < M → 5 ≤ kd p → (∀ q, p < q → q < M → ∃ v, lcn kd (en q) = lcn kd q + v ∧ 1 ≤ v ∧ en q + 1 ≤ q + 2 * v) → ∀ k, k ≤ cn p → ∃ v, lcn kd (if k = 0 then p + 1 else en (ch p (k - 1))) = lcn kd (p + 1) + v ∧ (if k = 0 then p + 1 else en (ch p (k - 1))) + k ≤ p + 1 + 2 * v ∧ k ≤ v ∧ sm (fun i => lcn kd (en (ch p i)) - lcn kd (ch p i)) k = v := by
    intro p hp h5 ih k
    obtain ⟨-, b2, b3, b4, b5⟩ := (h1 p hp).2.2.1 h5
    induction k with
    | zero => intro _; exact ⟨0, by rw [if_pos rfl]; rfl, by rw [if_pos rfl]; omega, Nat.le_refl _, rfl⟩
    | succ k ihk =>
      intro hk
      obtain ⟨v, v1, v2, v3, v4⟩ := ihk (by omega)
      have hx : ch p k = (if k = 0 then p + 1 else en (ch p (k - 1))) := by
        by_cases q : k = 0
        · subst q; rw [if_pos rfl]; exact b3 (by omega)
        · rw [if_neg q]
          have z := (b4 (k - 1) (by omega)).1
          rwa [show k - 1 + 1 = k by omega] at z
      rw [← hx] at v1 v2
      obtain ⟨x1, x2⟩ := b5 k (by omega)
      obtain ⟨w, w1, w2, w3⟩ := ih (ch p k) x1 x2
      refine ⟨v + w, ?_, ?_, by omega, ?_⟩
      · rw [if_neg (by omega), show k + 1 - 1 = k by omega]; omega
      · rw [if_neg (by omega), show k + 1 - 1 = k by omega]; omega
      · show sm (fun i => lcn kd (en (ch p i)) - lcn kd (ch p i)) k + (lcn kd (en (ch p k)) - lcn kd (ch p k)) = v + w
        omega
  have A : ∀ (n p : Nat), p + n = M → p < M → ∃ v, lcn kd (en p) = lcn kd p + v ∧ 1 ≤ v ∧ en p + 1 ≤ p + 2 * v := by
    intro n
    induction n using Nat.strongRecOn with
    | ind n ih =>
    intro p hn hp
    obtain ⟨⟨k1, k7, -⟩, a2, a3, a4⟩ := h1 p hp
    by_cases h5 : kd p < 5
    · obtain ⟨b1, b2, -⟩ := a2 h5
      refine ⟨1, ?_, Nat.le_refl _, by omega⟩
      rw [b2]
      show lcn kd p + (if kd p < 5 then 1 else 0) = _
      rw [if_pos h5]
    · obtain ⟨v, v1, v2, v3, -⟩ := chain p hp (by omega) (fun q x y => ih (M - q) (by omega) q (by omega) y) (cn p) (Nat.le_refl _)
      obtain ⟨e1, e2, e3⟩ := a4 (hc p hp)
      obtain ⟨n2, -, -, e4, -⟩ := e3 (by omega)
      rw [if_neg (by omega), ← e4] at v1 v2
      have e5 : lcn kd (p + 1) = lcn kd p := by
        show lcn kd p + (if kd p < 5 then 1 else 0) = _
        rw [if_neg h5]; rfl
      exact ⟨v, by omega, by omega, by omega⟩
  have B : ∀ q, q < M → ∃ v, lcn kd (en q) = lcn kd q + v ∧ 1 ≤ v ∧ en q + 1 ≤ q + 2 * v := fun q hq => A (M - q) q (by omega) hq
  obtain ⟨v0, z1, z2, z3⟩ := B 0 hM
  rw [c4 rfl hM] at z1 z3
  have l0 : lcn kd 0 = 0 := rfl
  refine ⟨hM, by omega, fun p hp => ?_⟩
  obtain ⟨⟨k1, k7, r9⟩, a2, a3, a4⟩ := h1 p hp
  obtain ⟨v, v1, v2, v3⟩ := B p hp
  obtain ⟨e1, e2, e3⟩ := a4 (hc p hp)
  have mono := lcn_mono kd e2
  refine ⟨⟨by show 1 ≤ lcn kd (en p) - lcn kd p; omega, by show lcn kd (en p) - lcn kd p ≤ 10; omega, k1, k7, r9⟩, fun z => (a2 z).1, fun z => ?_⟩
  obtain ⟨n2, n5, n7, e4, -⟩ := e3 z
  obtain ⟨b1, b2, b3, b4, b5⟩ := a3 z
  refine ⟨n2, b1, n5, n7, b5, ?_⟩
  obtain ⟨w, w1, -, -, w4⟩ := chain p hp z (fun q _ y => B q y) (cn p) (Nat.le_refl _)
  rw [if_neg (by omega), ← e4] at w1
  have e5 : lcn kd (p + 1) = lcn kd p := by
    show lcn kd p + (if kd p < 5 then 1 else 0) = _
    rw [if_neg (by omega)]; rfl
  show sm (fun i => lcn kd (en (ch p i)) - lcn kd (ch p i)) (cn p) ≤ lcn kd (en p) - lcn kd p
  omega
/-- the cells of a policy while it is read -/
def rS (M O Lf : Nat) (kd ar cn op : Nat → Nat) (ch : Nat → Nat → Nat) (u : ab_S) : Prop := u.1 17 0 5 = nI M ∧ u.1 17 0 6 = nI Lf ∧ u.1 17 0 39 = nI O ∧ (∀ p, p < M → u.1 18 1 p = nI (kd p) ∧ u.1 18 2 p = nI (ar p) ∧ u.1 18 3 p = nI (cn p) ∧ ∀ i, i < cn p → u.1 18 4 (4 * p + i) = nI (ch p i)) ∧ ∀ j, j < O → u.1 18 20 j = nI (op j)
def atv (u : ab_S) (t q : Nat) : Int32 := if q < t then u.1 18 0 q else -1
section SaMParse
variable {l : Launch} {D : va_G} {ca : Nat → ClassId}
abbrev b_MO_at : ByteArray := prog_10_method_2_code
def y_MO_at : MethodName := ⟨"PolicyForgeModel", "at", "(I)I"⟩
theorem d_MO_at_0 : decode b_MO_at 0 = .ok (.iload_n 1, 1) := by decide +kernel
theorem d_MO_at_1 : decode b_MO_at 1 = .ok (.aload_n 0, 1) := by decide +kernel
theorem d_MO_at_2 : decode b_MO_at 2 = .ok (.getfield 17, 3) := by decide +kernel
theorem d_MO_at_5 : decode b_MO_at 5 = .ok (.if_icmp .ge 12, 3) := by decide +kernel
theorem d_MO_at_8 : decode b_MO_at 8 = .ok (.aload_n 0, 1) := by decide +kernel
theorem d_MO_at_9 : decode b_MO_at 9 = .ok (.getfield 13, 3) := by decide +kernel
theorem d_MO_at_12 : decode b_MO_at 12 = .ok (.iload_n 1, 1) := by decide +kernel
theorem d_MO_at_13 : decode b_MO_at 13 = .ok (.iaload, 1) := by decide +kernel
theorem d_MO_at_14 : decode b_MO_at 14 = .ok (.goto 4, 3) := by decide +kernel
theorem d_MO_at_17 : decode b_MO_at 17 = .ok (.iconst (-1), 1) := by decide +kernel
theorem d_MO_at_18 : decode b_MO_at 18 = .ok (.ireturn, 1) := by decide +kernel
set_option maxRecDepth 100000 in
set_option maxHeartbeats 1000000 in
theorem t_MO_at (u : ab_S) (q : Nat) (t : Nat) (ht : t ≤ 100) (et : u.1 17 0 2 = nI t) (h : mR u.2.1) (hq : q ≤ 1000) : ab_C false l D ca y_MO_at b_MO_at 2 (some FieldType.int) 0 ab_nQ u [ab_O 17 0, ab_I (nI q)] (fun u' v => u' = u ∧ v = some (ab_I (atv u t q))) := by
  refine ab_C.of (by decide) (Nat.le_of_ble_eq_true rfl) ?_
  intro p e s m args below meth c ad X hZ hr0 hlk
  have P0 : gP [] u u := gP.rf h
  refine ab_iload_n X 1 d_MO_at_0 rfl rfl ?_
  refine ab_aload_n X 0 d_MO_at_1 rfl rfl ?_
  refine ab_gI X fl_MO_17 d_MO_at_2 (by first | assumption | decide | (show _ < 124; omega) | (show _ < 61; omega) | (show _ < 20; omega)) (et) ?_
  refine ab_icmp_ge X 17 d_MO_at_5 rfl (fun h5 => ?_) (fun h5 => ?_)
  ·
    have hc := nI_le_of h5 (by omega)
    refine ab_iconst (v := (-1)) X d_MO_at_17 (by decide) ?_
    exact ab_reti X hr0 hlk d_MO_at_18 ⟨rfl, by unfold atv; first | rw [if_pos hc] | rw [if_neg (by omega)]⟩
  ·
    have hc := nI_lt_of h5 (by omega)
    refine ab_aload_n X 0 d_MO_at_8 rfl rfl ?_
    refine ab_gR X fl_MO_13 d_MO_at_9 (by first | assumption | decide | (show _ < 124; omega) | (show _ < 61; omega) | (show _ < 20; omega)) (P0.1.mo1) ?_
    refine ab_iload_n X 1 d_MO_at_12 rfl rfl ?_
    refine ab_iald X (q) ⟨rfl, rfl⟩ d_MO_at_13 (by first | assumption | decide | (show _ < 124; omega) | (show _ < 61; omega) | (show _ < 20; omega)) (rfl) (show q < 100 by omega) (ab_ln_lt _ _) ?_
    refine ab_goto X 18 d_MO_at_14 rfl ?_
    exact ab_reti X hr0 hlk d_MO_at_18 ⟨rfl, by unfold atv; first | rw [if_pos hc] | rw [if_neg (by omega)]⟩
abbrev b_MO_fits : ByteArray := prog_10_method_3_code
def y_MO_fits : MethodName := ⟨"PolicyForgeModel", "fits", "(IJ)I"⟩
theorem d_MO_fits_0 : decode b_MO_fits 0 = .ok (.iconst 0, 1) := by decide +kernel
theorem d_MO_fits_1 : decode b_MO_fits 1 = .ok (.istore 4, 2) := by decide +kernel
theorem d_MO_fits_3 : decode b_MO_fits 3 = .ok (.bipush 56, 2) := by decide +kernel
theorem d_MO_fits_5 : decode b_MO_fits 5 = .ok (.istore 5, 2) := by decide +kernel
theorem d_MO_fits_7 : decode b_MO_fits 7 = .ok (.iload 5, 2) := by decide +kernel
theorem d_MO_fits_9 : decode b_MO_fits 9 = .ok (.ifCond .lt 44, 3) := by decide +kernel
theorem d_MO_fits_12 : decode b_MO_fits 12 = .ok (.lload_n 2, 1) := by decide +kernel
theorem d_MO_fits_13 : decode b_MO_fits 13 = .ok (.iload 5, 2) := by decide +kernel
theorem d_MO_fits_15 : decode b_MO_fits 15 = .ok (.lshr, 1) := by decide +kernel
theorem d_MO_fits_16 : decode b_MO_fits 16 = .ok (.l2i, 1) := by decide +kernel
theorem d_MO_fits_17 : decode b_MO_fits 17 = .ok (.sipush 255, 3) := by decide +kernel
theorem d_MO_fits_20 : decode b_MO_fits 20 = .ok (.iand, 1) := by decide +kernel
theorem d_MO_fits_21 : decode b_MO_fits 21 = .ok (.istore 6, 2) := by decide +kernel
theorem d_MO_fits_23 : decode b_MO_fits 23 = .ok (.iload 6, 2) := by decide +kernel
theorem d_MO_fits_25 : decode b_MO_fits 25 = .ok (.ifCond .eq 22, 3) := by decide +kernel
theorem d_MO_fits_28 : decode b_MO_fits 28 = .ok (.aload_n 0, 1) := by decide +kernel
theorem d_MO_fits_29 : decode b_MO_fits 29 = .ok (.iload_n 1, 1) := by decide +kernel
theorem d_MO_fits_30 : decode b_MO_fits 30 = .ok (.iload 4, 2) := by decide +kernel
theorem d_MO_fits_32 : decode b_MO_fits 32 = .ok (.iadd, 1) := by decide +kernel
theorem d_MO_fits_33 : decode b_MO_fits 33 = .ok (.invokevirtual 145, 3) := by decide +kernel
theorem d_MO_fits_36 : decode b_MO_fits 36 = .ok (.iload 6, 2) := by decide +kernel
theorem d_MO_fits_38 : decode b_MO_fits 38 = .ok (.if_icmp .eq 6, 3) := by decide +kernel
theorem d_MO_fits_41 : decode b_MO_fits 41 = .ok (.iload 4, 2) := by decide +kernel
theorem d_MO_fits_43 : decode b_MO_fits 43 = .ok (.ireturn, 1) := by decide +kernel
theorem d_MO_fits_44 : decode b_MO_fits 44 = .ok (.iinc 4 1, 3) := by decide +kernel
theorem d_MO_fits_47 : decode b_MO_fits 47 = .ok (.iinc 5 (-8), 3) := by decide +kernel
theorem d_MO_fits_50 : decode b_MO_fits 50 = .ok (.goto (-43), 3) := by decide +kernel
theorem d_MO_fits_53 : decode b_MO_fits 53 = .ok (.iload 4, 2) := by decide +kernel
theorem d_MO_fits_55 : decode b_MO_fits 55 = .ok (.ireturn, 1) := by decide +kernel
theorem lk_MO_145 : ab_lk "PolicyForgeModel" 145 y_MO_at b_MO_at 2 (some FieldType.int) 1 17 := ⟨⟨rfl, T_MO, 44, rfl⟩, List.forall_mem_cons.mpr ⟨(ab_in 1094 (by decide +kernel) (by decide +kernel)), List.forall_mem_cons.mpr ⟨(ab_in 1096 (by decide +kernel) (by decide +kernel)), List.forall_mem_cons.mpr ⟨(ab_in 49 (by decide +kernel) (by decide +kernel)), List.forall_mem_cons.mpr ⟨(ab_in 100 (by decide +kernel) (by decide +kernel)), List.forall_mem_cons.mpr ⟨(ab_in 1097 (by decide +kernel) (by decide +kernel)), fun _ h => absurd h List.not_mem_nil⟩⟩⟩⟩⟩, ⟨by decide +kernel, by decide +kernel, by decide +kernel⟩, by decide⟩
set_option maxRecDepth 100000 in
set_option maxHeartbeats 1000000 in
theorem t_MO_fits (u : ab_S) (q : Nat) (wd : Int64) (t : Nat) (ht : t ≤ 100) (et : u.1 17 0 2 = nI t) (h : mR u.2.1) (hq : q ≤ 900) : ab_C false l D ca y_MO_fits b_MO_fits 7 (some FieldType.int) 1 ab_nQ u [ab_O 17 0, ab_I (nI q), ab_L wd] (fun u' v => u' = u ∧ ∃ n, n ≤ 8 ∧ (n = 0 ∨ q + n ≤ t) ∧ v = some (ab_I (nI n))) := by
  refine ab_C.of (by decide) (Nat.le_of_ble_eq_true rfl) ?_
  intro p e s m args below meth c ad X hZ hr0 hlk
  have P0 : gP [] u u := gP.rf h
  have fin : ∀ (sh : Int32) (n : Nat), sh < 0 → n ≤ 8 → (n = 0 ∨ q + n ≤ t) → ab_J p l e (ab_rm 1 0 0) s m args below meth c (MQ below (ab_Q D ca ad ab_nQ s.heap.size (fun u' v => u' = u ∧ ∃ n, n ≤ 8 ∧ (n = 0 ∨ q + n ≤ t) ∧ v = some (ab_I (nI n)))) args s 0 0 (ab_A ad ab_nQ s.heap.size)) D ca (ab_A ad ab_nQ s.heap.size) s.heap 7 0 0 ad ab_nQ u 7 [(5, ab_I sh), (4, ab_I (nI n)), (0, ab_O 17 0), (1, ab_I (nI q)), (2, ab_L wd)] [] := by
    intro sh n hs hn hc
    refine ab_iload X 0 d_MO_fits_7 rfl ?_
    refine ab_if_lt X 53 d_MO_fits_9 rfl (fun _ => ?_) (fun hb => absurd (hs) hb)
    refine ab_iload X 1 d_MO_fits_53 rfl ?_
    exact ab_reti X hr0 hlk d_MO_fits_55 ⟨rfl, n, hn, hc, rfl⟩
  have stp : ∀ (sh : Int32) (k : Nat), ¬ sh < 0 → (∀ n, n ≤ k + 1 → (n = 0 ∨ q + n ≤ t) → ab_J p l e (ab_rm 1 0 0) s m args below meth c (MQ below (ab_Q D ca ad ab_nQ s.heap.size (fun u' v => u' = u ∧ ∃ n, n ≤ 8 ∧ (n = 0 ∨ q + n ≤ t) ∧ v = some (ab_I (nI n)))) args s 0 0 (ab_A ad ab_nQ s.heap.size)) D ca (ab_A ad ab_nQ s.heap.size) s.heap 7 0 0 ad ab_nQ u 7 [(5, ab_I (sh + Int32.ofInt (-8))), (4, ab_I (nI n)), (0, ab_O 17 0), (1, ab_I (nI q)), (2, ab_L wd)] []) → k ≤ 7 → ∀ n, n ≤ k → (n = 0 ∨ q + n ≤ t) → ab_J p l e (ab_rm 1 0 0) s m args below meth c (MQ below (ab_Q D ca ad ab_nQ s.heap.size (fun u' v => u' = u ∧ ∃ n, n ≤ 8 ∧ (n = 0 ∨ q + n ≤ t) ∧ v = some (ab_I (nI n)))) args s 0 0 (ab_A ad ab_nQ s.heap.size)) D ca (ab_A ad ab_nQ s.heap.size) s.heap 7 0 0 ad ab_nQ u 7 [(5, ab_I sh), (4, ab_I (nI n)), (0, ab_O 17 0), (1, ab_I (nI q)), (2, ab_L wd)] [] := by
    intro sh k hs ih hk n hn hc
    refine ab_iload X 0 d_MO_fits_7 rfl ?_
    refine ab_if_lt X 53 d_MO_fits_9 rfl (fun hb => absurd hb (hs)) (fun _ => ?_)
    refine ab_lload_n X 4 d_MO_fits_12 rfl rfl ?_
    refine ab_iload X 0 d_MO_fits_13 rfl ?_
    refine ab_lshr X d_MO_fits_15 ?_
    refine ab_l2i X d_MO_fits_16 ?_
    refine ab_sipush (v := 255) X d_MO_fits_17 (by decide) ?_
    generalize (wd >>> (sh.toInt64 &&& 63)).toInt32 = x0
    refine ab_iand X d_MO_fits_20 ?_
    refine ab_istore5 X 0 1 2 3 4 d_MO_fits_21 (by decide) rfl rfl rfl rfl rfl rfl rfl rfl rfl rfl ?_
    refine ab_iload X 0 d_MO_fits_23 rfl ?_
    refine ab_if_eq X 47 d_MO_fits_25 rfl (fun h25 => ?_) (fun h25 => ?_)
    ·
      refine ab_iinc5 X 1 0 2 3 4 5 d_MO_fits_47 rfl (by decide) rfl rfl rfl rfl rfl rfl rfl rfl rfl rfl ?_
      refine ab_goto X 7 d_MO_fits_50 rfl ?_
      refine ab_lv (List.forall_mem_cons.mpr ⟨List.mem_of_getElem? (i := 0) rfl, List.forall_mem_cons.mpr ⟨List.mem_of_getElem? (i := 2) rfl, List.forall_mem_cons.mpr ⟨List.mem_of_getElem? (i := 3) rfl, List.forall_mem_cons.mpr ⟨List.mem_of_getElem? (i := 4) rfl, List.forall_mem_cons.mpr ⟨List.mem_of_getElem? (i := 5) rfl, fun _ h => absurd h List.not_mem_nil⟩⟩⟩⟩⟩) ?_
      first | exact ih n (by omega) hc | (rw [show nI n + Int32.ofInt 1 = nI (n + 1) from nI_1 n]; exact ih (n + 1) (by omega) (Or.inr (by omega)))
    ·
      refine ab_aload_n X 3 d_MO_fits_28 rfl rfl ?_
      refine ab_iload_n X 4 d_MO_fits_29 rfl rfl ?_
      refine ab_iload X 2 d_MO_fits_30 rfl ?_
      refine ab_iadd X d_MO_fits_32 ?_
      refine ab_top (nI_add q n) ?_
      refine ab_callV (as := [ab_I (nI (q + n))]) X (fun h => by cases h) (t_MO_at u (q + n) t ht et h (by omega)) lk_MO_145 d_MO_fits_33 rfl rfl (by first | assumption | decide | (show _ < 124; omega) | (show _ < 61; omega) | (show _ < 20; omega)) ⟨by first | exact Nat.le_of_ble_eq_true rfl | (simp only [ab_rm]; omega), by first | exact Nat.le_of_ble_eq_true rfl | (simp only [ab_rm]; omega)⟩ ⟨by first | exact Nat.le_of_ble_eq_true rfl | (simp only [ab_rm]; omega), by first | exact Nat.le_of_ble_eq_true rfl | (simp only [ab_rm]; omega)⟩ (Nat.le_of_ble_eq_true rfl) (fun u33 r33 h33 => ?_)
      obtain ⟨e33, rfl⟩ := h33
      subst u33
      refine ab_iload X 0 d_MO_fits_36 rfl ?_
      refine ab_icmp_eq X 44 d_MO_fits_38 rfl (fun h38 => ?_) (fun h38 => ?_)
      ·
        have hlt : q + n < t := Classical.byContradiction (fun z => mr_and x0 (by rw [← h38]; unfold atv; rw [if_neg z]))
        refine ab_iinc5 X 2 0 1 3 4 5 d_MO_fits_44 rfl (by decide) rfl rfl rfl rfl rfl rfl rfl rfl rfl rfl ?_
        refine ab_iinc5 X 2 0 1 3 4 5 d_MO_fits_47 rfl (by decide) rfl rfl rfl rfl rfl rfl rfl rfl rfl rfl ?_
        refine ab_goto X 7 d_MO_fits_50 rfl ?_
        refine ab_lv (List.forall_mem_cons.mpr ⟨List.mem_of_getElem? (i := 0) rfl, List.forall_mem_cons.mpr ⟨List.mem_of_getElem? (i := 1) rfl, List.forall_mem_cons.mpr ⟨List.mem_of_getElem? (i := 3) rfl, List.forall_mem_cons.mpr ⟨List.mem_of_getElem? (i := 4) rfl, List.forall_mem_cons.mpr ⟨List.mem_of_getElem? (i := 5) rfl, fun _ h => absurd h List.not_mem_nil⟩⟩⟩⟩⟩) ?_
        first | exact ih n (by omega) hc | (rw [show nI n + Int32.ofInt 1 = nI (n + 1) from nI_1 n]; exact ih (n + 1) (by omega) (Or.inr (by omega)))
      ·
        refine ab_iload X 2 d_MO_fits_41 rfl ?_
        exact ab_reti X hr0 hlk d_MO_fits_43 ⟨rfl, n, by omega, hc, rfl⟩
  refine ab_iconst (v := 0) X d_MO_fits_0 (by decide) ?_
  refine ab_istore3 X 0 1 2 d_MO_fits_1 (by decide) rfl rfl rfl rfl rfl rfl ?_
  refine ab_bipush (v := 56) X d_MO_fits_3 (by decide) ?_
  refine ab_istore4 X 0 1 2 3 d_MO_fits_5 (by decide) rfl rfl rfl rfl rfl rfl rfl rfl ?_
  refine stp 56 0 (by decide) (fun n1 a1 b1 => ?_) (by decide) 0 (by decide) (Or.inl rfl)
  refine stp _ 1 (by decide) (fun n2 a2 b2 => ?_) (by decide) n1 a1 b1
  refine stp _ 2 (by decide) (fun n3 a3 b3 => ?_) (by decide) n2 a2 b2
  refine stp _ 3 (by decide) (fun n4 a4 b4 => ?_) (by decide) n3 a3 b3
  refine stp _ 4 (by decide) (fun n5 a5 b5 => ?_) (by decide) n4 a4 b4
  refine stp _ 5 (by decide) (fun n6 a6 b6 => ?_) (by decide) n5 a5 b5
  refine stp _ 6 (by decide) (fun n7 a7 b7 => ?_) (by decide) n6 a6 b6
  refine stp _ 7 (by decide) (fun n8 a8 b8 => ?_) (by decide) n7 a7 b7
  exact fin _ n8 (by decide) a8 b8
theorem neg_sub (a : Nat) (h : a < 2 ^ 30) : (-1 : Int32) - nI a < 0 := by
  rw [Int32.lt_iff_toInt_lt, Int32.toInt_sub, nI_toInt (by omega), show (-1 : Int32).toInt = -1 from by decide, show (0 : Int32).toInt = 0 from by decide, Int.bmod_eq_of_le (by omega) (by omega)]
  omega
theorem dg_of {x : Int32} {lo hi : Nat} (hlo : lo ≤ 100) (hhi : hi ≤ 200) (h1 : ¬ x < nI lo) (h2 : x ≤ nI hi) : ∃ a, lo + a ≤ hi ∧ x - nI lo = nI a := by
  have h0 : ¬ x < 0 := fun z => h1 (Int32.lt_of_lt_of_le z (nI_pos' (by omega)))
  obtain ⟨k, hk, rfl⟩ := nI_of h0
  have a1 := nI_le_of h2 hk
  have a2 : lo ≤ k := Nat.le_of_not_lt (fun z => h1 (nI_lt z (by omega)))
  exact ⟨k - lo, by omega, pk_sub a2⟩
/-- a character from low on, not above low and 9 -/
theorem lf_a {x : Int32} (h1 : ¬ x < 65) (h2 : x ≤ 65 + 7) : ∃ a, a ≤ 999 ∧ x - 65 = nI a := by
  obtain ⟨a, z1, z2⟩ := dg_of (x := x) (lo := 65) (hi := 72) (by decide) (by decide) h1 h2
  exact ⟨a, by omega, z2⟩
theorem lf_b {x : Int32} (h1 : ¬ x < 65) (h2 : x ≤ 65 + 9) : ∃ a, a ≤ 999 ∧ x - 65 = nI a := by
  obtain ⟨a, z1, z2⟩ := dg_of (x := x) (lo := 65) (hi := 74) (by decide) (by decide) h1 h2
  exact ⟨a, by omega, z2⟩
theorem lf_c {x : Int32} (h1 : ¬ x < 48) (h2 : x ≤ 48 + 7) : ∃ a, a ≤ 999 ∧ x - 48 = nI a := by
  obtain ⟨a, z1, z2⟩ := dg_of (x := x) (lo := 48) (hi := 55) (by decide) (by decide) h1 h2
  exact ⟨a, by omega, z2⟩
theorem lf_d {x : Int32} (h1 : ¬ x < 48) (h2 : x ≤ 48 + 9) : ∃ a, a ≤ 999 ∧ x - 48 = nI a := by
  obtain ⟨a, z1, z2⟩ := dg_of (x := x) (lo := 48) (hi := 57) (by decide) (by decide) h1 h2
  exact ⟨a, by omega, z2⟩
abbrev b_MO_leaf : ByteArray := prog_10_method_7_code
def y_MO_leaf : MethodName := ⟨"PolicyForgeModel", "leaf", "(II)I"⟩
theorem d_MO_leaf_0 : decode b_MO_leaf 0 = .ok (.aload_n 0, 1) := by decide +kernel
theorem d_MO_leaf_1 : decode b_MO_leaf 1 = .ok (.dup, 1) := by decide +kernel
theorem d_MO_leaf_2 : decode b_MO_leaf 2 = .ok (.getfield 30, 3) := by decide +kernel
theorem d_MO_leaf_5 : decode b_MO_leaf 5 = .ok (.iconst 1, 1) := by decide +kernel
theorem d_MO_leaf_6 : decode b_MO_leaf 6 = .ok (.iadd, 1) := by decide +kernel
theorem d_MO_leaf_7 : decode b_MO_leaf 7 = .ok (.putfield 30, 3) := by decide +kernel
theorem d_MO_leaf_10 : decode b_MO_leaf 10 = .ok (.iload_n 2, 1) := by decide +kernel
theorem d_MO_leaf_11 : decode b_MO_leaf 11 = .ok (.istore_n 3, 1) := by decide +kernel
theorem d_MO_leaf_12 : decode b_MO_leaf 12 = .ok (.aload_n 0, 1) := by decide +kernel
theorem d_MO_leaf_13 : decode b_MO_leaf 13 = .ok (.getfield 33, 3) := by decide +kernel
theorem d_MO_leaf_16 : decode b_MO_leaf 16 = .ok (.iload_n 1, 1) := by decide +kernel
theorem d_MO_leaf_17 : decode b_MO_leaf 17 = .ok (.iaload, 1) := by decide +kernel
theorem d_MO_leaf_18 : decode b_MO_leaf 18 = .ok (.iconst 3, 1) := by decide +kernel
theorem d_MO_leaf_19 : decode b_MO_leaf 19 = .ok (.if_icmp .ge 82, 3) := by decide +kernel
theorem d_MO_leaf_22 : decode b_MO_leaf 22 = .ok (.aload_n 0, 1) := by decide +kernel
theorem d_MO_leaf_23 : decode b_MO_leaf 23 = .ok (.getfield 33, 3) := by decide +kernel
theorem d_MO_leaf_26 : decode b_MO_leaf 26 = .ok (.iload_n 1, 1) := by decide +kernel
theorem d_MO_leaf_27 : decode b_MO_leaf 27 = .ok (.iaload, 1) := by decide +kernel
theorem d_MO_leaf_28 : decode b_MO_leaf 28 = .ok (.iconst 1, 1) := by decide +kernel
theorem d_MO_leaf_29 : decode b_MO_leaf 29 = .ok (.if_icmp .ne 8, 3) := by decide +kernel
theorem d_MO_leaf_32 : decode b_MO_leaf 32 = .ok (.bipush 65, 2) := by decide +kernel
theorem d_MO_leaf_34 : decode b_MO_leaf 34 = .ok (.goto 5, 3) := by decide +kernel
theorem d_MO_leaf_37 : decode b_MO_leaf 37 = .ok (.bipush 48, 2) := by decide +kernel
theorem d_MO_leaf_39 : decode b_MO_leaf 39 = .ok (.istore 4, 2) := by decide +kernel
theorem d_MO_leaf_41 : decode b_MO_leaf 41 = .ok (.aload_n 0, 1) := by decide +kernel
theorem d_MO_leaf_42 : decode b_MO_leaf 42 = .ok (.iload_n 2, 1) := by decide +kernel
theorem d_MO_leaf_43 : decode b_MO_leaf 43 = .ok (.invokevirtual 145, 3) := by decide +kernel
theorem d_MO_leaf_46 : decode b_MO_leaf 46 = .ok (.istore 5, 2) := by decide +kernel
theorem d_MO_leaf_48 : decode b_MO_leaf 48 = .ok (.iload 5, 2) := by decide +kernel
theorem d_MO_leaf_50 : decode b_MO_leaf 50 = .ok (.iload 4, 2) := by decide +kernel
theorem d_MO_leaf_52 : decode b_MO_leaf 52 = .ok (.if_icmp .lt 28, 3) := by decide +kernel
theorem d_MO_leaf_55 : decode b_MO_leaf 55 = .ok (.iload 5, 2) := by decide +kernel
theorem d_MO_leaf_57 : decode b_MO_leaf 57 = .ok (.iload 4, 2) := by decide +kernel
theorem d_MO_leaf_59 : decode b_MO_leaf 59 = .ok (.aload_n 0, 1) := by decide +kernel
theorem d_MO_leaf_60 : decode b_MO_leaf 60 = .ok (.getfield 33, 3) := by decide +kernel
theorem d_MO_leaf_63 : decode b_MO_leaf 63 = .ok (.iload_n 1, 1) := by decide +kernel
theorem d_MO_leaf_64 : decode b_MO_leaf 64 = .ok (.iaload, 1) := by decide +kernel
theorem d_MO_leaf_65 : decode b_MO_leaf 65 = .ok (.iconst 1, 1) := by decide +kernel
theorem d_MO_leaf_66 : decode b_MO_leaf 66 = .ok (.if_icmp .ne 8, 3) := by decide +kernel
theorem d_MO_leaf_69 : decode b_MO_leaf 69 = .ok (.bipush 7, 2) := by decide +kernel
theorem d_MO_leaf_71 : decode b_MO_leaf 71 = .ok (.goto 5, 3) := by decide +kernel
theorem d_MO_leaf_74 : decode b_MO_leaf 74 = .ok (.bipush 9, 2) := by decide +kernel
theorem d_MO_leaf_76 : decode b_MO_leaf 76 = .ok (.iadd, 1) := by decide +kernel
theorem d_MO_leaf_77 : decode b_MO_leaf 77 = .ok (.if_icmp .le 7, 3) := by decide +kernel
theorem d_MO_leaf_80 : decode b_MO_leaf 80 = .ok (.iconst (-1), 1) := by decide +kernel
theorem d_MO_leaf_81 : decode b_MO_leaf 81 = .ok (.iload_n 2, 1) := by decide +kernel
theorem d_MO_leaf_82 : decode b_MO_leaf 82 = .ok (.isub, 1) := by decide +kernel
theorem d_MO_leaf_83 : decode b_MO_leaf 83 = .ok (.ireturn, 1) := by decide +kernel
theorem d_MO_leaf_84 : decode b_MO_leaf 84 = .ok (.aload_n 0, 1) := by decide +kernel
theorem d_MO_leaf_85 : decode b_MO_leaf 85 = .ok (.getfield 36, 3) := by decide +kernel
theorem d_MO_leaf_88 : decode b_MO_leaf 88 = .ok (.iload_n 1, 1) := by decide +kernel
theorem d_MO_leaf_89 : decode b_MO_leaf 89 = .ok (.iload 5, 2) := by decide +kernel
theorem d_MO_leaf_91 : decode b_MO_leaf 91 = .ok (.iload 4, 2) := by decide +kernel
theorem d_MO_leaf_93 : decode b_MO_leaf 93 = .ok (.isub, 1) := by decide +kernel
theorem d_MO_leaf_94 : decode b_MO_leaf 94 = .ok (.iastore, 1) := by decide +kernel
theorem d_MO_leaf_95 : decode b_MO_leaf 95 = .ok (.iinc 3 1, 3) := by decide +kernel
theorem d_MO_leaf_98 : decode b_MO_leaf 98 = .ok (.goto 88, 3) := by decide +kernel
theorem d_MO_leaf_101 : decode b_MO_leaf 101 = .ok (.iconst 0, 1) := by decide +kernel
theorem d_MO_leaf_102 : decode b_MO_leaf 102 = .ok (.istore 4, 2) := by decide +kernel
theorem d_MO_leaf_104 : decode b_MO_leaf 104 = .ok (.iload_n 3, 1) := by decide +kernel
theorem d_MO_leaf_105 : decode b_MO_leaf 105 = .ok (.iload_n 2, 1) := by decide +kernel
theorem d_MO_leaf_106 : decode b_MO_leaf 106 = .ok (.iconst 3, 1) := by decide +kernel
theorem d_MO_leaf_107 : decode b_MO_leaf 107 = .ok (.iadd, 1) := by decide +kernel
theorem d_MO_leaf_108 : decode b_MO_leaf 108 = .ok (.if_icmp .ge 61, 3) := by decide +kernel
theorem d_MO_leaf_111 : decode b_MO_leaf 111 = .ok (.aload_n 0, 1) := by decide +kernel
theorem d_MO_leaf_112 : decode b_MO_leaf 112 = .ok (.iload_n 3, 1) := by decide +kernel
theorem d_MO_leaf_113 : decode b_MO_leaf 113 = .ok (.invokevirtual 145, 3) := by decide +kernel
theorem d_MO_leaf_116 : decode b_MO_leaf 116 = .ok (.bipush 48, 2) := by decide +kernel
theorem d_MO_leaf_118 : decode b_MO_leaf 118 = .ok (.if_icmp .lt 51, 3) := by decide +kernel
theorem d_MO_leaf_121 : decode b_MO_leaf 121 = .ok (.aload_n 0, 1) := by decide +kernel
theorem d_MO_leaf_122 : decode b_MO_leaf 122 = .ok (.iload_n 3, 1) := by decide +kernel
theorem d_MO_leaf_123 : decode b_MO_leaf 123 = .ok (.invokevirtual 145, 3) := by decide +kernel
theorem d_MO_leaf_126 : decode b_MO_leaf 126 = .ok (.bipush 57, 2) := by decide +kernel
theorem d_MO_leaf_128 : decode b_MO_leaf 128 = .ok (.if_icmp .gt 41, 3) := by decide +kernel
theorem d_MO_leaf_131 : decode b_MO_leaf 131 = .ok (.bipush 10, 2) := by decide +kernel
theorem d_MO_leaf_133 : decode b_MO_leaf 133 = .ok (.iload 4, 2) := by decide +kernel
theorem d_MO_leaf_135 : decode b_MO_leaf 135 = .ok (.imul, 1) := by decide +kernel
theorem d_MO_leaf_136 : decode b_MO_leaf 136 = .ok (.aload_n 0, 1) := by decide +kernel
theorem d_MO_leaf_137 : decode b_MO_leaf 137 = .ok (.iload_n 3, 1) := by decide +kernel
theorem d_MO_leaf_138 : decode b_MO_leaf 138 = .ok (.invokevirtual 145, 3) := by decide +kernel
theorem d_MO_leaf_141 : decode b_MO_leaf 141 = .ok (.iadd, 1) := by decide +kernel
theorem d_MO_leaf_142 : decode b_MO_leaf 142 = .ok (.bipush 48, 2) := by decide +kernel
theorem d_MO_leaf_144 : decode b_MO_leaf 144 = .ok (.isub, 1) := by decide +kernel
theorem d_MO_leaf_145 : decode b_MO_leaf 145 = .ok (.istore 4, 2) := by decide +kernel
theorem d_MO_leaf_147 : decode b_MO_leaf 147 = .ok (.iload 4, 2) := by decide +kernel
theorem d_MO_leaf_149 : decode b_MO_leaf 149 = .ok (.ifCond .ne 14, 3) := by decide +kernel
theorem d_MO_leaf_152 : decode b_MO_leaf 152 = .ok (.iload_n 3, 1) := by decide +kernel
theorem d_MO_leaf_153 : decode b_MO_leaf 153 = .ok (.iload_n 2, 1) := by decide +kernel
theorem d_MO_leaf_154 : decode b_MO_leaf 154 = .ok (.iconst 2, 1) := by decide +kernel
theorem d_MO_leaf_155 : decode b_MO_leaf 155 = .ok (.iadd, 1) := by decide +kernel
theorem d_MO_leaf_156 : decode b_MO_leaf 156 = .ok (.if_icmp .ne 7, 3) := by decide +kernel
theorem d_MO_leaf_159 : decode b_MO_leaf 159 = .ok (.iconst (-1), 1) := by decide +kernel
theorem d_MO_leaf_160 : decode b_MO_leaf 160 = .ok (.iload_n 3, 1) := by decide +kernel
theorem d_MO_leaf_161 : decode b_MO_leaf 161 = .ok (.isub, 1) := by decide +kernel
theorem d_MO_leaf_162 : decode b_MO_leaf 162 = .ok (.ireturn, 1) := by decide +kernel
theorem d_MO_leaf_163 : decode b_MO_leaf 163 = .ok (.iinc 3 1, 3) := by decide +kernel
theorem d_MO_leaf_166 : decode b_MO_leaf 166 = .ok (.goto (-62), 3) := by decide +kernel
theorem d_MO_leaf_169 : decode b_MO_leaf 169 = .ok (.iload 4, 2) := by decide +kernel
theorem d_MO_leaf_171 : decode b_MO_leaf 171 = .ok (.ifCond .ne 7, 3) := by decide +kernel
theorem d_MO_leaf_174 : decode b_MO_leaf 174 = .ok (.iconst (-1), 1) := by decide +kernel
theorem d_MO_leaf_175 : decode b_MO_leaf 175 = .ok (.iload_n 3, 1) := by decide +kernel
theorem d_MO_leaf_176 : decode b_MO_leaf 176 = .ok (.isub, 1) := by decide +kernel
theorem d_MO_leaf_177 : decode b_MO_leaf 177 = .ok (.ireturn, 1) := by decide +kernel
theorem d_MO_leaf_178 : decode b_MO_leaf 178 = .ok (.aload_n 0, 1) := by decide +kernel
theorem d_MO_leaf_179 : decode b_MO_leaf 179 = .ok (.getfield 36, 3) := by decide +kernel
theorem d_MO_leaf_182 : decode b_MO_leaf 182 = .ok (.iload_n 1, 1) := by decide +kernel
theorem d_MO_leaf_183 : decode b_MO_leaf 183 = .ok (.iload 4, 2) := by decide +kernel
theorem d_MO_leaf_185 : decode b_MO_leaf 185 = .ok (.iastore, 1) := by decide +kernel
theorem d_MO_leaf_186 : decode b_MO_leaf 186 = .ok (.aload_n 0, 1) := by decide +kernel
theorem d_MO_leaf_187 : decode b_MO_leaf 187 = .ok (.iload_n 3, 1) := by decide +kernel
theorem d_MO_leaf_188 : decode b_MO_leaf 188 = .ok (.invokevirtual 145, 3) := by decide +kernel
theorem d_MO_leaf_191 : decode b_MO_leaf 191 = .ok (.bipush 41, 2) := by decide +kernel
theorem d_MO_leaf_193 : decode b_MO_leaf 193 = .ok (.if_icmp .ne 9, 3) := by decide +kernel
theorem d_MO_leaf_196 : decode b_MO_leaf 196 = .ok (.iload_n 3, 1) := by decide +kernel
theorem d_MO_leaf_197 : decode b_MO_leaf 197 = .ok (.iconst 1, 1) := by decide +kernel
theorem d_MO_leaf_198 : decode b_MO_leaf 198 = .ok (.iadd, 1) := by decide +kernel
theorem d_MO_leaf_199 : decode b_MO_leaf 199 = .ok (.goto 6, 3) := by decide +kernel
theorem d_MO_leaf_202 : decode b_MO_leaf 202 = .ok (.iconst (-1), 1) := by decide +kernel
theorem d_MO_leaf_203 : decode b_MO_leaf 203 = .ok (.iload_n 3, 1) := by decide +kernel
theorem d_MO_leaf_204 : decode b_MO_leaf 204 = .ok (.isub, 1) := by decide +kernel
theorem d_MO_leaf_205 : decode b_MO_leaf 205 = .ok (.ireturn, 1) := by decide +kernel
set_option maxRecDepth 100000 in
set_option maxHeartbeats 1000000 in
theorem s_MO_leaf (u : ab_S) (p1 q k Lf : Nat) (t : Nat) (ht : t ≤ 100) (et : u.1 17 0 2 = nI t) (h : mR u.2.1) (hp : p1 < 40) (hq : q ≤ 900) (ek : u.1 18 1 p1 = nI k) (hk1 : 1 ≤ k) (hk : k ≤ 4) (eL : u.1 17 0 6 = nI Lf) (hL : Lf < 100) : ab_C false l D ca y_MO_leaf b_MO_leaf 6 (some FieldType.int) 1 ab_nQ u [ab_O 17 0, ab_I (nI p1), ab_I (nI q)] (fun u' v => (gP [6, 102] u u' ∧ u'.1 17 0 6 = nI (Lf + 1) ∧ ∀ x, x ≠ p1 → u'.1 18 2 x = u.1 18 2 x) ∧ (∃ x : Int32, (x < 0 ∨ ∃ q' a, x = nI q' ∧ q < q' ∧ q' ≤ t ∧ a ≤ 999 ∧ u'.1 18 2 p1 = nI a) ∧ v = some (ab_I x))) := by
  refine ab_C.of (by decide) (Nat.le_of_ble_eq_true rfl) ?_
  intro p e s m args below meth c ad X hZ hr0 hlk
  have P0 : gP [6, 102] u u := gP.rf h
  have fl : ∀ (u1 : ab_S) (y : Nat), gP [6, 102] u u1 → u1.1 17 0 6 = nI (Lf + 1) → (∀ x, x ≠ p1 → u1.1 18 2 x = u.1 18 2 x) → y ≤ 1000 → (∃ u' : ab_S, u' = u1) → ((fun u' v => (gP [6, 102] u u' ∧ u'.1 17 0 6 = nI (Lf + 1) ∧ ∀ x, x ≠ p1 → u'.1 18 2 x = u.1 18 2 x) ∧ (∃ x : Int32, (x < 0 ∨ ∃ q' a, x = nI q' ∧ q < q' ∧ q' ≤ t ∧ a ≤ 999 ∧ u'.1 18 2 p1 = nI a) ∧ v = some (ab_I x))) : ab_S → Option ab_V → Prop) u1 (some (ab_I (-1 - nI y))) := fun u1 y a1 a2 a3 hy _ => ⟨⟨a1, a2, a3⟩, _, Or.inl (neg_sub y (by omega)), rfl⟩
  have K186 : ∀ (u1 : ab_S) (r a : Nat), gP [6, 102] u u1 → u1.1 17 0 6 = nI (Lf + 1) → (∀ x, x ≠ p1 → u1.1 18 2 x = u.1 18 2 x) → q ≤ r → r ≤ q + 3 → a ≤ 999 → u1.1 18 2 p1 = nI a → ab_J p l e (ab_rm 1 0 0) s m args below meth c (MQ below (ab_Q D ca ad ab_nQ s.heap.size (fun u' v => (gP [6, 102] u u' ∧ u'.1 17 0 6 = nI (Lf + 1) ∧ ∀ x, x ≠ p1 → u'.1 18 2 x = u.1 18 2 x) ∧ (∃ x : Int32, (x < 0 ∨ ∃ q' a, x = nI q' ∧ q < q' ∧ q' ≤ t ∧ a ≤ 999 ∧ u'.1 18 2 p1 = nI a) ∧ v = some (ab_I x)))) args s 0 0 (ab_A ad ab_nQ s.heap.size)) D ca (ab_A ad ab_nQ s.heap.size) s.heap 6 0 0 ad ab_nQ u1 186 [(3, ab_I (nI r)), (0, ab_O 17 0), (1, ab_I (nI p1)), (2, ab_I (nI q))] [] := by
    intro u1 r a P1 b1 b2 hr1 hr2 ha ea
    refine ab_aload_n X 1 d_MO_leaf_186 rfl rfl ?_
    refine ab_iload_n X 0 d_MO_leaf_187 rfl rfl ?_
    refine ab_callV (as := [ab_I (nI r)]) X (fun h => by cases h) (t_MO_at u1 r t ht (P1.fi (by decide) et) P1.1 (by omega)) lk_MO_145 d_MO_leaf_188 rfl rfl (by first | assumption | decide | (show _ < 124; omega) | (show _ < 61; omega) | (show _ < 20; omega)) ⟨by first | exact Nat.le_of_ble_eq_true rfl | (simp only [ab_rm]; omega), by first | exact Nat.le_of_ble_eq_true rfl | (simp only [ab_rm]; omega)⟩ ⟨by first | exact Nat.le_of_ble_eq_true rfl | (simp only [ab_rm]; omega), by first | exact Nat.le_of_ble_eq_true rfl | (simp only [ab_rm]; omega)⟩ (Nat.le_of_ble_eq_true rfl) (fun u188 r188 h188 => ?_)
    obtain ⟨e188, rfl⟩ := h188
    subst u188
    refine ab_bipush (v := 41) X d_MO_leaf_191 (by decide) ?_
    refine ab_icmp_ne X 202 d_MO_leaf_193 rfl (fun h193 => ?_) (fun h193 => ?_)
    ·
      refine ab_iconst (v := (-1)) X d_MO_leaf_202 (by decide) ?_
      refine ab_iload_n X 0 d_MO_leaf_203 rfl rfl ?_
      refine ab_isub X d_MO_leaf_204 ?_
      exact ab_reti X hr0 hlk d_MO_leaf_205 (fl _ r P1 b1 b2 (by omega) ⟨_, rfl⟩)
    ·
      have hlt : r < t := Classical.byContradiction (fun z => absurd h193 (by unfold atv; rw [if_neg z]; decide))
      refine ab_iload_n X 0 d_MO_leaf_196 rfl rfl ?_
      refine ab_iconst (v := 1) X d_MO_leaf_197 (by decide) ?_
      refine ab_iadd X d_MO_leaf_198 ?_
      refine ab_top (nI_1 _) ?_
      refine ab_goto X 205 d_MO_leaf_199 rfl ?_
      exact ab_reti X hr0 hlk d_MO_leaf_205 ⟨⟨P1, b1, b2⟩, _, Or.inr ⟨r + 1, a, rfl, by omega, by omega, ha, ea⟩, rfl⟩
  have tm : ∀ (k2 i nn : Nat) (u1 : ab_S), k2 + i = 3 → nn + 1 ≤ 10 ^ i → gP [6, 102] u u1 → u1.1 17 0 6 = nI (Lf + 1) → (∀ x, u1.1 18 2 x = u.1 18 2 x) → ab_J p l e (ab_rm 1 0 0) s m args below meth c (MQ below (ab_Q D ca ad ab_nQ s.heap.size (fun u' v => (gP [6, 102] u u' ∧ u'.1 17 0 6 = nI (Lf + 1) ∧ ∀ x, x ≠ p1 → u'.1 18 2 x = u.1 18 2 x) ∧ (∃ x : Int32, (x < 0 ∨ ∃ q' a, x = nI q' ∧ q < q' ∧ q' ≤ t ∧ a ≤ 999 ∧ u'.1 18 2 p1 = nI a) ∧ v = some (ab_I x)))) args s 0 0 (ab_A ad ab_nQ s.heap.size)) D ca (ab_A ad ab_nQ s.heap.size) s.heap 6 0 0 ad ab_nQ u1 104 [(4, ab_I (nI nn)), (3, ab_I (nI (q + i))), (0, ab_O 17 0), (1, ab_I (nI p1)), (2, ab_I (nI q))] [] := by
    intro k2 i nn u1
    have K169 : ∀ (i nn : Nat) (u1 : ab_S), i ≤ 3 → nn ≤ 999 → gP [6, 102] u u1 → u1.1 17 0 6 = nI (Lf + 1) → (∀ x, u1.1 18 2 x = u.1 18 2 x) → ab_J p l e (ab_rm 1 0 0) s m args below meth c (MQ below (ab_Q D ca ad ab_nQ s.heap.size (fun u' v => (gP [6, 102] u u' ∧ u'.1 17 0 6 = nI (Lf + 1) ∧ ∀ x, x ≠ p1 → u'.1 18 2 x = u.1 18 2 x) ∧ (∃ x : Int32, (x < 0 ∨ ∃ q' a, x = nI q' ∧ q < q' ∧ q' ≤ t ∧ a ≤ 999 ∧ u'.1 18 2 p1 = nI a) ∧ v = some (ab_I x)))) args s 0 0 (ab_A ad ab_nQ s.heap.size)) D ca (ab_A ad ab_nQ s.heap.size) s.heap 6 0 0 ad ab_nQ u1 169 [(4, ab_I (nI nn)), (3, ab_I (nI (q + i))), (0, ab_O 17 0), (1, ab_I (nI p1)), (2, ab_I (nI q))] [] := by
      intro i nn u1 hi hn P1 b1 b2
      refine ab_iload X 0 d_MO_leaf_169 rfl ?_
      refine ab_if_ne X 178 d_MO_leaf_171 rfl (fun h171 => ?_) (fun h171 => ?_)
      ·
        refine ab_aload_n X 2 d_MO_leaf_178 rfl rfl ?_
        refine ab_gR X fl_MO_36 d_MO_leaf_179 (by first | assumption | decide | (show _ < 124; omega) | (show _ < 61; omega) | (show _ < 20; omega)) (P1.1.mo8) ?_
        refine ab_iload_n X 3 d_MO_leaf_182 rfl rfl ?_
        refine ab_iload X 0 d_MO_leaf_183 rfl ?_
        refine ab_iast X (p1) ⟨rfl, rfl⟩ d_MO_leaf_185 (by first | assumption | decide | (show _ < 124; omega) | (show _ < 61; omega) | (show _ < 20; omega)) (rfl) (show p1 < 40 by omega) (ab_ln_lt _ _) ?_
        refine ab_gen (fun u185 e185 => ?_)
        have P185 : gP [6, 102] u u185 := by rw [e185]; exact P1.ui rfl (by decide)
        refine ab_lv (List.forall_mem_cons.mpr ⟨List.mem_of_getElem? (i := 1) rfl, List.forall_mem_cons.mpr ⟨List.mem_of_getElem? (i := 2) rfl, List.forall_mem_cons.mpr ⟨List.mem_of_getElem? (i := 3) rfl, List.forall_mem_cons.mpr ⟨List.mem_of_getElem? (i := 4) rfl, fun _ h => absurd h List.not_mem_nil⟩⟩⟩⟩) ?_
        exact K186 _ (q + i) nn P185 (by rw [e185]; simpa [ab_up] using b1) (fun x hx => by rw [e185]; simpa [ab_up, hx] using b2 x) (by omega) (by omega) hn (by rw [e185]; simp [ab_up])
      ·
        refine ab_iconst (v := (-1)) X d_MO_leaf_174 (by decide) ?_
        refine ab_iload_n X 1 d_MO_leaf_175 rfl rfl ?_
        refine ab_isub X d_MO_leaf_176 ?_
        exact ab_reti X hr0 hlk d_MO_leaf_177 (fl _ (q + i) P1 b1 (fun x _ => b2 x) (by omega) ⟨_, rfl⟩)
    induction k2 generalizing i nn u1 with
    | zero =>
      intro hi hn P1 b1 b2
      have h3 : i = 3 := by omega
      subst h3
      refine ab_iload_n X 1 d_MO_leaf_104 rfl rfl ?_
      refine ab_iload_n X 4 d_MO_leaf_105 rfl rfl ?_
      refine ab_iconst (v := 3) X d_MO_leaf_106 (by decide) ?_
      refine ab_iadd X d_MO_leaf_107 ?_
      refine ab_top (nI_add q 3) ?_
      refine ab_icmp_ge X 169 d_MO_leaf_108 rfl (fun _ => ?_) (fun hb => absurd ((nI_le (by omega) (by omega))) hb)
      exact K169 3 nn _ (by decide) (by omega) P1 b1 b2
    | succ k2 ih =>
      intro hi hn P1 b1 b2
      have i2 : i = 0 ∨ i = 1 ∨ i = 2 := by omega
      have hnn : nn ≤ 99 := by rcases i2 with rfl | rfl | rfl <;> omega
      have hpw : 10 ^ (i + 1) = 10 * 10 ^ i := Nat.pow_succ'
      refine ab_iload_n X 1 d_MO_leaf_104 rfl rfl ?_
      refine ab_iload_n X 4 d_MO_leaf_105 rfl rfl ?_
      refine ab_iconst (v := 3) X d_MO_leaf_106 (by decide) ?_
      refine ab_iadd X d_MO_leaf_107 ?_
      refine ab_top (nI_add q 3) ?_
      refine ab_icmp_ge X 169 d_MO_leaf_108 rfl (fun hb => absurd hb ((nI_ge (by omega) (by omega)))) (fun _ => ?_)
      refine ab_aload_n X 2 d_MO_leaf_111 rfl rfl ?_
      refine ab_iload_n X 1 d_MO_leaf_112 rfl rfl ?_
      refine ab_callV (as := [ab_I (nI (q + i))]) X (fun h => by cases h) (t_MO_at u1 (q + i) t ht (P1.fi (by decide) et) P1.1 (by omega)) lk_MO_145 d_MO_leaf_113 rfl rfl (by first | assumption | decide | (show _ < 124; omega) | (show _ < 61; omega) | (show _ < 20; omega)) ⟨by first | exact Nat.le_of_ble_eq_true rfl | (simp only [ab_rm]; omega), by first | exact Nat.le_of_ble_eq_true rfl | (simp only [ab_rm]; omega)⟩ ⟨by first | exact Nat.le_of_ble_eq_true rfl | (simp only [ab_rm]; omega), by first | exact Nat.le_of_ble_eq_true rfl | (simp only [ab_rm]; omega)⟩ (Nat.le_of_ble_eq_true rfl) (fun u113 r113 h113 => ?_)
      obtain ⟨e113, rfl⟩ := h113
      subst u113
      refine ab_bipush (v := 48) X d_MO_leaf_116 (by decide) ?_
      refine ab_icmp_lt X 169 d_MO_leaf_118 rfl (fun h118 => ?_) (fun h118 => ?_)
      ·
        exact K169 i nn _ (by omega) (by omega) P1 b1 b2
      ·
        refine ab_aload_n X 2 d_MO_leaf_121 rfl rfl ?_
        refine ab_iload_n X 1 d_MO_leaf_122 rfl rfl ?_
        refine ab_callV (as := [ab_I (nI (q + i))]) X (fun h => by cases h) (t_MO_at u1 (q + i) t ht (P1.fi (by decide) et) P1.1 (by omega)) lk_MO_145 d_MO_leaf_123 rfl rfl (by first | assumption | decide | (show _ < 124; omega) | (show _ < 61; omega) | (show _ < 20; omega)) ⟨by first | exact Nat.le_of_ble_eq_true rfl | (simp only [ab_rm]; omega), by first | exact Nat.le_of_ble_eq_true rfl | (simp only [ab_rm]; omega)⟩ ⟨by first | exact Nat.le_of_ble_eq_true rfl | (simp only [ab_rm]; omega), by first | exact Nat.le_of_ble_eq_true rfl | (simp only [ab_rm]; omega)⟩ (Nat.le_of_ble_eq_true rfl) (fun u123 r123 h123 => ?_)
        obtain ⟨e123, rfl⟩ := h123
        subst u123
        refine ab_bipush (v := 57) X d_MO_leaf_126 (by decide) ?_
        refine ab_icmp_gt X 169 d_MO_leaf_128 rfl (fun h128 => ?_) (fun h128 => ?_)
        ·
          exact K169 i nn _ (by omega) (by omega) P1 b1 b2
        ·
          obtain ⟨dd, hd, ed⟩ := dg_of (lo := 48) (hi := 57) (by decide) (by decide) h118 (Int32.not_lt.mp h128)
          refine ab_bipush (v := 10) X d_MO_leaf_131 (by decide) ?_
          refine ab_iload X 0 d_MO_leaf_133 rfl ?_
          refine ab_imul X d_MO_leaf_135 ?_
          refine ab_top (show _ = nI (10 * nn) from pk_mul 10 nn) ?_
          refine ab_aload_n X 2 d_MO_leaf_136 rfl rfl ?_
          refine ab_iload_n X 1 d_MO_leaf_137 rfl rfl ?_
          refine ab_callV (as := [ab_I (nI (q + i))]) X (fun h => by cases h) (t_MO_at u1 (q + i) t ht (P1.fi (by decide) et) P1.1 (by omega)) lk_MO_145 d_MO_leaf_138 rfl rfl (by first | assumption | decide | (show _ < 124; omega) | (show _ < 61; omega) | (show _ < 20; omega)) ⟨by first | exact Nat.le_of_ble_eq_true rfl | (simp only [ab_rm]; omega), by first | exact Nat.le_of_ble_eq_true rfl | (simp only [ab_rm]; omega)⟩ ⟨by first | exact Nat.le_of_ble_eq_true rfl | (simp only [ab_rm]; omega), by first | exact Nat.le_of_ble_eq_true rfl | (simp only [ab_rm]; omega)⟩ (Nat.le_of_ble_eq_true rfl) (fun u138 r138 h138 => ?_)
          obtain ⟨e138, rfl⟩ := h138
          subst u138
          refine ab_iadd X d_MO_leaf_141 ?_
          refine ab_bipush (v := 48) X d_MO_leaf_142 (by decide) ?_
          refine ab_isub X d_MO_leaf_144 ?_
          refine ab_top (show _ = nI (10 * nn + dd) from by rw [← nI_add, ← ed, Int32.sub_eq_add_neg, Int32.sub_eq_add_neg, Int32.add_assoc]; rfl) ?_
          refine ab_istore4 X 1 2 3 4 d_MO_leaf_145 (by decide) rfl rfl rfl rfl rfl rfl rfl rfl ?_
          refine ab_iload X 0 d_MO_leaf_147 rfl ?_
          refine ab_if_ne X 163 d_MO_leaf_149 rfl (fun h149 => ?_) (fun h149 => ?_)
          ·
            refine ab_iinc4 X 1 0 2 3 4 d_MO_leaf_163 rfl (by decide) rfl rfl rfl rfl rfl rfl rfl rfl ?_
            refine ab_goto X 104 d_MO_leaf_166 rfl ?_
            refine ab_lv (List.forall_mem_cons.mpr ⟨List.mem_of_getElem? (i := 1) rfl, List.forall_mem_cons.mpr ⟨List.mem_of_getElem? (i := 0) rfl, List.forall_mem_cons.mpr ⟨List.mem_of_getElem? (i := 2) rfl, List.forall_mem_cons.mpr ⟨List.mem_of_getElem? (i := 3) rfl, List.forall_mem_cons.mpr ⟨List.mem_of_getElem? (i := 4) rfl, fun _ h => absurd h List.not_mem_nil⟩⟩⟩⟩⟩) ?_
            rw [show nI (q + i) + Int32.ofInt 1 = nI (q + (i + 1)) from nI_1 (q + i)]
            exact ih (i + 1) (10 * nn + dd) _ (by omega) (by rw [hpw]; omega) P1 b1 b2
          ·
            refine ab_iload_n X 1 d_MO_leaf_152 rfl rfl ?_
            refine ab_iload_n X 4 d_MO_leaf_153 rfl rfl ?_
            refine ab_iconst (v := 2) X d_MO_leaf_154 (by decide) ?_
            refine ab_iadd X d_MO_leaf_155 ?_
            refine ab_icmp_ne X 163 d_MO_leaf_156 rfl (fun h156 => ?_) (fun h156 => ?_)
            ·
              refine ab_iinc4 X 1 0 2 3 4 d_MO_leaf_163 rfl (by decide) rfl rfl rfl rfl rfl rfl rfl rfl ?_
              refine ab_goto X 104 d_MO_leaf_166 rfl ?_
              refine ab_lv (List.forall_mem_cons.mpr ⟨List.mem_of_getElem? (i := 1) rfl, List.forall_mem_cons.mpr ⟨List.mem_of_getElem? (i := 0) rfl, List.forall_mem_cons.mpr ⟨List.mem_of_getElem? (i := 2) rfl, List.forall_mem_cons.mpr ⟨List.mem_of_getElem? (i := 3) rfl, List.forall_mem_cons.mpr ⟨List.mem_of_getElem? (i := 4) rfl, fun _ h => absurd h List.not_mem_nil⟩⟩⟩⟩⟩) ?_
              rw [show nI (q + i) + Int32.ofInt 1 = nI (q + (i + 1)) from nI_1 (q + i)]
              exact ih (i + 1) (10 * nn + dd) _ (by omega) (by rw [hpw]; omega) P1 b1 b2
            ·
              refine ab_iconst (v := (-1)) X d_MO_leaf_159 (by decide) ?_
              refine ab_iload_n X 1 d_MO_leaf_160 rfl rfl ?_
              refine ab_isub X d_MO_leaf_161 ?_
              exact ab_reti X hr0 hlk d_MO_leaf_162 (fl _ (q + i) P1 b1 (fun x _ => b2 x) (by omega) ⟨_, rfl⟩)
  have b7 : ∀ {u7 : ab_S}, u7 = ab_ui u 17 0 6 (nI (Lf + 1)) → u7.1 17 0 6 = nI (Lf + 1) ∧ (∀ x, u7.1 18 2 x = u.1 18 2 x) ∧ u7.1 18 1 p1 = nI k := fun z => by rw [z]; exact ⟨by simp [ab_up], fun x => by simp [ab_up], by simpa [ab_up] using ek⟩
  refine ab_aload_n X 0 d_MO_leaf_0 rfl rfl ?_
  refine ab_dup X d_MO_leaf_1 rfl ?_
  refine ab_gI X fl_MO_30 d_MO_leaf_2 (by first | assumption | decide | (show _ < 124; omega) | (show _ < 61; omega) | (show _ < 20; omega)) (eL) ?_
  refine ab_iconst (v := 1) X d_MO_leaf_5 (by decide) ?_
  refine ab_iadd X d_MO_leaf_6 ?_
  refine ab_top (nI_1 _) ?_
  refine ab_putI X fp_MO_30 d_MO_leaf_7 (by first | assumption | decide | (show _ < 124; omega) | (show _ < 61; omega) | (show _ < 20; omega)) rfl rfl ?_
  refine ab_gen (fun u7 e7 => ?_)
  have P7 : gP [6, 102] u u7 := by rw [e7]; exact P0.ui rfl (by decide)
  obtain ⟨b1, b2, b3⟩ := b7 e7
  refine ab_iload_n X 2 d_MO_leaf_10 rfl rfl ?_
  refine ab_istore_n3 X 0 1 2 d_MO_leaf_11 rfl (by decide) rfl rfl rfl rfl rfl rfl ?_
  refine ab_aload_n X 1 d_MO_leaf_12 rfl rfl ?_
  refine ab_gR X fl_MO_33 d_MO_leaf_13 (by first | assumption | decide | (show _ < 124; omega) | (show _ < 61; omega) | (show _ < 20; omega)) (P7.1.mo7) ?_
  refine ab_iload_n X 2 d_MO_leaf_16 rfl rfl ?_
  refine ab_iald X (p1) ⟨rfl, rfl⟩ d_MO_leaf_17 (by first | assumption | decide | (show _ < 124; omega) | (show _ < 61; omega) | (show _ < 20; omega)) (rfl) (hp) (ab_ln_lt _ _) ?_
  refine ab_iconst (v := 3) X d_MO_leaf_18 (by decide) ?_
  refine ab_icmp_ge X 101 d_MO_leaf_19 rfl (fun h19 => ?_) (fun h19 => ?_)
  ·
    refine ab_iconst (v := 0) X d_MO_leaf_101 (by decide) ?_
    refine ab_istore4 X 0 1 2 3 d_MO_leaf_102 (by decide) rfl rfl rfl rfl rfl rfl rfl rfl ?_
    exact tm 3 0 0 _ rfl (by decide) P7 b1 b2
  ·
    refine ab_aload_n X 1 d_MO_leaf_22 rfl rfl ?_
    refine ab_gR X fl_MO_33 d_MO_leaf_23 (by first | assumption | decide | (show _ < 124; omega) | (show _ < 61; omega) | (show _ < 20; omega)) (P7.1.mo7) ?_
    refine ab_iload_n X 2 d_MO_leaf_26 rfl rfl ?_
    refine ab_iald X (p1) ⟨rfl, rfl⟩ d_MO_leaf_27 (by first | assumption | decide | (show _ < 124; omega) | (show _ < 61; omega) | (show _ < 20; omega)) (rfl) (hp) (ab_ln_lt _ _) ?_
    refine ab_iconst (v := 1) X d_MO_leaf_28 (by decide) ?_
    refine ab_icmp_ne X 37 d_MO_leaf_29 rfl (fun h29 => ?_) (fun h29 => ?_)
    ·
      refine ab_bipush (v := 48) X d_MO_leaf_37 (by decide) ?_
      refine ab_istore4 X 0 1 2 3 d_MO_leaf_39 (by decide) rfl rfl rfl rfl rfl rfl rfl rfl ?_
      refine ab_aload_n X 2 d_MO_leaf_41 rfl rfl ?_
      refine ab_iload_n X 4 d_MO_leaf_42 rfl rfl ?_
      refine ab_callV (as := [ab_I (nI q)]) X (fun h => by cases h) (t_MO_at u7 q t ht (P7.fi (by decide) et) P7.1 (by omega)) lk_MO_145 d_MO_leaf_43 rfl rfl (by first | assumption | decide | (show _ < 124; omega) | (show _ < 61; omega) | (show _ < 20; omega)) ⟨by first | exact Nat.le_of_ble_eq_true rfl | (simp only [ab_rm]; omega), by first | exact Nat.le_of_ble_eq_true rfl | (simp only [ab_rm]; omega)⟩ ⟨by first | exact Nat.le_of_ble_eq_true rfl | (simp only [ab_rm]; omega), by first | exact Nat.le_of_ble_eq_true rfl | (simp only [ab_rm]; omega)⟩ (Nat.le_of_ble_eq_true rfl) (fun u43 r43 h43 => ?_)
      obtain ⟨e43, rfl⟩ := h43
      subst u43
      refine ab_istore5 X 0 1 2 3 4 d_MO_leaf_46 (by decide) rfl rfl rfl rfl rfl rfl rfl rfl rfl rfl ?_
      refine ab_iload X 0 d_MO_leaf_48 rfl ?_
      refine ab_iload X 1 d_MO_leaf_50 rfl ?_
      refine ab_icmp_lt X 80 d_MO_leaf_52 rfl (fun h52 => ?_) (fun h52 => ?_)
      ·
        refine ab_iconst (v := (-1)) X d_MO_leaf_80 (by decide) ?_
        refine ab_iload_n X 5 d_MO_leaf_81 rfl rfl ?_
        refine ab_isub X d_MO_leaf_82 ?_
        exact ab_reti X hr0 hlk d_MO_leaf_83 (fl _ q P7 b1 (fun x _ => b2 x) (by omega) ⟨_, rfl⟩)
      ·
        refine ab_iload X 0 d_MO_leaf_55 rfl ?_
        refine ab_iload X 1 d_MO_leaf_57 rfl ?_
        refine ab_aload_n X 3 d_MO_leaf_59 rfl rfl ?_
        refine ab_gR X fl_MO_33 d_MO_leaf_60 (by first | assumption | decide | (show _ < 124; omega) | (show _ < 61; omega) | (show _ < 20; omega)) (P7.1.mo7) ?_
        refine ab_iload_n X 4 d_MO_leaf_63 rfl rfl ?_
        refine ab_iald X (p1) ⟨rfl, rfl⟩ d_MO_leaf_64 (by first | assumption | decide | (show _ < 124; omega) | (show _ < 61; omega) | (show _ < 20; omega)) (rfl) (hp) (ab_ln_lt _ _) ?_
        refine ab_iconst (v := 1) X d_MO_leaf_65 (by decide) ?_
        refine ab_icmp_ne X 74 d_MO_leaf_66 rfl (fun h66 => ?_) (fun h66 => ?_)
        ·
          refine ab_bipush (v := 9) X d_MO_leaf_74 (by decide) ?_
          refine ab_iadd X d_MO_leaf_76 ?_
          refine ab_icmp_le X 84 d_MO_leaf_77 rfl (fun h77 => ?_) (fun h77 => ?_)
          ·
            first | have zz := lf_a h52 h77 | have zz := lf_b h52 h77 | have zz := lf_c h52 h77 | have zz := lf_d h52 h77
            obtain ⟨dd, hd, ed⟩ := zz
            refine ab_aload_n X 3 d_MO_leaf_84 rfl rfl ?_
            refine ab_gR X fl_MO_36 d_MO_leaf_85 (by first | assumption | decide | (show _ < 124; omega) | (show _ < 61; omega) | (show _ < 20; omega)) (P7.1.mo8) ?_
            refine ab_iload_n X 4 d_MO_leaf_88 rfl rfl ?_
            refine ab_iload X 0 d_MO_leaf_89 rfl ?_
            refine ab_iload X 1 d_MO_leaf_91 rfl ?_
            refine ab_isub X d_MO_leaf_93 ?_
            refine ab_top ed ?_
            refine ab_iast X (p1) ⟨rfl, rfl⟩ d_MO_leaf_94 (by first | assumption | decide | (show _ < 124; omega) | (show _ < 61; omega) | (show _ < 20; omega)) (rfl) (hp) (ab_ln_lt _ _) ?_
            refine ab_gen (fun u94 e94 => ?_)
            have P94 : gP [6, 102] u u94 := by rw [e94]; exact P7.ui rfl (by decide)
            refine ab_iinc5 X 2 0 1 3 4 5 d_MO_leaf_95 rfl (by decide) rfl rfl rfl rfl rfl rfl rfl rfl rfl rfl ?_
            refine ab_goto X 186 d_MO_leaf_98 rfl ?_
            refine ab_lv (List.forall_mem_cons.mpr ⟨List.mem_of_getElem? (i := 0) rfl, List.forall_mem_cons.mpr ⟨List.mem_of_getElem? (i := 3) rfl, List.forall_mem_cons.mpr ⟨List.mem_of_getElem? (i := 4) rfl, List.forall_mem_cons.mpr ⟨List.mem_of_getElem? (i := 5) rfl, fun _ h => absurd h List.not_mem_nil⟩⟩⟩⟩) ?_
            rw [show nI q + Int32.ofInt 1 = nI (q + 1) from nI_1 q]
            exact K186 _ (q + 1) dd P94 (by rw [e94]; simpa [ab_up] using b1) (fun x hx => by rw [e94]; simpa [ab_up, hx] using b2 x) (by omega) (by omega) hd (by rw [e94]; simp [ab_up])
          ·
            refine ab_iconst (v := (-1)) X d_MO_leaf_80 (by decide) ?_
            refine ab_iload_n X 5 d_MO_leaf_81 rfl rfl ?_
            refine ab_isub X d_MO_leaf_82 ?_
            exact ab_reti X hr0 hlk d_MO_leaf_83 (fl _ q P7 b1 (fun x _ => b2 x) (by omega) ⟨_, rfl⟩)
        ·
          refine ab_bipush (v := 7) X d_MO_leaf_69 (by decide) ?_
          refine ab_goto X 76 d_MO_leaf_71 rfl ?_
          refine ab_iadd X d_MO_leaf_76 ?_
          refine ab_icmp_le X 84 d_MO_leaf_77 rfl (fun h77 => ?_) (fun h77 => ?_)
          ·
            first | have zz := lf_a h52 h77 | have zz := lf_b h52 h77 | have zz := lf_c h52 h77 | have zz := lf_d h52 h77
            obtain ⟨dd, hd, ed⟩ := zz
            refine ab_aload_n X 3 d_MO_leaf_84 rfl rfl ?_
            refine ab_gR X fl_MO_36 d_MO_leaf_85 (by first | assumption | decide | (show _ < 124; omega) | (show _ < 61; omega) | (show _ < 20; omega)) (P7.1.mo8) ?_
            refine ab_iload_n X 4 d_MO_leaf_88 rfl rfl ?_
            refine ab_iload X 0 d_MO_leaf_89 rfl ?_
            refine ab_iload X 1 d_MO_leaf_91 rfl ?_
            refine ab_isub X d_MO_leaf_93 ?_
            refine ab_top ed ?_
            refine ab_iast X (p1) ⟨rfl, rfl⟩ d_MO_leaf_94 (by first | assumption | decide | (show _ < 124; omega) | (show _ < 61; omega) | (show _ < 20; omega)) (rfl) (hp) (ab_ln_lt _ _) ?_
            refine ab_gen (fun u94 e94 => ?_)
            have P94 : gP [6, 102] u u94 := by rw [e94]; exact P7.ui rfl (by decide)
            refine ab_iinc5 X 2 0 1 3 4 5 d_MO_leaf_95 rfl (by decide) rfl rfl rfl rfl rfl rfl rfl rfl rfl rfl ?_
            refine ab_goto X 186 d_MO_leaf_98 rfl ?_
            refine ab_lv (List.forall_mem_cons.mpr ⟨List.mem_of_getElem? (i := 0) rfl, List.forall_mem_cons.mpr ⟨List.mem_of_getElem? (i := 3) rfl, List.forall_mem_cons.mpr ⟨List.mem_of_getElem? (i := 4) rfl, List.forall_mem_cons.mpr ⟨List.mem_of_getElem? (i := 5) rfl, fun _ h => absurd h List.not_mem_nil⟩⟩⟩⟩) ?_
            rw [show nI q + Int32.ofInt 1 = nI (q + 1) from nI_1 q]
            exact K186 _ (q + 1) dd P94 (by rw [e94]; simpa [ab_up] using b1) (fun x hx => by rw [e94]; simpa [ab_up, hx] using b2 x) (by omega) (by omega) hd (by rw [e94]; simp [ab_up])
          ·
            refine ab_iconst (v := (-1)) X d_MO_leaf_80 (by decide) ?_
            refine ab_iload_n X 5 d_MO_leaf_81 rfl rfl ?_
            refine ab_isub X d_MO_leaf_82 ?_
            exact ab_reti X hr0 hlk d_MO_leaf_83 (fl _ q P7 b1 (fun x _ => b2 x) (by omega) ⟨_, rfl⟩)
    ·
      refine ab_bipush (v := 65) X d_MO_leaf_32 (by decide) ?_
      refine ab_goto X 39 d_MO_leaf_34 rfl ?_
      refine ab_istore4 X 0 1 2 3 d_MO_leaf_39 (by decide) rfl rfl rfl rfl rfl rfl rfl rfl ?_
      refine ab_aload_n X 2 d_MO_leaf_41 rfl rfl ?_
      refine ab_iload_n X 4 d_MO_leaf_42 rfl rfl ?_
      refine ab_callV (as := [ab_I (nI q)]) X (fun h => by cases h) (t_MO_at u7 q t ht (P7.fi (by decide) et) P7.1 (by omega)) lk_MO_145 d_MO_leaf_43 rfl rfl (by first | assumption | decide | (show _ < 124; omega) | (show _ < 61; omega) | (show _ < 20; omega)) ⟨by first | exact Nat.le_of_ble_eq_true rfl | (simp only [ab_rm]; omega), by first | exact Nat.le_of_ble_eq_true rfl | (simp only [ab_rm]; omega)⟩ ⟨by first | exact Nat.le_of_ble_eq_true rfl | (simp only [ab_rm]; omega), by first | exact Nat.le_of_ble_eq_true rfl | (simp only [ab_rm]; omega)⟩ (Nat.le_of_ble_eq_true rfl) (fun u43 r43 h43 => ?_)
      obtain ⟨e43, rfl⟩ := h43
      subst u43
      refine ab_istore5 X 0 1 2 3 4 d_MO_leaf_46 (by decide) rfl rfl rfl rfl rfl rfl rfl rfl rfl rfl ?_
      refine ab_iload X 0 d_MO_leaf_48 rfl ?_
      refine ab_iload X 1 d_MO_leaf_50 rfl ?_
      refine ab_icmp_lt X 80 d_MO_leaf_52 rfl (fun h52 => ?_) (fun h52 => ?_)
      ·
        refine ab_iconst (v := (-1)) X d_MO_leaf_80 (by decide) ?_
        refine ab_iload_n X 5 d_MO_leaf_81 rfl rfl ?_
        refine ab_isub X d_MO_leaf_82 ?_
        exact ab_reti X hr0 hlk d_MO_leaf_83 (fl _ q P7 b1 (fun x _ => b2 x) (by omega) ⟨_, rfl⟩)
      ·
        refine ab_iload X 0 d_MO_leaf_55 rfl ?_
        refine ab_iload X 1 d_MO_leaf_57 rfl ?_
        refine ab_aload_n X 3 d_MO_leaf_59 rfl rfl ?_
        refine ab_gR X fl_MO_33 d_MO_leaf_60 (by first | assumption | decide | (show _ < 124; omega) | (show _ < 61; omega) | (show _ < 20; omega)) (P7.1.mo7) ?_
        refine ab_iload_n X 4 d_MO_leaf_63 rfl rfl ?_
        refine ab_iald X (p1) ⟨rfl, rfl⟩ d_MO_leaf_64 (by first | assumption | decide | (show _ < 124; omega) | (show _ < 61; omega) | (show _ < 20; omega)) (rfl) (hp) (ab_ln_lt _ _) ?_
        refine ab_iconst (v := 1) X d_MO_leaf_65 (by decide) ?_
        refine ab_icmp_ne X 74 d_MO_leaf_66 rfl (fun h66 => ?_) (fun h66 => ?_)
        ·
          refine ab_bipush (v := 9) X d_MO_leaf_74 (by decide) ?_
          refine ab_iadd X d_MO_leaf_76 ?_
          refine ab_icmp_le X 84 d_MO_leaf_77 rfl (fun h77 => ?_) (fun h77 => ?_)
          ·
            first | have zz := lf_a h52 h77 | have zz := lf_b h52 h77 | have zz := lf_c h52 h77 | have zz := lf_d h52 h77
            obtain ⟨dd, hd, ed⟩ := zz
            refine ab_aload_n X 3 d_MO_leaf_84 rfl rfl ?_
            refine ab_gR X fl_MO_36 d_MO_leaf_85 (by first | assumption | decide | (show _ < 124; omega) | (show _ < 61; omega) | (show _ < 20; omega)) (P7.1.mo8) ?_
            refine ab_iload_n X 4 d_MO_leaf_88 rfl rfl ?_
            refine ab_iload X 0 d_MO_leaf_89 rfl ?_
            refine ab_iload X 1 d_MO_leaf_91 rfl ?_
            refine ab_isub X d_MO_leaf_93 ?_
            refine ab_top ed ?_
            refine ab_iast X (p1) ⟨rfl, rfl⟩ d_MO_leaf_94 (by first | assumption | decide | (show _ < 124; omega) | (show _ < 61; omega) | (show _ < 20; omega)) (rfl) (hp) (ab_ln_lt _ _) ?_
            refine ab_gen (fun u94 e94 => ?_)
            have P94 : gP [6, 102] u u94 := by rw [e94]; exact P7.ui rfl (by decide)
            refine ab_iinc5 X 2 0 1 3 4 5 d_MO_leaf_95 rfl (by decide) rfl rfl rfl rfl rfl rfl rfl rfl rfl rfl ?_
            refine ab_goto X 186 d_MO_leaf_98 rfl ?_
            refine ab_lv (List.forall_mem_cons.mpr ⟨List.mem_of_getElem? (i := 0) rfl, List.forall_mem_cons.mpr ⟨List.mem_of_getElem? (i := 3) rfl, List.forall_mem_cons.mpr ⟨List.mem_of_getElem? (i := 4) rfl, List.forall_mem_cons.mpr ⟨List.mem_of_getElem? (i := 5) rfl, fun _ h => absurd h List.not_mem_nil⟩⟩⟩⟩) ?_
            rw [show nI q + Int32.ofInt 1 = nI (q + 1) from nI_1 q]
            exact K186 _ (q + 1) dd P94 (by rw [e94]; simpa [ab_up] using b1) (fun x hx => by rw [e94]; simpa [ab_up, hx] using b2 x) (by omega) (by omega) hd (by rw [e94]; simp [ab_up])
          ·
            refine ab_iconst (v := (-1)) X d_MO_leaf_80 (by decide) ?_
            refine ab_iload_n X 5 d_MO_leaf_81 rfl rfl ?_
            refine ab_isub X d_MO_leaf_82 ?_
            exact ab_reti X hr0 hlk d_MO_leaf_83 (fl _ q P7 b1 (fun x _ => b2 x) (by omega) ⟨_, rfl⟩)
        ·
          refine ab_bipush (v := 7) X d_MO_leaf_69 (by decide) ?_
          refine ab_goto X 76 d_MO_leaf_71 rfl ?_
          refine ab_iadd X d_MO_leaf_76 ?_
          refine ab_icmp_le X 84 d_MO_leaf_77 rfl (fun h77 => ?_) (fun h77 => ?_)
          ·
            first | have zz := lf_a h52 h77 | have zz := lf_b h52 h77 | have zz := lf_c h52 h77 | have zz := lf_d h52 h77
            obtain ⟨dd, hd, ed⟩ := zz
            refine ab_aload_n X 3 d_MO_leaf_84 rfl rfl ?_
            refine ab_gR X fl_MO_36 d_MO_leaf_85 (by first | assumption | decide | (show _ < 124; omega) | (show _ < 61; omega) | (show _ < 20; omega)) (P7.1.mo8) ?_
            refine ab_iload_n X 4 d_MO_leaf_88 rfl rfl ?_
            refine ab_iload X 0 d_MO_leaf_89 rfl ?_
            refine ab_iload X 1 d_MO_leaf_91 rfl ?_
            refine ab_isub X d_MO_leaf_93 ?_
            refine ab_top ed ?_
            refine ab_iast X (p1) ⟨rfl, rfl⟩ d_MO_leaf_94 (by first | assumption | decide | (show _ < 124; omega) | (show _ < 61; omega) | (show _ < 20; omega)) (rfl) (hp) (ab_ln_lt _ _) ?_
            refine ab_gen (fun u94 e94 => ?_)
            have P94 : gP [6, 102] u u94 := by rw [e94]; exact P7.ui rfl (by decide)
            refine ab_iinc5 X 2 0 1 3 4 5 d_MO_leaf_95 rfl (by decide) rfl rfl rfl rfl rfl rfl rfl rfl rfl rfl ?_
            refine ab_goto X 186 d_MO_leaf_98 rfl ?_
            refine ab_lv (List.forall_mem_cons.mpr ⟨List.mem_of_getElem? (i := 0) rfl, List.forall_mem_cons.mpr ⟨List.mem_of_getElem? (i := 3) rfl, List.forall_mem_cons.mpr ⟨List.mem_of_getElem? (i := 4) rfl, List.forall_mem_cons.mpr ⟨List.mem_of_getElem? (i := 5) rfl, fun _ h => absurd h List.not_mem_nil⟩⟩⟩⟩) ?_
            rw [show nI q + Int32.ofInt 1 = nI (q + 1) from nI_1 q]
            exact K186 _ (q + 1) dd P94 (by rw [e94]; simpa [ab_up] using b1) (fun x hx => by rw [e94]; simpa [ab_up, hx] using b2 x) (by omega) (by omega) hd (by rw [e94]; simp [ab_up])
          ·
            refine ab_iconst (v := (-1)) X d_MO_leaf_80 (by decide) ?_
            refine ab_iload_n X 5 d_MO_leaf_81 rfl rfl ?_
            refine ab_isub X d_MO_leaf_82 ?_
            exact ab_reti X hr0 hlk d_MO_leaf_83 (fl _ q P7 b1 (fun x _ => b2 x) (by omega) ⟨_, rfl⟩)
end SaMParse

