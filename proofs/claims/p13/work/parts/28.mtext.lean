/-! The reference's text, and that both answer alike. -/
def tm_st (q : ab_S × Nat × Bool) (c : Int32) : ab_S × Nat × Bool :=
  if c = 0 then q else if c < 33 ∨ 126 < c ∨ q.2.1 = 100 then (ab_ui q.1 17 0 42 1, q.2.1, true) else (ab_ui (ab_ui q.1 18 0 q.2.1 c) 17 0 41 (nI (q.2.1 + 1)), q.2.1 + 1, q.2.2)
def tm_run (cs : List Int32) (q : ab_S × Nat × Bool) : ab_S × Nat × Bool := cs.foldl tm_st q
def tm_z (b : Bool) : Int32 := if b = true then 1 else 0
/-- the state knows its letters and whether one was bad -/
def tm_ok (q : ab_S × Nat × Bool) : Prop := q.1.1 17 0 41 = nI q.2.1 ∧ q.1.1 17 0 42 = tm_z q.2.2 ∧ q.2.1 ≤ 100
theorem tm_st0 {q : ab_S × Nat × Bool} {c : Int32} (h : c = 0) : tm_st q c = q := if_pos h
theorem tm_stb {q : ab_S × Nat × Bool} {c : Int32} (h : ¬ c = 0) (hb : c < 33 ∨ 126 < c ∨ q.2.1 = 100) : tm_st q c = (ab_ui q.1 17 0 42 1, q.2.1, true) := by unfold tm_st; rw [if_neg h, if_pos hb]
theorem tm_stg {q : ab_S × Nat × Bool} {c : Int32} (h : ¬ c = 0) (hb : ¬ (c < 33 ∨ 126 < c ∨ q.2.1 = 100)) : tm_st q c = (ab_ui (ab_ui q.1 18 0 q.2.1 c) 17 0 41 (nI (q.2.1 + 1)), q.2.1 + 1, q.2.2) := by unfold tm_st; rw [if_neg h, if_neg hb]
theorem tm_st_ok {q : ab_S × Nat × Bool} {c : Int32} (hq : tm_ok q) : tm_ok (tm_st q c) ∧ (tm_st q c).1.2 = q.1.2 := by
  by_cases h : c = 0
  · rw [tm_st0 h]; exact ⟨hq, rfl⟩
  · by_cases hb : c < 33 ∨ 126 < c ∨ q.2.1 = 100
    · rw [tm_stb h hb]
      exact ⟨⟨by simpa [ab_up] using hq.1, by simp [ab_up, tm_z], hq.2.2⟩, rfl⟩
    · rw [tm_stg h hb]
      have : q.2.1 ≠ 100 := fun e => hb (Or.inr (Or.inr e))
      have h3 := hq.2.2
      exact ⟨⟨by simp [ab_up], by simpa [ab_up] using hq.2.1, by show q.2.1 + 1 ≤ 100; omega⟩, rfl⟩
theorem tm_run_ok (cs : List Int32) : ∀ q : ab_S × Nat × Bool, tm_ok q → tm_ok (tm_run cs q) ∧ (tm_run cs q).1.2 = q.1.2 := by
  induction cs with
  | nil => exact fun q h => ⟨h, rfl⟩
  | cons c cs ih =>
    intro q h
    have a := tm_st_ok (c := c) h
    have b := ih _ a.1
    exact ⟨b.1, b.2.trans a.2⟩
theorem tm_app (a b : List Int32) (q : ab_S × Nat × Bool) : tm_run (a ++ b) q = tm_run b (tm_run a q) := List.foldl_append
/-- how the two stand to each other -/
def tx_R (o : Option Nat) (k : Nat) (b : Bool) : Prop := match o with
  | none => b = true
  | some j => (j ≤ 100 ∧ k = j ∧ b = false) ∨ (100 < j ∧ b = true)
theorem tx_rel (cs : List Int32) : ∀ (q : ab_S × Option Nat) (r : ab_S × Nat × Bool), tx_R q.2 r.2.1 r.2.2 → tx_R (tc_run cs q).2 (tm_run cs r).2.1 (tm_run cs r).2.2 := by
  induction cs with
  | nil => exact fun q r h => h
  | cons c cs ih =>
    intro q r h
    refine ih (tc_st q.1 q.2 c) (tm_st r c) ?_
    obtain ⟨u, o⟩ := q
    obtain ⟨w, k, b⟩ := r
    dsimp only at h ⊢
    by_cases h0 : c = 0
    · rw [tm_st0 h0]
      cases o with
      | none => exact h
      | some j => rw [tc_st0 h0]; exact h
    · by_cases hb : c < 33 ∨ 126 < c ∨ k = 100
      · rw [tm_stb (q := (w, k, b)) h0 hb]
        cases o with
        | none => rfl
        | some j =>
          by_cases hb2 : c < 33 ∨ 126 < c
          · rw [tc_stb h0 hb2]; rfl
          · rw [tc_stg h0 hb2]
            have hk : k = 100 := hb.elim (fun z => absurd (Or.inl z) hb2) fun z => z.elim (fun z => absurd (Or.inr z) hb2) id
            refine Or.inr ⟨?_, rfl⟩
            rcases h with h | h
            · have := h.2.1; omega
            · have := h.1; omega
      · rw [tm_stg (q := (w, k, b)) h0 hb]
        have hb2 : ¬ (c < 33 ∨ 126 < c) := fun z => hb (z.imp id Or.inl)
        have hk : k ≠ 100 := fun z => hb (Or.inr (Or.inr z))
        cases o with
        | none => exact h
        | some j =>
          rw [tc_stg h0 hb2]
          rcases h with ⟨a1, a2, a3⟩ | ⟨a1, a2⟩
          · exact Or.inl ⟨by omega, by show k + 1 = j + 1; omega, a3⟩
          · exact Or.inr ⟨by omega, a2⟩
theorem tx_alike {o : Option Nat} {k : Nat} {b : Bool} (h : tx_R o k b) : tx_a o = !b := by
  cases o with
  | none =>
    have : b = true := h
    rw [this]; rfl
  | some j =>
    rcases h with ⟨a1, a2, a3⟩ | ⟨a1, a2⟩
    · rw [a3]; show decide (j ≤ 100) = true; exact decide_eq_true a1
    · rw [a2]; show decide (j ≤ 100) = false; exact decide_eq_false (by omega)
section AbMText
variable {l : Launch} {D : va_G} {ca : Nat → ClassId} {N : Nat → Nat}
abbrev b_MO_bytesOf : ByteArray := prog_10_method_55_code
def y_MO_bytesOf : MethodName := ⟨"PolicyForgeModel", "bytesOf", "(I)V"⟩
theorem d_MO_bytesOf_0 : decode b_MO_bytesOf 0 = .ok (.bipush 24, 2) := by decide +kernel
theorem d_MO_bytesOf_2 : decode b_MO_bytesOf 2 = .ok (.istore_n 2, 1) := by decide +kernel
theorem d_MO_bytesOf_3 : decode b_MO_bytesOf 3 = .ok (.iload_n 2, 1) := by decide +kernel
theorem d_MO_bytesOf_4 : decode b_MO_bytesOf 4 = .ok (.ifCond .lt 70, 3) := by decide +kernel
theorem d_MO_bytesOf_7 : decode b_MO_bytesOf 7 = .ok (.iload_n 1, 1) := by decide +kernel
theorem d_MO_bytesOf_8 : decode b_MO_bytesOf 8 = .ok (.iload_n 2, 1) := by decide +kernel
theorem d_MO_bytesOf_9 : decode b_MO_bytesOf 9 = .ok (.ishr, 1) := by decide +kernel
theorem d_MO_bytesOf_10 : decode b_MO_bytesOf 10 = .ok (.sipush 255, 3) := by decide +kernel
theorem d_MO_bytesOf_13 : decode b_MO_bytesOf 13 = .ok (.iand, 1) := by decide +kernel
theorem d_MO_bytesOf_14 : decode b_MO_bytesOf 14 = .ok (.istore_n 3, 1) := by decide +kernel
theorem d_MO_bytesOf_15 : decode b_MO_bytesOf 15 = .ok (.iload_n 3, 1) := by decide +kernel
theorem d_MO_bytesOf_16 : decode b_MO_bytesOf 16 = .ok (.ifCond .eq 52, 3) := by decide +kernel
theorem d_MO_bytesOf_19 : decode b_MO_bytesOf 19 = .ok (.iload_n 3, 1) := by decide +kernel
theorem d_MO_bytesOf_20 : decode b_MO_bytesOf 20 = .ok (.bipush 33, 2) := by decide +kernel
theorem d_MO_bytesOf_22 : decode b_MO_bytesOf 22 = .ok (.if_icmp .lt 18, 3) := by decide +kernel
theorem d_MO_bytesOf_25 : decode b_MO_bytesOf 25 = .ok (.iload_n 3, 1) := by decide +kernel
theorem d_MO_bytesOf_26 : decode b_MO_bytesOf 26 = .ok (.bipush 126, 2) := by decide +kernel
theorem d_MO_bytesOf_28 : decode b_MO_bytesOf 28 = .ok (.if_icmp .gt 12, 3) := by decide +kernel
theorem d_MO_bytesOf_31 : decode b_MO_bytesOf 31 = .ok (.aload_n 0, 1) := by decide +kernel
theorem d_MO_bytesOf_32 : decode b_MO_bytesOf 32 = .ok (.getfield 135, 3) := by decide +kernel
theorem d_MO_bytesOf_35 : decode b_MO_bytesOf 35 = .ok (.bipush 100, 2) := by decide +kernel
theorem d_MO_bytesOf_37 : decode b_MO_bytesOf 37 = .ok (.if_icmp .ne 11, 3) := by decide +kernel
theorem d_MO_bytesOf_40 : decode b_MO_bytesOf 40 = .ok (.aload_n 0, 1) := by decide +kernel
theorem d_MO_bytesOf_41 : decode b_MO_bytesOf 41 = .ok (.iconst 1, 1) := by decide +kernel
theorem d_MO_bytesOf_42 : decode b_MO_bytesOf 42 = .ok (.putfield 138, 3) := by decide +kernel
theorem d_MO_bytesOf_45 : decode b_MO_bytesOf 45 = .ok (.goto 23, 3) := by decide +kernel
theorem d_MO_bytesOf_48 : decode b_MO_bytesOf 48 = .ok (.aload_n 0, 1) := by decide +kernel
theorem d_MO_bytesOf_49 : decode b_MO_bytesOf 49 = .ok (.getfield 13, 3) := by decide +kernel
theorem d_MO_bytesOf_52 : decode b_MO_bytesOf 52 = .ok (.aload_n 0, 1) := by decide +kernel
theorem d_MO_bytesOf_53 : decode b_MO_bytesOf 53 = .ok (.getfield 135, 3) := by decide +kernel
theorem d_MO_bytesOf_56 : decode b_MO_bytesOf 56 = .ok (.iload_n 3, 1) := by decide +kernel
theorem d_MO_bytesOf_57 : decode b_MO_bytesOf 57 = .ok (.iastore, 1) := by decide +kernel
theorem d_MO_bytesOf_58 : decode b_MO_bytesOf 58 = .ok (.aload_n 0, 1) := by decide +kernel
theorem d_MO_bytesOf_59 : decode b_MO_bytesOf 59 = .ok (.dup, 1) := by decide +kernel
theorem d_MO_bytesOf_60 : decode b_MO_bytesOf 60 = .ok (.getfield 135, 3) := by decide +kernel
theorem d_MO_bytesOf_63 : decode b_MO_bytesOf 63 = .ok (.iconst 1, 1) := by decide +kernel
theorem d_MO_bytesOf_64 : decode b_MO_bytesOf 64 = .ok (.iadd, 1) := by decide +kernel
theorem d_MO_bytesOf_65 : decode b_MO_bytesOf 65 = .ok (.putfield 135, 3) := by decide +kernel
theorem d_MO_bytesOf_68 : decode b_MO_bytesOf 68 = .ok (.iinc 2 (-8), 3) := by decide +kernel
theorem d_MO_bytesOf_71 : decode b_MO_bytesOf 71 = .ok (.goto (-68), 3) := by decide +kernel
theorem d_MO_bytesOf_74 : decode b_MO_bytesOf 74 = .ok (.return_, 1) := by decide +kernel
theorem fl_MO_135 : ab_fl "PolicyForgeModel" 135 17 41 0 := ⟨rfl, R_MO, T_MO, 44, rfl, uw_MO, by decide, rfl, (ab_in 967 (by decide +kernel) (by decide +kernel))⟩
theorem fl_MO_13 : ab_fl "PolicyForgeModel" 13 17 1 1 := ⟨rfl, R_MO, T_MO, 44, rfl, uw_MO, by decide, rfl, (ab_in 927 (by decide +kernel) (by decide +kernel))⟩
set_option maxRecDepth 100000 in
set_option maxHeartbeats 4000000 in
theorem c_MO_bytesOf (q0 : ab_S × Nat × Bool) (x : Int32) (h17 : 0 < N 17) (h18 : 0 < N 18) (e0 : q0.1.2.1 17 0 1 = some (18, 0)) (hok : tm_ok q0) : ab_C false l D ca y_MO_bytesOf b_MO_bytesOf 4 none 0 N q0.1 [ab_O 17 0, ab_I x] (fun u' v => u' = (tm_run (tb_l x) q0).1 ∧ v = none) := by
  refine ab_C.of (by decide) (Nat.le_of_ble_eq_true rfl) ?_
  intro p e s m args below meth c ad X hZ hr0 hlk
  have fin : ∀ (sh : Int32), sh < 0 → ∀ q : ab_S × Nat × Bool, tm_run [] q = tm_run (tb_l x) q0 → ab_J p l e (ab_rm 0 0 0) s m args below meth c (MQ below (ab_Q D ca ad N s.heap.size (fun u' v => u' = (tm_run (tb_l x) q0).1 ∧ v = none)) args s 0 0 (ab_A ad N s.heap.size)) D ca (ab_A ad N s.heap.size) s.heap 4 0 0 ad N q.1 3 [(2, ab_I sh), (0, ab_O 17 0), (1, ab_I x)] [] := by
    intro sh hs q hq
    refine ab_iload_n X 0 d_MO_bytesOf_3 rfl rfl ?_
    refine ab_if_lt X 74 d_MO_bytesOf_4 rfl (fun _ => ?_) (fun hb => absurd (hs) hb)
    exact ab_retv X hr0 hlk d_MO_bytesOf_74 ⟨by rw [← hq]; rfl, rfl⟩
  have stp : ∀ (sh b : Int32) (cs : List Int32), ¬ sh < 0 → x >>> (sh &&& 31) &&& 255 = b → (∀ q : ab_S × Nat × Bool, tm_run cs q = tm_run (tb_l x) q0 → tm_ok q → q.1.2 = q0.1.2 → ab_J p l e (ab_rm 0 0 0) s m args below meth c (MQ below (ab_Q D ca ad N s.heap.size (fun u' v => u' = (tm_run (tb_l x) q0).1 ∧ v = none)) args s 0 0 (ab_A ad N s.heap.size)) D ca (ab_A ad N s.heap.size) s.heap 4 0 0 ad N q.1 3 [(2, ab_I (sh + Int32.ofInt (-8))), (0, ab_O 17 0), (1, ab_I x)] []) → ∀ q : ab_S × Nat × Bool, tm_run (b :: cs) q = tm_run (tb_l x) q0 → tm_ok q → q.1.2 = q0.1.2 → ab_J p l e (ab_rm 0 0 0) s m args below meth c (MQ below (ab_Q D ca ad N s.heap.size (fun u' v => u' = (tm_run (tb_l x) q0).1 ∧ v = none)) args s 0 0 (ab_A ad N s.heap.size)) D ca (ab_A ad N s.heap.size) s.heap 4 0 0 ad N q.1 3 [(2, ab_I sh), (0, ab_O 17 0), (1, ab_I x)] [] := by
    intro sh b cs hs hb ih q hq hk hu
    have hT : tm_run cs (tm_st q b) = tm_run (tb_l x) q0 := hq
    have hk2 := tm_st_ok (c := b) hk
    have ih2 := ih (tm_st q b) hT hk2.1 (hk2.2.trans hu)
    have e1 : q.1.2.1 17 0 1 = some (18, 0) := by rw [hu]; exact e0
    refine ab_iload_n X 0 d_MO_bytesOf_3 rfl rfl ?_
    refine ab_if_lt X 74 d_MO_bytesOf_4 rfl (fun hb => absurd hb (hs)) (fun _ => ?_)
    refine ab_iload_n X 2 d_MO_bytesOf_7 rfl rfl ?_
    refine ab_iload_n X 0 d_MO_bytesOf_8 rfl rfl ?_
    refine ab_ishr X d_MO_bytesOf_9 ?_
    refine ab_sipush (v := 255) X d_MO_bytesOf_10 (by decide) ?_
    refine ab_iand X d_MO_bytesOf_13 ?_
    refine ab_top hb ?_
    have h3 := hk.2.2
    have bad : (b < 33 ∨ 126 < b ∨ q.2.1 = 100) → ¬ b = 0 → ab_J p l e (ab_rm 0 0 0) s m args below meth c (MQ below (ab_Q D ca ad N s.heap.size (fun u' v => u' = (tm_run (tb_l x) q0).1 ∧ v = none)) args s 0 0 (ab_A ad N s.heap.size)) D ca (ab_A ad N s.heap.size) s.heap 4 0 0 ad N q.1 40 [(3, ab_I b), (2, ab_I sh), (0, ab_O 17 0), (1, ab_I x)] [] := by
      intro hc h0
      rw [tm_stb h0 hc] at ih2
      refine ab_aload_n X 2 d_MO_bytesOf_40 rfl rfl ?_
      refine ab_iconst (v := 1) X d_MO_bytesOf_41 (by decide) ?_
      refine ab_putI X fp_MO_138 d_MO_bytesOf_42 (by first | assumption | decide) rfl rfl ?_
      refine ab_goto X 68 d_MO_bytesOf_45 rfl ?_
      refine ab_iinc3 X 1 0 2 3 d_MO_bytesOf_68 rfl (by decide) rfl rfl rfl rfl rfl rfl ?_
      refine ab_goto X 3 d_MO_bytesOf_71 rfl ?_
      refine ab_lv (List.forall_mem_cons.mpr ⟨List.mem_of_getElem? (i := 0) rfl, List.forall_mem_cons.mpr ⟨List.mem_of_getElem? (i := 2) rfl, List.forall_mem_cons.mpr ⟨List.mem_of_getElem? (i := 3) rfl, fun _ h => absurd h List.not_mem_nil⟩⟩⟩) ?_
      exact ih2
    by_cases c0 : b = 0
    · rw [tm_st0 c0] at ih2
      refine ab_istore_n3 X 0 1 2 d_MO_bytesOf_14 rfl (by decide) rfl rfl rfl rfl rfl rfl ?_
      refine ab_iload_n X 0 d_MO_bytesOf_15 rfl rfl ?_
      refine ab_if_eq X 68 d_MO_bytesOf_16 rfl (fun _ => ?_) (fun hb => absurd (c0) hb)
      refine ab_iinc3 X 1 0 2 3 d_MO_bytesOf_68 rfl (by decide) rfl rfl rfl rfl rfl rfl ?_
      refine ab_goto X 3 d_MO_bytesOf_71 rfl ?_
      refine ab_lv (List.forall_mem_cons.mpr ⟨List.mem_of_getElem? (i := 0) rfl, List.forall_mem_cons.mpr ⟨List.mem_of_getElem? (i := 2) rfl, List.forall_mem_cons.mpr ⟨List.mem_of_getElem? (i := 3) rfl, fun _ h => absurd h List.not_mem_nil⟩⟩⟩) ?_
      exact ih2
    · by_cases c33 : b < 33
      ·
        refine ab_istore_n3 X 0 1 2 d_MO_bytesOf_14 rfl (by decide) rfl rfl rfl rfl rfl rfl ?_
        refine ab_iload_n X 0 d_MO_bytesOf_15 rfl rfl ?_
        refine ab_if_eq X 68 d_MO_bytesOf_16 rfl (fun hb => absurd hb (c0)) (fun _ => ?_)
        refine ab_iload_n X 0 d_MO_bytesOf_19 rfl rfl ?_
        refine ab_bipush (v := 33) X d_MO_bytesOf_20 (by decide) ?_
        refine ab_icmp_lt X 40 d_MO_bytesOf_22 rfl (fun _ => ?_) (fun hb => absurd (c33) hb)
        exact bad (Or.inl c33) c0
      · by_cases c126 : 126 < b
        ·
          refine ab_istore_n3 X 0 1 2 d_MO_bytesOf_14 rfl (by decide) rfl rfl rfl rfl rfl rfl ?_
          refine ab_iload_n X 0 d_MO_bytesOf_15 rfl rfl ?_
          refine ab_if_eq X 68 d_MO_bytesOf_16 rfl (fun hb => absurd hb (c0)) (fun _ => ?_)
          refine ab_iload_n X 0 d_MO_bytesOf_19 rfl rfl ?_
          refine ab_bipush (v := 33) X d_MO_bytesOf_20 (by decide) ?_
          refine ab_icmp_lt X 40 d_MO_bytesOf_22 rfl (fun hb => absurd hb (c33)) (fun _ => ?_)
          refine ab_iload_n X 0 d_MO_bytesOf_25 rfl rfl ?_
          refine ab_bipush (v := 126) X d_MO_bytesOf_26 (by decide) ?_
          refine ab_icmp_gt X 40 d_MO_bytesOf_28 rfl (fun _ => ?_) (fun hb => absurd (c126) hb)
          exact bad (Or.inr (Or.inl c126)) c0
        · by_cases ck : q.2.1 = 100
          ·
            refine ab_istore_n3 X 0 1 2 d_MO_bytesOf_14 rfl (by decide) rfl rfl rfl rfl rfl rfl ?_
            refine ab_iload_n X 0 d_MO_bytesOf_15 rfl rfl ?_
            refine ab_if_eq X 68 d_MO_bytesOf_16 rfl (fun hb => absurd hb (c0)) (fun _ => ?_)
            refine ab_iload_n X 0 d_MO_bytesOf_19 rfl rfl ?_
            refine ab_bipush (v := 33) X d_MO_bytesOf_20 (by decide) ?_
            refine ab_icmp_lt X 40 d_MO_bytesOf_22 rfl (fun hb => absurd hb (c33)) (fun _ => ?_)
            refine ab_iload_n X 0 d_MO_bytesOf_25 rfl rfl ?_
            refine ab_bipush (v := 126) X d_MO_bytesOf_26 (by decide) ?_
            refine ab_icmp_gt X 40 d_MO_bytesOf_28 rfl (fun hb => absurd hb (c126)) (fun _ => ?_)
            refine ab_aload_n X 2 d_MO_bytesOf_31 rfl rfl ?_
            refine ab_gI X fl_MO_135 d_MO_bytesOf_32 (by first | assumption | decide) (hk.1) ?_
            refine ab_bipush (v := 100) X d_MO_bytesOf_35 (by decide) ?_
            refine ab_icmp_ne X 48 d_MO_bytesOf_37 rfl (fun hb => absurd ((by rw [ck]; rfl)) hb) (fun _ => ?_)
            exact bad (Or.inr (Or.inr ck)) c0
          · have hg : ¬ (b < 33 ∨ 126 < b ∨ q.2.1 = 100) := fun h => h.elim c33 fun h => h.elim c126 ck
            rw [tm_stg c0 hg] at ih2
            refine ab_istore_n3 X 0 1 2 d_MO_bytesOf_14 rfl (by decide) rfl rfl rfl rfl rfl rfl ?_
            refine ab_iload_n X 0 d_MO_bytesOf_15 rfl rfl ?_
            refine ab_if_eq X 68 d_MO_bytesOf_16 rfl (fun hb => absurd hb (c0)) (fun _ => ?_)
            refine ab_iload_n X 0 d_MO_bytesOf_19 rfl rfl ?_
            refine ab_bipush (v := 33) X d_MO_bytesOf_20 (by decide) ?_
            refine ab_icmp_lt X 40 d_MO_bytesOf_22 rfl (fun hb => absurd hb (c33)) (fun _ => ?_)
            refine ab_iload_n X 0 d_MO_bytesOf_25 rfl rfl ?_
            refine ab_bipush (v := 126) X d_MO_bytesOf_26 (by decide) ?_
            refine ab_icmp_gt X 40 d_MO_bytesOf_28 rfl (fun hb => absurd hb (c126)) (fun _ => ?_)
            refine ab_aload_n X 2 d_MO_bytesOf_31 rfl rfl ?_
            refine ab_gI X fl_MO_135 d_MO_bytesOf_32 (by first | assumption | decide) (hk.1) ?_
            refine ab_bipush (v := 100) X d_MO_bytesOf_35 (by decide) ?_
            refine ab_icmp_ne X 48 d_MO_bytesOf_37 rfl (fun _ => ?_) (fun hb => absurd hb ((fun h => ck ((nI_eq (b := 100) (by omega) (by decide)).mp h))))
            refine ab_aload_n X 2 d_MO_bytesOf_48 rfl rfl ?_
            refine ab_gR X fl_MO_13 d_MO_bytesOf_49 (by first | assumption | decide) (e1) ?_
            refine ab_aload_n X 2 d_MO_bytesOf_52 rfl rfl ?_
            refine ab_gI X fl_MO_135 d_MO_bytesOf_53 (by first | assumption | decide) (hk.1) ?_
            refine ab_iload_n X 0 d_MO_bytesOf_56 rfl rfl ?_
            refine ab_iast X (q.2.1) ⟨rfl, rfl⟩ d_MO_bytesOf_57 (by first | assumption | decide) (rfl) (show q.2.1 < 100 by omega) (ab_ln_lt _ _) ?_
            refine ab_aload_n X 2 d_MO_bytesOf_58 rfl rfl ?_
            refine ab_dup X d_MO_bytesOf_59 rfl ?_
            refine ab_gI X fl_MO_135 d_MO_bytesOf_60 (by first | assumption | decide) ((show _ = nI q.2.1 by simpa [ab_up] using hk.1)) ?_
            refine ab_iconst (v := 1) X d_MO_bytesOf_63 (by decide) ?_
            refine ab_iadd X d_MO_bytesOf_64 ?_
            refine ab_top (nI_1 _) ?_
            refine ab_putI X fp_MO_135 d_MO_bytesOf_65 (by first | assumption | decide) rfl rfl ?_
            refine ab_iinc3 X 1 0 2 3 d_MO_bytesOf_68 rfl (by decide) rfl rfl rfl rfl rfl rfl ?_
            refine ab_goto X 3 d_MO_bytesOf_71 rfl ?_
            refine ab_lv (List.forall_mem_cons.mpr ⟨List.mem_of_getElem? (i := 0) rfl, List.forall_mem_cons.mpr ⟨List.mem_of_getElem? (i := 2) rfl, List.forall_mem_cons.mpr ⟨List.mem_of_getElem? (i := 3) rfl, fun _ h => absurd h List.not_mem_nil⟩⟩⟩) ?_
            exact ih2
  refine ab_bipush (v := 24) X d_MO_bytesOf_0 (by decide) ?_
  refine ab_istore_n2 X 0 1 d_MO_bytesOf_2 rfl (by decide) rfl rfl rfl rfl ?_
  refine stp 24 (tb_b x 24) [tb_b x 16, tb_b x 8, tb_b x 0] (by decide) (tb_s24 x) (fun q1 a1 b1 d1 => ?_) q0 rfl hok rfl
  refine stp (24 + Int32.ofInt (-8)) (tb_b x 16) [tb_b x 8, tb_b x 0] (by decide) (by rw [show (24 + Int32.ofInt (-8) : Int32) = 16 by decide]; exact tb_s16 x) (fun q2 a2 b2 d2 => ?_) q1 a1 b1 d1
  refine stp (24 + Int32.ofInt (-8) + Int32.ofInt (-8)) (tb_b x 8) [tb_b x 0] (by decide) (by rw [show (24 + Int32.ofInt (-8) + Int32.ofInt (-8) : Int32) = 8 by decide]; exact tb_s8 x) (fun q3 a3 b3 d3 => ?_) q2 a2 b2 d2
  refine stp (24 + Int32.ofInt (-8) + Int32.ofInt (-8) + Int32.ofInt (-8)) (tb_b x 0) [] (by decide) (by rw [show (24 + Int32.ofInt (-8) + Int32.ofInt (-8) + Int32.ofInt (-8) : Int32) = 0 by decide]; exact tb_s0 x) (fun q4 a4 b4 d4 => ?_) q3 a3 b3 d3
  exact fin _ (by decide) q4 a4
abbrev b_MO_text : ByteArray := prog_10_method_56_code
def y_MO_text : MethodName := ⟨"PolicyForgeModel", "text", "(IIIII)Z"⟩
theorem d_MO_text_0 : decode b_MO_text 0 = .ok (.aload_n 0, 1) := by decide +kernel
theorem d_MO_text_1 : decode b_MO_text 1 = .ok (.iconst 0, 1) := by decide +kernel
theorem d_MO_text_2 : decode b_MO_text 2 = .ok (.putfield 7, 3) := by decide +kernel
theorem d_MO_text_5 : decode b_MO_text 5 = .ok (.aload_n 0, 1) := by decide +kernel
theorem d_MO_text_6 : decode b_MO_text 6 = .ok (.aload_n 0, 1) := by decide +kernel
theorem d_MO_text_7 : decode b_MO_text 7 = .ok (.getfield 17, 3) := by decide +kernel
theorem d_MO_text_10 : decode b_MO_text 10 = .ok (.putfield 135, 3) := by decide +kernel
theorem d_MO_text_13 : decode b_MO_text 13 = .ok (.aload_n 0, 1) := by decide +kernel
theorem d_MO_text_14 : decode b_MO_text 14 = .ok (.iconst 0, 1) := by decide +kernel
theorem d_MO_text_15 : decode b_MO_text 15 = .ok (.putfield 138, 3) := by decide +kernel
theorem d_MO_text_18 : decode b_MO_text 18 = .ok (.aload_n 0, 1) := by decide +kernel
theorem d_MO_text_19 : decode b_MO_text 19 = .ok (.iload_n 1, 1) := by decide +kernel
theorem d_MO_text_20 : decode b_MO_text 20 = .ok (.invokevirtual 310, 3) := by decide +kernel
theorem d_MO_text_23 : decode b_MO_text 23 = .ok (.aload_n 0, 1) := by decide +kernel
theorem d_MO_text_24 : decode b_MO_text 24 = .ok (.iload_n 2, 1) := by decide +kernel
theorem d_MO_text_25 : decode b_MO_text 25 = .ok (.invokevirtual 310, 3) := by decide +kernel
theorem d_MO_text_28 : decode b_MO_text 28 = .ok (.aload_n 0, 1) := by decide +kernel
theorem d_MO_text_29 : decode b_MO_text 29 = .ok (.iload_n 3, 1) := by decide +kernel
theorem d_MO_text_30 : decode b_MO_text 30 = .ok (.invokevirtual 310, 3) := by decide +kernel
theorem d_MO_text_33 : decode b_MO_text 33 = .ok (.aload_n 0, 1) := by decide +kernel
theorem d_MO_text_34 : decode b_MO_text 34 = .ok (.iload 4, 2) := by decide +kernel
theorem d_MO_text_36 : decode b_MO_text 36 = .ok (.invokevirtual 310, 3) := by decide +kernel
theorem d_MO_text_39 : decode b_MO_text 39 = .ok (.aload_n 0, 1) := by decide +kernel
theorem d_MO_text_40 : decode b_MO_text 40 = .ok (.iload 5, 2) := by decide +kernel
theorem d_MO_text_42 : decode b_MO_text 42 = .ok (.invokevirtual 310, 3) := by decide +kernel
theorem d_MO_text_45 : decode b_MO_text 45 = .ok (.aload_n 0, 1) := by decide +kernel
theorem d_MO_text_46 : decode b_MO_text 46 = .ok (.getfield 138, 3) := by decide +kernel
theorem d_MO_text_49 : decode b_MO_text 49 = .ok (.ifCond .eq 5, 3) := by decide +kernel
theorem d_MO_text_52 : decode b_MO_text 52 = .ok (.iconst 0, 1) := by decide +kernel
theorem d_MO_text_53 : decode b_MO_text 53 = .ok (.ireturn, 1) := by decide +kernel
theorem d_MO_text_54 : decode b_MO_text 54 = .ok (.aload_n 0, 1) := by decide +kernel
theorem d_MO_text_55 : decode b_MO_text 55 = .ok (.aload_n 0, 1) := by decide +kernel
theorem d_MO_text_56 : decode b_MO_text 56 = .ok (.getfield 135, 3) := by decide +kernel
theorem d_MO_text_59 : decode b_MO_text 59 = .ok (.putfield 17, 3) := by decide +kernel
theorem d_MO_text_62 : decode b_MO_text 62 = .ok (.iconst 1, 1) := by decide +kernel
theorem d_MO_text_63 : decode b_MO_text 63 = .ok (.ireturn, 1) := by decide +kernel
theorem fl_MO_17 : ab_fl "PolicyForgeModel" 17 17 2 0 := ⟨rfl, R_MO, T_MO, 44, rfl, uw_MO, by decide, rfl, (ab_in 928 (by decide +kernel) (by decide +kernel))⟩
theorem lk_MO_310 : ab_lk "PolicyForgeModel" 310 y_MO_bytesOf b_MO_bytesOf 4 none 1 17 := ⟨⟨rfl, T_MO, 44, rfl⟩, List.forall_mem_cons.mpr ⟨(ab_in 1064 (by decide +kernel) (by decide +kernel)), List.forall_mem_cons.mpr ⟨(ab_in 1066 (by decide +kernel) (by decide +kernel)), List.forall_mem_cons.mpr ⟨(ab_in 45 (by decide +kernel) (by decide +kernel)), List.forall_mem_cons.mpr ⟨(ab_in 100 (by decide +kernel) (by decide +kernel)), List.forall_mem_cons.mpr ⟨(ab_in 1067 (by decide +kernel) (by decide +kernel)), fun _ h => absurd h List.not_mem_nil⟩⟩⟩⟩⟩, ⟨by decide +kernel, by decide +kernel, by decide +kernel⟩, by decide⟩
theorem fl_MO_138 : ab_fl "PolicyForgeModel" 138 17 42 0 := ⟨rfl, R_MO, T_MO, 44, rfl, uw_MO, by decide, rfl, (ab_in 968 (by decide +kernel) (by decide +kernel))⟩
/-- what the reference's text leaves -/
def tm_s (q : ab_S × Nat × Bool) : ab_S := if q.2.2 = true then q.1 else ab_ui q.1 17 0 2 (nI q.2.1)
set_option maxRecDepth 100000 in
set_option maxHeartbeats 4000000 in
theorem c_MO_text (u : ab_S) (x1 x2 x3 x4 x5 : Int32) (n : Nat) (hn : n ≤ 100) (h17 : 0 < N 17) (h18 : 0 < N 18) (e0 : u.2.1 17 0 1 = some (18, 0)) (el : u.1 17 0 2 = nI n) : ab_C false l D ca y_MO_text b_MO_text 6 (some .boolean) 1 N u [ab_O 17 0, ab_I x1, ab_I x2, ab_I x3, ab_I x4, ab_I x5] (fun u' v => u' = tm_s (tm_run (tb_l x1 ++ (tb_l x2 ++ (tb_l x3 ++ (tb_l x4 ++ tb_l x5)))) (ab_ui (ab_ui (ab_ui u 17 0 0 0) 17 0 41 (nI n)) 17 0 42 0, n, false)) ∧ v = some (ab_I (if (!((tm_run (tb_l x1 ++ (tb_l x2 ++ (tb_l x3 ++ (tb_l x4 ++ tb_l x5)))) (ab_ui (ab_ui (ab_ui u 17 0 0 0) 17 0 41 (nI n)) 17 0 42 0, n, false))).2.2) = true then 1 else 0))) := by
  refine ab_C.of (by decide) (Nat.le_of_ble_eq_true rfl) ?_
  intro p e s m args below meth c ad X hZ hr0 hlk
  refine ab_aload_n X 0 d_MO_text_0 rfl rfl ?_
  refine ab_iconst (v := 0) X d_MO_text_1 (by decide) ?_
  refine ab_putI X fp_MO_7 d_MO_text_2 (by first | assumption | decide) rfl rfl ?_
  refine ab_aload_n X 0 d_MO_text_5 rfl rfl ?_
  refine ab_aload_n X 0 d_MO_text_6 rfl rfl ?_
  refine ab_gI X fl_MO_17 d_MO_text_7 (by first | assumption | decide) ((show _ = nI n by simpa [ab_up] using el)) ?_
  refine ab_putI X fp_MO_135 d_MO_text_10 (by first | assumption | decide) rfl rfl ?_
  refine ab_aload_n X 0 d_MO_text_13 rfl rfl ?_
  refine ab_iconst (v := 0) X d_MO_text_14 (by decide) ?_
  refine ab_putI X fp_MO_138 d_MO_text_15 (by first | assumption | decide) rfl rfl ?_
  have hok0 : tm_ok (ab_ui (ab_ui (ab_ui u 17 0 0 0) 17 0 41 (nI n)) 17 0 42 0, n, false) := ⟨by simp [ab_up], by simp [ab_up, tm_z], hn⟩
  have hr00 : ((ab_ui (ab_ui (ab_ui u 17 0 0 0) 17 0 41 (nI n)) 17 0 42 0, n, false) : ab_S × Nat × Bool).1.2 = u.2 := rfl
  have hF0 : (tm_run (tb_l x1 ++ (tb_l x2 ++ (tb_l x3 ++ (tb_l x4 ++ tb_l x5)))) (ab_ui (ab_ui (ab_ui u 17 0 0 0) 17 0 41 (nI n)) 17 0 42 0, n, false)) = (tm_run (tb_l x1 ++ (tb_l x2 ++ (tb_l x3 ++ (tb_l x4 ++ tb_l x5)))) (ab_ui (ab_ui (ab_ui u 17 0 0 0) 17 0 41 (nI n)) 17 0 42 0, n, false)) := rfl
  revert hF0 hr00 hok0
  generalize hG : ((ab_ui (ab_ui (ab_ui u 17 0 0 0) 17 0 41 (nI n)) 17 0 42 0, n, false) : ab_S × Nat × Bool) = q0
  rw [show ab_ui (ab_ui (ab_ui u 17 0 0 0) 17 0 41 (nI n)) 17 0 42 0 = q0.1 by rw [← hG]]
  intro o0 r0 hF0
  refine ab_aload_n X 0 d_MO_text_18 rfl rfl ?_
  refine ab_iload_n X 1 d_MO_text_19 rfl rfl ?_
  refine ab_callV (as := [ab_I x1]) X (fun h => by cases h) (c_MO_bytesOf q0 x1 h17 h18 (by rw [r0]; exact e0) o0) lk_MO_310 d_MO_text_20 rfl rfl (by first | assumption | decide) ⟨by first | exact Nat.le_of_ble_eq_true rfl | (simp only [ab_rm]; omega), by first | exact Nat.le_of_ble_eq_true rfl | (simp only [ab_rm]; omega)⟩ ⟨by first | exact Nat.le_of_ble_eq_true rfl | (simp only [ab_rm]; omega), by first | exact Nat.le_of_ble_eq_true rfl | (simp only [ab_rm]; omega)⟩ (Nat.le_of_ble_eq_true rfl) (fun u20 r20 h20 => ?_)
  obtain ⟨rfl, rfl⟩ := h20
  have o1 := tm_run_ok (tb_l x1) q0 o0
  have t1 : (tm_run (tb_l x1) q0).1.2 = u.2 := o1.2.trans r0
  have o1 := o1.1
  rw [tm_app]
  revert o1 t1
  generalize tm_run (tb_l x1) q0 = q1
  intro t1 o1
  refine ab_aload_n X 0 d_MO_text_23 rfl rfl ?_
  refine ab_iload_n X 2 d_MO_text_24 rfl rfl ?_
  refine ab_callV (as := [ab_I x2]) X (fun h => by cases h) (c_MO_bytesOf q1 x2 h17 h18 (by rw [t1]; exact e0) o1) lk_MO_310 d_MO_text_25 rfl rfl (by first | assumption | decide) ⟨by first | exact Nat.le_of_ble_eq_true rfl | (simp only [ab_rm]; omega), by first | exact Nat.le_of_ble_eq_true rfl | (simp only [ab_rm]; omega)⟩ ⟨by first | exact Nat.le_of_ble_eq_true rfl | (simp only [ab_rm]; omega), by first | exact Nat.le_of_ble_eq_true rfl | (simp only [ab_rm]; omega)⟩ (Nat.le_of_ble_eq_true rfl) (fun u25 r25 h25 => ?_)
  obtain ⟨rfl, rfl⟩ := h25
  have o2 := tm_run_ok (tb_l x2) q1 o1
  have t2 : (tm_run (tb_l x2) q1).1.2 = u.2 := o2.2.trans t1
  have o2 := o2.1
  rw [tm_app]
  revert o2 t2
  generalize tm_run (tb_l x2) q1 = q2
  intro t2 o2
  refine ab_aload_n X 0 d_MO_text_28 rfl rfl ?_
  refine ab_iload_n X 3 d_MO_text_29 rfl rfl ?_
  refine ab_callV (as := [ab_I x3]) X (fun h => by cases h) (c_MO_bytesOf q2 x3 h17 h18 (by rw [t2]; exact e0) o2) lk_MO_310 d_MO_text_30 rfl rfl (by first | assumption | decide) ⟨by first | exact Nat.le_of_ble_eq_true rfl | (simp only [ab_rm]; omega), by first | exact Nat.le_of_ble_eq_true rfl | (simp only [ab_rm]; omega)⟩ ⟨by first | exact Nat.le_of_ble_eq_true rfl | (simp only [ab_rm]; omega), by first | exact Nat.le_of_ble_eq_true rfl | (simp only [ab_rm]; omega)⟩ (Nat.le_of_ble_eq_true rfl) (fun u30 r30 h30 => ?_)
  obtain ⟨rfl, rfl⟩ := h30
  have o3 := tm_run_ok (tb_l x3) q2 o2
  have t3 : (tm_run (tb_l x3) q2).1.2 = u.2 := o3.2.trans t2
  have o3 := o3.1
  rw [tm_app]
  revert o3 t3
  generalize tm_run (tb_l x3) q2 = q3
  intro t3 o3
  refine ab_aload_n X 0 d_MO_text_33 rfl rfl ?_
  refine ab_iload X 4 d_MO_text_34 rfl ?_
  refine ab_callV (as := [ab_I x4]) X (fun h => by cases h) (c_MO_bytesOf q3 x4 h17 h18 (by rw [t3]; exact e0) o3) lk_MO_310 d_MO_text_36 rfl rfl (by first | assumption | decide) ⟨by first | exact Nat.le_of_ble_eq_true rfl | (simp only [ab_rm]; omega), by first | exact Nat.le_of_ble_eq_true rfl | (simp only [ab_rm]; omega)⟩ ⟨by first | exact Nat.le_of_ble_eq_true rfl | (simp only [ab_rm]; omega), by first | exact Nat.le_of_ble_eq_true rfl | (simp only [ab_rm]; omega)⟩ (Nat.le_of_ble_eq_true rfl) (fun u36 r36 h36 => ?_)
  obtain ⟨rfl, rfl⟩ := h36
  have o4 := tm_run_ok (tb_l x4) q3 o3
  have t4 : (tm_run (tb_l x4) q3).1.2 = u.2 := o4.2.trans t3
  have o4 := o4.1
  rw [tm_app]
  revert o4 t4
  generalize tm_run (tb_l x4) q3 = q4
  intro t4 o4
  refine ab_aload_n X 0 d_MO_text_39 rfl rfl ?_
  refine ab_iload X 5 d_MO_text_40 rfl ?_
  refine ab_callV (as := [ab_I x5]) X (fun h => by cases h) (c_MO_bytesOf q4 x5 h17 h18 (by rw [t4]; exact e0) o4) lk_MO_310 d_MO_text_42 rfl rfl (by first | assumption | decide) ⟨by first | exact Nat.le_of_ble_eq_true rfl | (simp only [ab_rm]; omega), by first | exact Nat.le_of_ble_eq_true rfl | (simp only [ab_rm]; omega)⟩ ⟨by first | exact Nat.le_of_ble_eq_true rfl | (simp only [ab_rm]; omega), by first | exact Nat.le_of_ble_eq_true rfl | (simp only [ab_rm]; omega)⟩ (Nat.le_of_ble_eq_true rfl) (fun u42 r42 h42 => ?_)
  obtain ⟨rfl, rfl⟩ := h42
  have o5 := tm_run_ok (tb_l x5) q4 o4
  have t5 : (tm_run (tb_l x5) q4).1.2 = u.2 := o5.2.trans t4
  have o5 := o5.1
  revert o5 t5
  generalize tm_run (tb_l x5) q4 = q5
  intro t5 o5
  by_cases hb : q5.2.2 = true
  ·
    refine ab_aload_n X 0 d_MO_text_45 rfl rfl ?_
    refine ab_gI X fl_MO_138 d_MO_text_46 (by first | assumption | decide) ((show _ = (1 : Int32) from o5.2.1.trans (by rw [hb]; rfl))) ?_
    refine ab_if_eq X 54 d_MO_text_49 rfl (fun hb => absurd hb ((by decide))) (fun _ => ?_)
    refine ab_iconst (v := 0) X d_MO_text_52 (by decide) ?_
    exact ab_retz X hr0 hlk (Or.inl rfl) d_MO_text_53 ⟨by unfold tm_s; rw [if_pos hb], by simp [hb]⟩
  ·
    refine ab_aload_n X 0 d_MO_text_45 rfl rfl ?_
    refine ab_gI X fl_MO_138 d_MO_text_46 (by first | assumption | decide) ((show _ = (0 : Int32) from o5.2.1.trans (by unfold tm_z; rw [if_neg hb]))) ?_
    refine ab_if_eq X 54 d_MO_text_49 rfl (fun _ => ?_) (fun hb => absurd (rfl) hb)
    refine ab_aload_n X 0 d_MO_text_54 rfl rfl ?_
    refine ab_aload_n X 0 d_MO_text_55 rfl rfl ?_
    refine ab_gI X fl_MO_135 d_MO_text_56 (by first | assumption | decide) (o5.1) ?_
    refine ab_putI X fp_MO_17 d_MO_text_59 (by first | assumption | decide) rfl rfl ?_
    refine ab_iconst (v := 1) X d_MO_text_62 (by decide) ?_
    exact ab_retz X hr0 hlk (Or.inr rfl) d_MO_text_63 ⟨by unfold tm_s; rw [if_neg hb], by simp [hb]⟩
end AbMText

