/-! Text: typed by the class, taken by the reference. -/
def tb_b (x s : Int32) : Int32 := (x.toUInt32 >>> (s.toUInt32 &&& Int32.toUInt32 31)).toInt32 &&& 255
def tb_l (x : Int32) : List Int32 := [tb_b x 24, tb_b x 16, tb_b x 8, tb_b x 0]
theorem tb_sh (b : BitVec 32) (k : Nat) (hk : k ≤ 24) : b.sshiftRight k &&& 255#32 = (b >>> k) &&& 255#32 := by
  apply BitVec.eq_of_getLsbD_eq
  intro i hi
  simp only [BitVec.getLsbD_and, BitVec.getLsbD_sshiftRight, BitVec.getLsbD_ushiftRight]
  by_cases h8 : i < 8
  · have h1 : ¬ (32 ≤ i) := by omega
    have h2 : k + i < 32 := by omega
    simp [h1, h2]
  · have h3 : (255#32).getLsbD i = false := by
      rw [BitVec.getLsbD_ofNat]
      have h4 : Nat.testBit 255 i = false := Nat.testBit_lt_two_pow (Nat.lt_of_lt_of_le (show 255 < 2 ^ 8 by decide) (Nat.pow_le_pow_right (by decide) (by omega)))
      simp [h4]
    simp [h3]
theorem tb_s24 (x : Int32) : x >>> ((24 : Int32) &&& 31) &&& 255 = tb_b x 24 := Int32.toBitVec_inj.mp (tb_sh x.toBitVec 24 (by decide))
theorem tb_s16 (x : Int32) : x >>> ((16 : Int32) &&& 31) &&& 255 = tb_b x 16 := Int32.toBitVec_inj.mp (tb_sh x.toBitVec 16 (by decide))
theorem tb_s8 (x : Int32) : x >>> ((8 : Int32) &&& 31) &&& 255 = tb_b x 8 := Int32.toBitVec_inj.mp (tb_sh x.toBitVec 8 (by decide))
theorem tb_s0 (x : Int32) : x >>> ((0 : Int32) &&& 31) &&& 255 = tb_b x 0 := Int32.toBitVec_inj.mp (tb_sh x.toBitVec 0 (by decide))
def tc_v : Option Nat → Int32
  | none => -1
  | some k => nI k
def tc_st (u : ab_S) (o : Option Nat) (c : Int32) : ab_S × Option Nat := match o with
  | none => (u, none)
  | some k => if c = 0 then (u, some k) else if c < 33 ∨ 126 < c then (u, none) else (ab_ui u 11 0 k c, some (k + 1))
def tc_run (cs : List Int32) (q : ab_S × Option Nat) : ab_S × Option Nat := cs.foldl (fun q c => tc_st q.1 q.2 c) q
theorem tc_st0 {u : ab_S} {k : Nat} {c : Int32} (h : c = 0) : tc_st u (some k) c = (u, some k) := by show (if c = 0 then _ else _) = _; rw [if_pos h]
theorem tc_stb {u : ab_S} {k : Nat} {c : Int32} (h : ¬ c = 0) (hb : c < 33 ∨ 126 < c) : tc_st u (some k) c = (u, none) := by show (if c = 0 then _ else _) = _; rw [if_neg h, if_pos hb]
theorem tc_stg {u : ab_S} {k : Nat} {c : Int32} (h : ¬ c = 0) (hb : ¬ (c < 33 ∨ 126 < c)) : tc_st u (some k) c = (ab_ui u 11 0 k c, some (k + 1)) := by show (if c = 0 then _ else _) = _; rw [if_neg h, if_neg hb]
theorem tc_none (cs : List Int32) (u : ab_S) : tc_run cs (u, none) = (u, none) := by
  induction cs with
  | nil => rfl
  | cons c cs ih => exact ih
theorem tc_app (a b : List Int32) (q : ab_S × Option Nat) : tc_run (a ++ b) q = tc_run b (tc_run a q) := List.foldl_append
theorem tc_refs (cs : List Int32) : ∀ q : ab_S × Option Nat, (tc_run cs q).1.2 = q.1.2 := by
  induction cs with
  | nil => exact fun _ => rfl
  | cons c cs ih =>
    intro q
    refine (ih _).trans ?_
    obtain ⟨u, o⟩ := q
    cases o with
    | none => rfl
    | some k =>
      by_cases h : c = 0
      · show (tc_st u (some k) c).1.2 = u.2
        rw [tc_st0 h]
      · by_cases hb : c < 33 ∨ 126 < c
        · show (tc_st u (some k) c).1.2 = u.2
          rw [tc_stb h hb]
        · show (tc_st u (some k) c).1.2 = u.2
          rw [tc_stg h hb]
theorem tc_le (cs : List Int32) : ∀ (q : ab_S × Option Nat) (k : Nat), (tc_run cs q).2 = some k → ∃ j, q.2 = some j ∧ j ≤ k ∧ k ≤ j + cs.length := by
  induction cs with
  | nil => exact fun q k h => ⟨k, h, Nat.le_refl _, Nat.le_refl _⟩
  | cons c cs ih =>
    intro q k h
    obtain ⟨j, h1, h2, h3⟩ := ih _ k h
    obtain ⟨u, o⟩ := q
    cases o with
    | none => cases h1
    | some n =>
      refine ⟨n, rfl, ?_⟩
      have h1' : (tc_st u (some n) c).2 = some j := h1
      rw [List.length_cons]
      by_cases h : c = 0
      · rw [tc_st0 h] at h1'
        cases h1'
        omega
      · by_cases hb : c < 33 ∨ 126 < c
        · rw [tc_stb h hb] at h1'
          cases h1'
        · rw [tc_stg h hb] at h1'
          cases h1'
          omega
section AbText
variable {l : Launch} {D : va_G} {ca : Nat → ClassId} {N : Nat → Nat}
abbrev b_RD_typed : ByteArray := prog_6_method_2_code
def y_RD_typed : MethodName := ⟨"PolicyForge$Reader", "typed", "(II)I"⟩
theorem d_RD_typed_0 : decode b_RD_typed 0 = .ok (.iload_n 2, 1) := by decide +kernel
theorem d_RD_typed_1 : decode b_RD_typed 1 = .ok (.istore_n 3, 1) := by decide +kernel
theorem d_RD_typed_2 : decode b_RD_typed 2 = .ok (.bipush 24, 2) := by decide +kernel
theorem d_RD_typed_4 : decode b_RD_typed 4 = .ok (.istore 4, 2) := by decide +kernel
theorem d_RD_typed_6 : decode b_RD_typed 6 = .ok (.iload 4, 2) := by decide +kernel
theorem d_RD_typed_8 : decode b_RD_typed 8 = .ok (.ifCond .lt 67, 3) := by decide +kernel
theorem d_RD_typed_11 : decode b_RD_typed 11 = .ok (.iload_n 1, 1) := by decide +kernel
theorem d_RD_typed_12 : decode b_RD_typed 12 = .ok (.iload 4, 2) := by decide +kernel
theorem d_RD_typed_14 : decode b_RD_typed 14 = .ok (.iushr, 1) := by decide +kernel
theorem d_RD_typed_15 : decode b_RD_typed 15 = .ok (.sipush 255, 3) := by decide +kernel
theorem d_RD_typed_18 : decode b_RD_typed 18 = .ok (.iand, 1) := by decide +kernel
theorem d_RD_typed_19 : decode b_RD_typed 19 = .ok (.istore 5, 2) := by decide +kernel
theorem d_RD_typed_21 : decode b_RD_typed 21 = .ok (.iload_n 3, 1) := by decide +kernel
theorem d_RD_typed_22 : decode b_RD_typed 22 = .ok (.ifCond .lt 47, 3) := by decide +kernel
theorem d_RD_typed_25 : decode b_RD_typed 25 = .ok (.iload 5, 2) := by decide +kernel
theorem d_RD_typed_27 : decode b_RD_typed 27 = .ok (.ifCond .ne 6, 3) := by decide +kernel
theorem d_RD_typed_30 : decode b_RD_typed 30 = .ok (.goto 39, 3) := by decide +kernel
theorem d_RD_typed_33 : decode b_RD_typed 33 = .ok (.iload 5, 2) := by decide +kernel
theorem d_RD_typed_35 : decode b_RD_typed 35 = .ok (.bipush 33, 2) := by decide +kernel
theorem d_RD_typed_37 : decode b_RD_typed 37 = .ok (.if_icmp .lt 19, 3) := by decide +kernel
theorem d_RD_typed_40 : decode b_RD_typed 40 = .ok (.iload 5, 2) := by decide +kernel
theorem d_RD_typed_42 : decode b_RD_typed 42 = .ok (.bipush 126, 2) := by decide +kernel
theorem d_RD_typed_44 : decode b_RD_typed 44 = .ok (.if_icmp .gt 12, 3) := by decide +kernel
theorem d_RD_typed_47 : decode b_RD_typed 47 = .ok (.iload_n 3, 1) := by decide +kernel
theorem d_RD_typed_48 : decode b_RD_typed 48 = .ok (.aload_n 0, 1) := by decide +kernel
theorem d_RD_typed_49 : decode b_RD_typed 49 = .ok (.getfield 9, 3) := by decide +kernel
theorem d_RD_typed_52 : decode b_RD_typed 52 = .ok (.arraylength, 1) := by decide +kernel
theorem d_RD_typed_53 : decode b_RD_typed 53 = .ok (.if_icmp .lt 5, 3) := by decide +kernel
theorem d_RD_typed_56 : decode b_RD_typed 56 = .ok (.iconst (-1), 1) := by decide +kernel
theorem d_RD_typed_57 : decode b_RD_typed 57 = .ok (.ireturn, 1) := by decide +kernel
theorem d_RD_typed_58 : decode b_RD_typed 58 = .ok (.aload_n 0, 1) := by decide +kernel
theorem d_RD_typed_59 : decode b_RD_typed 59 = .ok (.getfield 9, 3) := by decide +kernel
theorem d_RD_typed_62 : decode b_RD_typed 62 = .ok (.iload_n 3, 1) := by decide +kernel
theorem d_RD_typed_63 : decode b_RD_typed 63 = .ok (.iload 5, 2) := by decide +kernel
theorem d_RD_typed_65 : decode b_RD_typed 65 = .ok (.iastore, 1) := by decide +kernel
theorem d_RD_typed_66 : decode b_RD_typed 66 = .ok (.iinc 3 1, 3) := by decide +kernel
theorem d_RD_typed_69 : decode b_RD_typed 69 = .ok (.iinc 4 (-8), 3) := by decide +kernel
theorem d_RD_typed_72 : decode b_RD_typed 72 = .ok (.goto (-66), 3) := by decide +kernel
theorem d_RD_typed_75 : decode b_RD_typed 75 = .ok (.iload_n 3, 1) := by decide +kernel
theorem d_RD_typed_76 : decode b_RD_typed 76 = .ok (.ireturn, 1) := by decide +kernel
theorem fl_RD_9 : ab_fl "PolicyForge$Reader" 9 1 0 1 := ⟨rfl, R_RD, T_RD, 8, rfl, uw_RD, by decide, rfl, (ab_in 243 (by decide +kernel) (by decide +kernel))⟩
set_option maxRecDepth 100000 in
set_option maxHeartbeats 4000000 in
theorem c_RD_typed (u : ab_S) (x : Int32) (o : Option Nat) (h1 : 0 < N 1) (h11 : 0 < N 11) (e0 : u.2.1 1 0 0 = some (11, 0)) (ho : ∀ k, o = some k → k + 4 ≤ 120) : ab_C false l D ca y_RD_typed b_RD_typed 6 (some .int) 0 N u [ab_O 1 0, ab_I x, ab_I (tc_v o)] (fun u' v => u' = (tc_run (tb_l x) (u, o)).1 ∧ v = some (ab_I (tc_v (tc_run (tb_l x) (u, o)).2))) := by
  refine ab_C.of (by decide) (Nat.le_of_ble_eq_true rfl) ?_
  intro p e s m args below meth c ad X hZ hr0 hlk
  have fin : ∀ (sh : Int32), sh < 0 → ∀ (u1 : ab_S) (o1 : Option Nat), tc_run [] (u1, o1) = tc_run (tb_l x) (u, o) → ab_J p l e (ab_rm 0 0 0) s m args below meth c (MQ below (ab_Q D ca ad N s.heap.size (fun u' v => u' = (tc_run (tb_l x) (u, o)).1 ∧ v = some (ab_I (tc_v (tc_run (tb_l x) (u, o)).2)))) args s 0 0 (ab_A ad N s.heap.size)) D ca (ab_A ad N s.heap.size) s.heap 6 0 0 ad N u1 6 [(4, ab_I sh), (3, ab_I (tc_v o1)), (0, ab_O 1 0), (1, ab_I x), (2, ab_I (tc_v o))] [] := by
    intro sh hs u1 o1 hq
    refine ab_iload X 0 d_RD_typed_6 rfl ?_
    refine ab_if_lt X 75 d_RD_typed_8 rfl (fun _ => ?_) (fun hb => absurd (hs) hb)
    refine ab_iload_n X 1 d_RD_typed_75 rfl rfl ?_
    exact ab_reti X hr0 hlk d_RD_typed_76 ⟨by rw [← hq]; rfl, by rw [← hq]; rfl⟩
  have stp : ∀ (sh : Int32) (cs : List Int32), ¬ sh < 0 → (∀ (u1 : ab_S) (o1 : Option Nat), tc_run cs (u1, o1) = tc_run (tb_l x) (u, o) → u1.2 = u.2 → (∀ k, o1 = some k → k + cs.length ≤ 120) → ab_J p l e (ab_rm 0 0 0) s m args below meth c (MQ below (ab_Q D ca ad N s.heap.size (fun u' v => u' = (tc_run (tb_l x) (u, o)).1 ∧ v = some (ab_I (tc_v (tc_run (tb_l x) (u, o)).2)))) args s 0 0 (ab_A ad N s.heap.size)) D ca (ab_A ad N s.heap.size) s.heap 6 0 0 ad N u1 6 [(4, ab_I (sh + Int32.ofInt (-8))), (3, ab_I (tc_v o1)), (0, ab_O 1 0), (1, ab_I x), (2, ab_I (tc_v o))] []) → ∀ (u1 : ab_S) (o1 : Option Nat), tc_run (tb_b x sh :: cs) (u1, o1) = tc_run (tb_l x) (u, o) → u1.2 = u.2 → (∀ k, o1 = some k → k + (cs.length + 1) ≤ 120) → ab_J p l e (ab_rm 0 0 0) s m args below meth c (MQ below (ab_Q D ca ad N s.heap.size (fun u' v => u' = (tc_run (tb_l x) (u, o)).1 ∧ v = some (ab_I (tc_v (tc_run (tb_l x) (u, o)).2)))) args s 0 0 (ab_A ad N s.heap.size)) D ca (ab_A ad N s.heap.size) s.heap 6 0 0 ad N u1 6 [(4, ab_I sh), (3, ab_I (tc_v o1)), (0, ab_O 1 0), (1, ab_I x), (2, ab_I (tc_v o))] [] := by
    intro sh cs hs ih u1 o1 hq hu hk
    have hT : tc_run cs (tc_st u1 o1 (tb_b x sh)) = tc_run (tb_l x) (u, o) := hq
    have e1 : u1.2.1 1 0 0 = some (11, 0) := by rw [hu]; exact e0
    cases o1 with
    | none =>
      refine ab_iload X 0 d_RD_typed_6 rfl ?_
      refine ab_if_lt X 75 d_RD_typed_8 rfl (fun hb => absurd hb (hs)) (fun _ => ?_)
      refine ab_iload_n X 3 d_RD_typed_11 rfl rfl ?_
      refine ab_iload X 0 d_RD_typed_12 rfl ?_
      refine ab_iushr X d_RD_typed_14 ?_
      refine ab_sipush (v := 255) X d_RD_typed_15 (by decide) ?_
      refine ab_iand X d_RD_typed_18 ?_
      refine ab_istore5 X 0 1 2 3 4 d_RD_typed_19 (by decide) rfl rfl rfl rfl rfl rfl rfl rfl rfl rfl ?_
      refine ab_iload_n X 2 d_RD_typed_21 rfl rfl ?_
      refine ab_if_lt X 69 d_RD_typed_22 rfl (fun _ => ?_) (fun hb => absurd ((by decide)) hb)
      refine ab_iinc5 X 1 0 2 3 4 5 d_RD_typed_69 rfl (by decide) rfl rfl rfl rfl rfl rfl rfl rfl rfl rfl ?_
      refine ab_goto X 6 d_RD_typed_72 rfl ?_
      refine ab_lv (List.forall_mem_cons.mpr ⟨List.mem_of_getElem? (i := 0) rfl, List.forall_mem_cons.mpr ⟨List.mem_of_getElem? (i := 2) rfl, List.forall_mem_cons.mpr ⟨List.mem_of_getElem? (i := 3) rfl, List.forall_mem_cons.mpr ⟨List.mem_of_getElem? (i := 4) rfl, List.forall_mem_cons.mpr ⟨List.mem_of_getElem? (i := 5) rfl, fun _ h => absurd h List.not_mem_nil⟩⟩⟩⟩⟩) ?_
      exact ih u1 none hT hu (fun k h => by cases h)
    | some k =>
      have hk1 := hk k rfl
      have bad : ∀ lv, tc_st u1 (some k) (tb_b x sh) = (u1, none) → ab_J p l e (ab_rm 0 0 0) s m args below meth c (MQ below (ab_Q D ca ad N s.heap.size (fun u' v => u' = (tc_run (tb_l x) (u, o)).1 ∧ v = some (ab_I (tc_v (tc_run (tb_l x) (u, o)).2)))) args s 0 0 (ab_A ad N s.heap.size)) D ca (ab_A ad N s.heap.size) s.heap 6 0 0 ad N u1 56 lv [] := by
        intro lv hz
        rw [hz, tc_none] at hT
        refine ab_iconst (v := (-1)) X d_RD_typed_56 (by decide) ?_
        exact ab_reti X hr0 hlk d_RD_typed_57 ⟨by rw [← hT], by rw [← hT]; rfl⟩
      by_cases c0 : tb_b x sh = 0
      · rw [tc_st0 c0] at hT
        refine ab_iload X 0 d_RD_typed_6 rfl ?_
        refine ab_if_lt X 75 d_RD_typed_8 rfl (fun hb => absurd hb (hs)) (fun _ => ?_)
        refine ab_iload_n X 3 d_RD_typed_11 rfl rfl ?_
        refine ab_iload X 0 d_RD_typed_12 rfl ?_
        refine ab_iushr X d_RD_typed_14 ?_
        refine ab_sipush (v := 255) X d_RD_typed_15 (by decide) ?_
        refine ab_iand X d_RD_typed_18 ?_
        refine ab_istore5 X 0 1 2 3 4 d_RD_typed_19 (by decide) rfl rfl rfl rfl rfl rfl rfl rfl rfl rfl ?_
        refine ab_iload_n X 2 d_RD_typed_21 rfl rfl ?_
        refine ab_if_lt X 69 d_RD_typed_22 rfl (fun hb => absurd hb ((nI_pos (show k < 2 ^ 31 by omega)))) (fun _ => ?_)
        refine ab_iload X 0 d_RD_typed_25 rfl ?_
        refine ab_if_ne X 33 d_RD_typed_27 rfl (fun hb => absurd (c0) hb) (fun _ => ?_)
        refine ab_goto X 69 d_RD_typed_30 rfl ?_
        refine ab_iinc5 X 1 0 2 3 4 5 d_RD_typed_69 rfl (by decide) rfl rfl rfl rfl rfl rfl rfl rfl rfl rfl ?_
        refine ab_goto X 6 d_RD_typed_72 rfl ?_
        refine ab_lv (List.forall_mem_cons.mpr ⟨List.mem_of_getElem? (i := 0) rfl, List.forall_mem_cons.mpr ⟨List.mem_of_getElem? (i := 2) rfl, List.forall_mem_cons.mpr ⟨List.mem_of_getElem? (i := 3) rfl, List.forall_mem_cons.mpr ⟨List.mem_of_getElem? (i := 4) rfl, List.forall_mem_cons.mpr ⟨List.mem_of_getElem? (i := 5) rfl, fun _ h => absurd h List.not_mem_nil⟩⟩⟩⟩⟩) ?_
        exact ih u1 (some k) hT hu (fun j h => by cases h; omega)
      · by_cases c33 : tb_b x sh < 33
        ·
          refine ab_iload X 0 d_RD_typed_6 rfl ?_
          refine ab_if_lt X 75 d_RD_typed_8 rfl (fun hb => absurd hb (hs)) (fun _ => ?_)
          refine ab_iload_n X 3 d_RD_typed_11 rfl rfl ?_
          refine ab_iload X 0 d_RD_typed_12 rfl ?_
          refine ab_iushr X d_RD_typed_14 ?_
          refine ab_sipush (v := 255) X d_RD_typed_15 (by decide) ?_
          refine ab_iand X d_RD_typed_18 ?_
          refine ab_istore5 X 0 1 2 3 4 d_RD_typed_19 (by decide) rfl rfl rfl rfl rfl rfl rfl rfl rfl rfl ?_
          refine ab_iload_n X 2 d_RD_typed_21 rfl rfl ?_
          refine ab_if_lt X 69 d_RD_typed_22 rfl (fun hb => absurd hb ((nI_pos (show k < 2 ^ 31 by omega)))) (fun _ => ?_)
          refine ab_iload X 0 d_RD_typed_25 rfl ?_
          refine ab_if_ne X 33 d_RD_typed_27 rfl (fun _ => ?_) (fun hb => absurd hb (c0))
          refine ab_iload X 0 d_RD_typed_33 rfl ?_
          refine ab_bipush (v := 33) X d_RD_typed_35 (by decide) ?_
          refine ab_icmp_lt X 56 d_RD_typed_37 rfl (fun _ => ?_) (fun hb => absurd (c33) hb)
          exact bad _ (tc_stb c0 (Or.inl c33))
        · by_cases c126 : 126 < tb_b x sh
          ·
            refine ab_iload X 0 d_RD_typed_6 rfl ?_
            refine ab_if_lt X 75 d_RD_typed_8 rfl (fun hb => absurd hb (hs)) (fun _ => ?_)
            refine ab_iload_n X 3 d_RD_typed_11 rfl rfl ?_
            refine ab_iload X 0 d_RD_typed_12 rfl ?_
            refine ab_iushr X d_RD_typed_14 ?_
            refine ab_sipush (v := 255) X d_RD_typed_15 (by decide) ?_
            refine ab_iand X d_RD_typed_18 ?_
            refine ab_istore5 X 0 1 2 3 4 d_RD_typed_19 (by decide) rfl rfl rfl rfl rfl rfl rfl rfl rfl rfl ?_
            refine ab_iload_n X 2 d_RD_typed_21 rfl rfl ?_
            refine ab_if_lt X 69 d_RD_typed_22 rfl (fun hb => absurd hb ((nI_pos (show k < 2 ^ 31 by omega)))) (fun _ => ?_)
            refine ab_iload X 0 d_RD_typed_25 rfl ?_
            refine ab_if_ne X 33 d_RD_typed_27 rfl (fun _ => ?_) (fun hb => absurd hb (c0))
            refine ab_iload X 0 d_RD_typed_33 rfl ?_
            refine ab_bipush (v := 33) X d_RD_typed_35 (by decide) ?_
            refine ab_icmp_lt X 56 d_RD_typed_37 rfl (fun hb => absurd hb (c33)) (fun _ => ?_)
            refine ab_iload X 0 d_RD_typed_40 rfl ?_
            refine ab_bipush (v := 126) X d_RD_typed_42 (by decide) ?_
            refine ab_icmp_gt X 56 d_RD_typed_44 rfl (fun _ => ?_) (fun hb => absurd (c126) hb)
            exact bad _ (tc_stb c0 (Or.inr c126))
          · have hb : ¬ (tb_b x sh < 33 ∨ 126 < tb_b x sh) := fun h => h.elim c33 c126
            rw [tc_stg c0 hb] at hT
            refine ab_iload X 0 d_RD_typed_6 rfl ?_
            refine ab_if_lt X 75 d_RD_typed_8 rfl (fun hb => absurd hb (hs)) (fun _ => ?_)
            refine ab_iload_n X 3 d_RD_typed_11 rfl rfl ?_
            refine ab_iload X 0 d_RD_typed_12 rfl ?_
            refine ab_iushr X d_RD_typed_14 ?_
            refine ab_sipush (v := 255) X d_RD_typed_15 (by decide) ?_
            refine ab_iand X d_RD_typed_18 ?_
            refine ab_istore5 X 0 1 2 3 4 d_RD_typed_19 (by decide) rfl rfl rfl rfl rfl rfl rfl rfl rfl rfl ?_
            refine ab_iload_n X 2 d_RD_typed_21 rfl rfl ?_
            refine ab_if_lt X 69 d_RD_typed_22 rfl (fun hb => absurd hb ((nI_pos (show k < 2 ^ 31 by omega)))) (fun _ => ?_)
            refine ab_iload X 0 d_RD_typed_25 rfl ?_
            refine ab_if_ne X 33 d_RD_typed_27 rfl (fun _ => ?_) (fun hb => absurd hb (c0))
            refine ab_iload X 0 d_RD_typed_33 rfl ?_
            refine ab_bipush (v := 33) X d_RD_typed_35 (by decide) ?_
            refine ab_icmp_lt X 56 d_RD_typed_37 rfl (fun hb => absurd hb (c33)) (fun _ => ?_)
            refine ab_iload X 0 d_RD_typed_40 rfl ?_
            refine ab_bipush (v := 126) X d_RD_typed_42 (by decide) ?_
            refine ab_icmp_gt X 56 d_RD_typed_44 rfl (fun hb => absurd hb (c126)) (fun _ => ?_)
            refine ab_iload_n X 2 d_RD_typed_47 rfl rfl ?_
            refine ab_aload_n X 3 d_RD_typed_48 rfl rfl ?_
            refine ab_gR X fl_RD_9 d_RD_typed_49 (by first | assumption | decide) (e1) ?_
            refine ab_alen X ⟨by decide, _, fun _ => rfl⟩ d_RD_typed_52 (by first | assumption | decide) (rfl) ?_
            refine ab_icmp_lt X 58 d_RD_typed_53 rfl (fun _ => ?_) (fun hb => absurd ((nI_lt (b := 120) (show k < 120 by omega) (by decide))) hb)
            refine ab_aload_n X 3 d_RD_typed_58 rfl rfl ?_
            refine ab_gR X fl_RD_9 d_RD_typed_59 (by first | assumption | decide) (e1) ?_
            refine ab_iload_n X 2 d_RD_typed_62 rfl rfl ?_
            refine ab_iload X 0 d_RD_typed_63 rfl ?_
            refine ab_iast X (k) ⟨rfl, rfl⟩ d_RD_typed_65 (by first | assumption | decide) (rfl) (show k < 120 by omega) (ab_ln_lt _ _) ?_
            refine ab_iinc5 X 2 0 1 3 4 5 d_RD_typed_66 rfl (by decide) rfl rfl rfl rfl rfl rfl rfl rfl rfl rfl ?_
            refine ab_iinc5 X 2 0 1 3 4 5 d_RD_typed_69 rfl (by decide) rfl rfl rfl rfl rfl rfl rfl rfl rfl rfl ?_
            refine ab_goto X 6 d_RD_typed_72 rfl ?_
            refine ab_lv (List.forall_mem_cons.mpr ⟨List.mem_of_getElem? (i := 0) rfl, List.forall_mem_cons.mpr ⟨List.mem_of_getElem? (i := 1) rfl, List.forall_mem_cons.mpr ⟨List.mem_of_getElem? (i := 3) rfl, List.forall_mem_cons.mpr ⟨List.mem_of_getElem? (i := 4) rfl, List.forall_mem_cons.mpr ⟨List.mem_of_getElem? (i := 5) rfl, fun _ h => absurd h List.not_mem_nil⟩⟩⟩⟩⟩) ?_
            have hi := ih (ab_ui u1 11 0 k (tb_b x sh)) (some (k + 1)) hT hu (fun j h => by cases h; omega)
            rw [show tc_v (some (k + 1)) = tc_v (some k) + Int32.ofInt 1 from nI_succ k] at hi
            exact hi
  refine ab_iload_n X 2 d_RD_typed_0 rfl rfl ?_
  refine ab_istore_n3 X 0 1 2 d_RD_typed_1 rfl (by decide) rfl rfl rfl rfl rfl rfl ?_
  refine ab_bipush (v := 24) X d_RD_typed_2 (by decide) ?_
  refine ab_istore4 X 0 1 2 3 d_RD_typed_4 (by decide) rfl rfl rfl rfl rfl rfl rfl rfl ?_
  refine stp 24 [tb_b x 16, tb_b x 8, tb_b x 0] (by decide) (fun u1 o1 q1 q2 q3 => ?_) u o rfl rfl (fun k h => ho k h)
  refine stp (24 + Int32.ofInt (-8)) [tb_b x 8, tb_b x 0] (by decide) (fun u2 o2 q4 q5 q6 => ?_) u1 o1 q1 q2 q3
  refine stp (24 + Int32.ofInt (-8) + Int32.ofInt (-8)) [tb_b x 0] (by decide) (fun u3 o3 q7 q8 q9 => ?_) u2 o2 q4 q5 q6
  refine stp (24 + Int32.ofInt (-8) + Int32.ofInt (-8) + Int32.ofInt (-8)) [] (by decide) (fun u4 o4 q10 q11 q12 => ?_) u3 o3 q7 q8 q9
  exact fin _ (by decide) u4 o4 q10
abbrev b_PF_text : ByteArray := prog_1_method_2_code
def y_PF_text : MethodName := ⟨"PolicyForge", "text", "(IIIII)Z"⟩
theorem d_PF_text_0 : decode b_PF_text 0 = .ok (.aload_n 0, 1) := by decide +kernel
theorem d_PF_text_1 : decode b_PF_text 1 = .ok (.getfield 12, 3) := by decide +kernel
theorem d_PF_text_4 : decode b_PF_text 4 = .ok (.iload_n 1, 1) := by decide +kernel
theorem d_PF_text_5 : decode b_PF_text 5 = .ok (.aload_n 0, 1) := by decide +kernel
theorem d_PF_text_6 : decode b_PF_text 6 = .ok (.getfield 12, 3) := by decide +kernel
theorem d_PF_text_9 : decode b_PF_text 9 = .ok (.getfield 65, 3) := by decide +kernel
theorem d_PF_text_12 : decode b_PF_text 12 = .ok (.invokevirtual 69, 3) := by decide +kernel
theorem d_PF_text_15 : decode b_PF_text 15 = .ok (.istore 6, 2) := by decide +kernel
theorem d_PF_text_17 : decode b_PF_text 17 = .ok (.aload_n 0, 1) := by decide +kernel
theorem d_PF_text_18 : decode b_PF_text 18 = .ok (.getfield 12, 3) := by decide +kernel
theorem d_PF_text_21 : decode b_PF_text 21 = .ok (.iload_n 2, 1) := by decide +kernel
theorem d_PF_text_22 : decode b_PF_text 22 = .ok (.iload 6, 2) := by decide +kernel
theorem d_PF_text_24 : decode b_PF_text 24 = .ok (.invokevirtual 69, 3) := by decide +kernel
theorem d_PF_text_27 : decode b_PF_text 27 = .ok (.istore 6, 2) := by decide +kernel
theorem d_PF_text_29 : decode b_PF_text 29 = .ok (.aload_n 0, 1) := by decide +kernel
theorem d_PF_text_30 : decode b_PF_text 30 = .ok (.getfield 12, 3) := by decide +kernel
theorem d_PF_text_33 : decode b_PF_text 33 = .ok (.iload_n 3, 1) := by decide +kernel
theorem d_PF_text_34 : decode b_PF_text 34 = .ok (.iload 6, 2) := by decide +kernel
theorem d_PF_text_36 : decode b_PF_text 36 = .ok (.invokevirtual 69, 3) := by decide +kernel
theorem d_PF_text_39 : decode b_PF_text 39 = .ok (.istore 6, 2) := by decide +kernel
theorem d_PF_text_41 : decode b_PF_text 41 = .ok (.aload_n 0, 1) := by decide +kernel
theorem d_PF_text_42 : decode b_PF_text 42 = .ok (.getfield 12, 3) := by decide +kernel
theorem d_PF_text_45 : decode b_PF_text 45 = .ok (.iload 4, 2) := by decide +kernel
theorem d_PF_text_47 : decode b_PF_text 47 = .ok (.iload 6, 2) := by decide +kernel
theorem d_PF_text_49 : decode b_PF_text 49 = .ok (.invokevirtual 69, 3) := by decide +kernel
theorem d_PF_text_52 : decode b_PF_text 52 = .ok (.istore 6, 2) := by decide +kernel
theorem d_PF_text_54 : decode b_PF_text 54 = .ok (.aload_n 0, 1) := by decide +kernel
theorem d_PF_text_55 : decode b_PF_text 55 = .ok (.getfield 12, 3) := by decide +kernel
theorem d_PF_text_58 : decode b_PF_text 58 = .ok (.iload 5, 2) := by decide +kernel
theorem d_PF_text_60 : decode b_PF_text 60 = .ok (.iload 6, 2) := by decide +kernel
theorem d_PF_text_62 : decode b_PF_text 62 = .ok (.invokevirtual 69, 3) := by decide +kernel
theorem d_PF_text_65 : decode b_PF_text 65 = .ok (.istore 6, 2) := by decide +kernel
theorem d_PF_text_67 : decode b_PF_text 67 = .ok (.iload 6, 2) := by decide +kernel
theorem d_PF_text_69 : decode b_PF_text 69 = .ok (.ifCond .lt 10, 3) := by decide +kernel
theorem d_PF_text_72 : decode b_PF_text 72 = .ok (.iload 6, 2) := by decide +kernel
theorem d_PF_text_74 : decode b_PF_text 74 = .ok (.bipush 100, 2) := by decide +kernel
theorem d_PF_text_76 : decode b_PF_text 76 = .ok (.if_icmp .le 5, 3) := by decide +kernel
theorem d_PF_text_79 : decode b_PF_text 79 = .ok (.iconst 0, 1) := by decide +kernel
theorem d_PF_text_80 : decode b_PF_text 80 = .ok (.ireturn, 1) := by decide +kernel
theorem d_PF_text_81 : decode b_PF_text 81 = .ok (.aload_n 0, 1) := by decide +kernel
theorem d_PF_text_82 : decode b_PF_text 82 = .ok (.getfield 12, 3) := by decide +kernel
theorem d_PF_text_85 : decode b_PF_text 85 = .ok (.iload 6, 2) := by decide +kernel
theorem d_PF_text_87 : decode b_PF_text 87 = .ok (.putfield 65, 3) := by decide +kernel
theorem d_PF_text_90 : decode b_PF_text 90 = .ok (.iconst 1, 1) := by decide +kernel
theorem d_PF_text_91 : decode b_PF_text 91 = .ok (.ireturn, 1) := by decide +kernel
theorem fl_PF_65 : ab_fl "PolicyForge" 65 1 3 0 := ⟨rfl, R_RD, T_RD, 8, rfl, uw_RD, by decide, rfl, (ab_in 248 (by decide +kernel) (by decide +kernel))⟩
theorem lk_PF_69 : ab_lk "PolicyForge" 69 y_RD_typed b_RD_typed 6 (some FieldType.int) 2 1 := ⟨⟨rfl, T_RD, 8, rfl⟩, List.forall_mem_cons.mpr ⟨(ab_in 384 (by decide +kernel) (by decide +kernel)), List.forall_mem_cons.mpr ⟨(ab_in 385 (by decide +kernel) (by decide +kernel)), List.forall_mem_cons.mpr ⟨(ab_in 386 (by decide +kernel) (by decide +kernel)), List.forall_mem_cons.mpr ⟨(ab_in 93 (by decide +kernel) (by decide +kernel)), List.forall_mem_cons.mpr ⟨(ab_in 387 (by decide +kernel) (by decide +kernel)), fun _ h => absurd h List.not_mem_nil⟩⟩⟩⟩⟩, ⟨by decide +kernel, by decide +kernel, by decide +kernel⟩, by decide⟩
theorem fp_PF_65 : ab_fp "PolicyForge" 65 1 3 0 .int := ⟨rfl, R_RD, T_RD, 8, t_RD, rfl, uw_RD, by decide, rfl, (ab_in 248 (by decide +kernel) (by decide +kernel)), t_RD_ok, n_RD, rfl, rfl⟩
/-- what text answers -/
def tx_a (o : Option Nat) : Bool := match o with
  | none => false
  | some k => decide (k ≤ 100)
def tx_s (q : ab_S × Option Nat) : ab_S := match q.2 with
  | none => q.1
  | some k => if k ≤ 100 then ab_ui q.1 1 0 3 (nI k) else q.1
set_option maxRecDepth 100000 in
set_option maxHeartbeats 4000000 in
theorem c_PF_text (u : ab_S) (x1 x2 x3 x4 x5 : Int32) (n : Nat) (hn : n ≤ 100) (h0 : 0 < N 0) (h1 : 0 < N 1) (h11 : 0 < N 11) (er : u.2.1 0 0 0 = some (1, 0)) (e0 : u.2.1 1 0 0 = some (11, 0)) (el : u.1 1 0 3 = nI n) : ab_C false l D ca y_PF_text b_PF_text 7 (some .boolean) 1 N u [ab_O 0 0, ab_I x1, ab_I x2, ab_I x3, ab_I x4, ab_I x5] (fun u' v => u' = tx_s (tc_run (tb_l x1 ++ (tb_l x2 ++ (tb_l x3 ++ (tb_l x4 ++ tb_l x5)))) (u, some n)) ∧ v = some (ab_I (if tx_a (tc_run (tb_l x1 ++ (tb_l x2 ++ (tb_l x3 ++ (tb_l x4 ++ tb_l x5)))) (u, some n)).2 = true then 1 else 0))) := by
  refine ab_C.of (by decide) (Nat.le_of_ble_eq_true rfl) ?_
  intro p e s m args below meth c ad X hZ hr0 hlk
  have l4 : ∀ x, (tb_l x).length = 4 := fun _ => rfl
  refine ab_aload_n X 0 d_PF_text_0 rfl rfl ?_
  refine ab_gR X fl_PF_12 d_PF_text_1 (by first | assumption | decide) (er) ?_
  refine ab_iload_n X 1 d_PF_text_4 rfl rfl ?_
  refine ab_aload_n X 0 d_PF_text_5 rfl rfl ?_
  refine ab_gR X fl_PF_12 d_PF_text_6 (by first | assumption | decide) (er) ?_
  refine ab_gI X fl_PF_65 d_PF_text_9 (by first | assumption | decide) (el) ?_
  refine ab_callV (as := [ab_I x1, ab_I (tc_v (some n))]) X (fun h => by cases h) (c_RD_typed u x1 (some n) h1 h11 e0 (fun k h => by cases h; omega)) lk_PF_69 d_PF_text_12 rfl rfl (by first | assumption | decide) ⟨by first | exact Nat.le_of_ble_eq_true rfl | (simp only [ab_rm]; omega), by first | exact Nat.le_of_ble_eq_true rfl | (simp only [ab_rm]; omega)⟩ ⟨by first | exact Nat.le_of_ble_eq_true rfl | (simp only [ab_rm]; omega), by first | exact Nat.le_of_ble_eq_true rfl | (simp only [ab_rm]; omega)⟩ (Nat.le_of_ble_eq_true rfl) (fun u12 r12 h12 => ?_)
  obtain ⟨rfl, rfl⟩ := h12
  refine ab_istore6 X 0 1 2 3 4 5 d_PF_text_15 (by decide) rfl rfl rfl rfl rfl rfl rfl rfl rfl rfl rfl rfl ?_
  have r1 : (tc_run (tb_l x1) (u, some n)).1.2 = u.2 := tc_refs _ _
  have k1 : ∀ k, (tc_run (tb_l x1) (u, some n)).2 = some k → k ≤ n + 4 := fun k h => by
    obtain ⟨j, a1, a2, a3⟩ := tc_le _ _ _ h
    cases a1
    exact a3
  have hF1 : tc_run (tb_l x2 ++ (tb_l x3 ++ (tb_l x4 ++ tb_l x5))) (tc_run (tb_l x1) (u, some n)) = (tc_run (tb_l x1 ++ (tb_l x2 ++ (tb_l x3 ++ (tb_l x4 ++ tb_l x5)))) (u, some n)) := (tc_app _ _ _).symm
  revert hF1 k1 r1
  generalize tc_run (tb_l x1) (u, some n) = F1
  intro r1 k1 hF1
  obtain ⟨u1, o1⟩ := F1
  dsimp only at r1 k1
  refine ab_aload_n X 1 d_PF_text_17 rfl rfl ?_
  refine ab_gR X fl_PF_12 d_PF_text_18 (by first | assumption | decide) ((show u1.2.1 0 0 0 = some (1, 0) by rw [r1]; exact er)) ?_
  refine ab_iload_n X 3 d_PF_text_21 rfl rfl ?_
  refine ab_iload X 0 d_PF_text_22 rfl ?_
  refine ab_callV (as := [ab_I x2, ab_I (tc_v o1)]) X (fun h => by cases h) (c_RD_typed u1 x2 o1 h1 h11 (by rw [r1]; exact e0) (fun k h => by have := k1 k h; omega)) lk_PF_69 d_PF_text_24 rfl rfl (by first | assumption | decide) ⟨by first | exact Nat.le_of_ble_eq_true rfl | (simp only [ab_rm]; omega), by first | exact Nat.le_of_ble_eq_true rfl | (simp only [ab_rm]; omega)⟩ ⟨by first | exact Nat.le_of_ble_eq_true rfl | (simp only [ab_rm]; omega), by first | exact Nat.le_of_ble_eq_true rfl | (simp only [ab_rm]; omega)⟩ (Nat.le_of_ble_eq_true rfl) (fun u24 r24 h24 => ?_)
  obtain ⟨rfl, rfl⟩ := h24
  refine ab_istore6 X 1 2 3 4 5 6 d_PF_text_27 (by decide) rfl rfl rfl rfl rfl rfl rfl rfl rfl rfl rfl rfl ?_
  have r2 : (tc_run (tb_l x2) (u1, o1)).1.2 = u.2 := (tc_refs _ _).trans r1
  have k2 : ∀ k, (tc_run (tb_l x2) (u1, o1)).2 = some k → k ≤ n + 8 := fun k h => by
    obtain ⟨j, a1, a2, a3⟩ := tc_le _ _ _ h
    have := k1 j a1
    rw [l4] at a3
    omega
  have hF2 : tc_run (tb_l x3 ++ (tb_l x4 ++ tb_l x5)) (tc_run (tb_l x2) (u1, o1)) = (tc_run (tb_l x1 ++ (tb_l x2 ++ (tb_l x3 ++ (tb_l x4 ++ tb_l x5)))) (u, some n)) := (tc_app _ _ _).symm.trans hF1
  revert hF2 k2 r2
  generalize tc_run (tb_l x2) (u1, o1) = F2
  intro r2 k2 hF2
  obtain ⟨u2, o2⟩ := F2
  dsimp only at r2 k2
  refine ab_aload_n X 1 d_PF_text_29 rfl rfl ?_
  refine ab_gR X fl_PF_12 d_PF_text_30 (by first | assumption | decide) ((show u2.2.1 0 0 0 = some (1, 0) by rw [r2]; exact er)) ?_
  refine ab_iload_n X 4 d_PF_text_33 rfl rfl ?_
  refine ab_iload X 0 d_PF_text_34 rfl ?_
  refine ab_callV (as := [ab_I x3, ab_I (tc_v o2)]) X (fun h => by cases h) (c_RD_typed u2 x3 o2 h1 h11 (by rw [r2]; exact e0) (fun k h => by have := k2 k h; omega)) lk_PF_69 d_PF_text_36 rfl rfl (by first | assumption | decide) ⟨by first | exact Nat.le_of_ble_eq_true rfl | (simp only [ab_rm]; omega), by first | exact Nat.le_of_ble_eq_true rfl | (simp only [ab_rm]; omega)⟩ ⟨by first | exact Nat.le_of_ble_eq_true rfl | (simp only [ab_rm]; omega), by first | exact Nat.le_of_ble_eq_true rfl | (simp only [ab_rm]; omega)⟩ (Nat.le_of_ble_eq_true rfl) (fun u36 r36 h36 => ?_)
  obtain ⟨rfl, rfl⟩ := h36
  refine ab_istore6 X 1 2 3 4 5 6 d_PF_text_39 (by decide) rfl rfl rfl rfl rfl rfl rfl rfl rfl rfl rfl rfl ?_
  have r3 : (tc_run (tb_l x3) (u2, o2)).1.2 = u.2 := (tc_refs _ _).trans r2
  have k3 : ∀ k, (tc_run (tb_l x3) (u2, o2)).2 = some k → k ≤ n + 12 := fun k h => by
    obtain ⟨j, a1, a2, a3⟩ := tc_le _ _ _ h
    have := k2 j a1
    rw [l4] at a3
    omega
  have hF3 : tc_run (tb_l x4 ++ tb_l x5) (tc_run (tb_l x3) (u2, o2)) = (tc_run (tb_l x1 ++ (tb_l x2 ++ (tb_l x3 ++ (tb_l x4 ++ tb_l x5)))) (u, some n)) := (tc_app _ _ _).symm.trans hF2
  revert hF3 k3 r3
  generalize tc_run (tb_l x3) (u2, o2) = F3
  intro r3 k3 hF3
  obtain ⟨u3, o3⟩ := F3
  dsimp only at r3 k3
  refine ab_aload_n X 1 d_PF_text_41 rfl rfl ?_
  refine ab_gR X fl_PF_12 d_PF_text_42 (by first | assumption | decide) ((show u3.2.1 0 0 0 = some (1, 0) by rw [r3]; exact er)) ?_
  refine ab_iload X 5 d_PF_text_45 rfl ?_
  refine ab_iload X 0 d_PF_text_47 rfl ?_
  refine ab_callV (as := [ab_I x4, ab_I (tc_v o3)]) X (fun h => by cases h) (c_RD_typed u3 x4 o3 h1 h11 (by rw [r3]; exact e0) (fun k h => by have := k3 k h; omega)) lk_PF_69 d_PF_text_49 rfl rfl (by first | assumption | decide) ⟨by first | exact Nat.le_of_ble_eq_true rfl | (simp only [ab_rm]; omega), by first | exact Nat.le_of_ble_eq_true rfl | (simp only [ab_rm]; omega)⟩ ⟨by first | exact Nat.le_of_ble_eq_true rfl | (simp only [ab_rm]; omega), by first | exact Nat.le_of_ble_eq_true rfl | (simp only [ab_rm]; omega)⟩ (Nat.le_of_ble_eq_true rfl) (fun u49 r49 h49 => ?_)
  obtain ⟨rfl, rfl⟩ := h49
  refine ab_istore6 X 1 2 3 4 5 6 d_PF_text_52 (by decide) rfl rfl rfl rfl rfl rfl rfl rfl rfl rfl rfl rfl ?_
  have r4 : (tc_run (tb_l x4) (u3, o3)).1.2 = u.2 := (tc_refs _ _).trans r3
  have k4 : ∀ k, (tc_run (tb_l x4) (u3, o3)).2 = some k → k ≤ n + 16 := fun k h => by
    obtain ⟨j, a1, a2, a3⟩ := tc_le _ _ _ h
    have := k3 j a1
    rw [l4] at a3
    omega
  have hF4 : tc_run (tb_l x5) (tc_run (tb_l x4) (u3, o3)) = (tc_run (tb_l x1 ++ (tb_l x2 ++ (tb_l x3 ++ (tb_l x4 ++ tb_l x5)))) (u, some n)) := (tc_app _ _ _).symm.trans hF3
  revert hF4 k4 r4
  generalize tc_run (tb_l x4) (u3, o3) = F4
  intro r4 k4 hF4
  obtain ⟨u4, o4⟩ := F4
  dsimp only at r4 k4
  refine ab_aload_n X 1 d_PF_text_54 rfl rfl ?_
  refine ab_gR X fl_PF_12 d_PF_text_55 (by first | assumption | decide) ((show u4.2.1 0 0 0 = some (1, 0) by rw [r4]; exact er)) ?_
  refine ab_iload X 6 d_PF_text_58 rfl ?_
  refine ab_iload X 0 d_PF_text_60 rfl ?_
  refine ab_callV (as := [ab_I x5, ab_I (tc_v o4)]) X (fun h => by cases h) (c_RD_typed u4 x5 o4 h1 h11 (by rw [r4]; exact e0) (fun k h => by have := k4 k h; omega)) lk_PF_69 d_PF_text_62 rfl rfl (by first | assumption | decide) ⟨by first | exact Nat.le_of_ble_eq_true rfl | (simp only [ab_rm]; omega), by first | exact Nat.le_of_ble_eq_true rfl | (simp only [ab_rm]; omega)⟩ ⟨by first | exact Nat.le_of_ble_eq_true rfl | (simp only [ab_rm]; omega), by first | exact Nat.le_of_ble_eq_true rfl | (simp only [ab_rm]; omega)⟩ (Nat.le_of_ble_eq_true rfl) (fun u62 r62 h62 => ?_)
  obtain ⟨rfl, rfl⟩ := h62
  refine ab_istore6 X 1 2 3 4 5 6 d_PF_text_65 (by decide) rfl rfl rfl rfl rfl rfl rfl rfl rfl rfl rfl rfl ?_
  have r5 : (tc_run (tb_l x5) (u4, o4)).1.2 = u.2 := (tc_refs _ _).trans r4
  have k5 : ∀ k, (tc_run (tb_l x5) (u4, o4)).2 = some k → k ≤ n + 20 := fun k h => by
    obtain ⟨j, a1, a2, a3⟩ := tc_le _ _ _ h
    have := k4 j a1
    rw [l4] at a3
    omega
  revert hF4 k5 r5
  generalize tc_run (tb_l x5) (u4, o4) = F5
  intro hF5 r5 k5
  rw [← hF5]
  obtain ⟨u5, o5⟩ := F5
  dsimp only at r5 k5
  cases o5 with
  | none =>
    refine ab_iload X 0 d_PF_text_67 rfl ?_
    refine ab_if_lt X 79 d_PF_text_69 rfl (fun _ => ?_) (fun hb => absurd ((show (-1 : Int32) < 0 by decide)) hb)
    refine ab_iconst (v := 0) X d_PF_text_79 (by decide) ?_
    exact ab_retz X hr0 hlk (Or.inl rfl) d_PF_text_80 ⟨rfl, rfl⟩
  | some k =>
    have hk := k5 k rfl
    by_cases hz : k ≤ 100
    ·
      refine ab_iload X 0 d_PF_text_67 rfl ?_
      refine ab_if_lt X 79 d_PF_text_69 rfl (fun hb => absurd hb ((nI_pos (show k < 2 ^ 31 by omega)))) (fun _ => ?_)
      refine ab_iload X 0 d_PF_text_72 rfl ?_
      refine ab_bipush (v := 100) X d_PF_text_74 (by decide) ?_
      refine ab_icmp_le X 81 d_PF_text_76 rfl (fun _ => ?_) (fun hb => absurd ((nI_le (b := 100) hz (by decide))) hb)
      refine ab_aload_n X 1 d_PF_text_81 rfl rfl ?_
      refine ab_gR X fl_PF_12 d_PF_text_82 (by first | assumption | decide) ((show u5.2.1 0 0 0 = some (1, 0) by rw [r5]; exact er)) ?_
      refine ab_iload X 0 d_PF_text_85 rfl ?_
      refine ab_putI X fp_PF_65 d_PF_text_87 (by first | assumption | decide) rfl rfl ?_
      refine ab_iconst (v := 1) X d_PF_text_90 (by decide) ?_
      exact ab_retz X hr0 hlk (Or.inr rfl) d_PF_text_91 ⟨by show _ = if k ≤ 100 then _ else _; rw [if_pos hz]; rfl, by simp [tx_a, hz]⟩
    ·
      refine ab_iload X 0 d_PF_text_67 rfl ?_
      refine ab_if_lt X 79 d_PF_text_69 rfl (fun hb => absurd hb ((nI_pos (show k < 2 ^ 31 by omega)))) (fun _ => ?_)
      refine ab_iload X 0 d_PF_text_72 rfl ?_
      refine ab_bipush (v := 100) X d_PF_text_74 (by decide) ?_
      refine ab_icmp_le X 81 d_PF_text_76 rfl (fun hb => absurd hb ((nI_ge (b := k) (a := 100) (by omega) (by omega)))) (fun _ => ?_)
      refine ab_iconst (v := 0) X d_PF_text_79 (by decide) ?_
      exact ab_retz X hr0 hlk (Or.inl rfl) d_PF_text_80 ⟨by show _ = if k ≤ 100 then _ else _; rw [if_neg hz], by simp [tx_a, hz]⟩
end AbText

