/-! The class's own methods: every call comes to its end. -/
/-- after a read: the text is empty -/
def wP (u0 u : ab_S) : Prop := CI u ∧ u.2.2 = u0.2.2 ∧ (∀ c i k, ¬ c ∈ [0, 1, 2, 3, 4, 5, 6, 7, 8, 9, 10, 11, 12, 13, 14, 15, 16] → u.1 c i k = u0.1 c i k ∧ u.2.1 c i k = u0.2.1 c i k) ∧ u.1 1 0 3 = 0
theorem wP.trans {K : List Nat} {a b c : ab_S} (h : wP a b) (g : cP K b c) (hK : ∀ z ∈ K, z ∈ [0, 1, 2, 3, 4, 5, 6, 7, 8, 9, 10, 11, 12, 13, 14, 15, 16]) : wP a c := ⟨g.1, g.2.1.trans h.2.1, fun z i k hz => ⟨(g.2.2.1 z i k (fun q => hz (hK z q))).1.trans (h.2.2.1 z i k hz).1, (g.2.2.1 z i k (fun q => hz (hK z q))).2.trans (h.2.2.1 z i k hz).2⟩, g.2.2.2.trans h.2.2.2⟩
theorem wP.of {a b c : ab_S} (h : cP [0, 1, 2, 3, 4, 5, 6, 7, 8, 9, 10, 11, 12, 13, 14, 15, 16] a b) (g : wP b c) : wP a c := ⟨g.1, g.2.1.trans h.2.1, fun z i k hz => ⟨(g.2.2.1 z i k hz).1.trans (h.2.2.1 z i k hz).1, (g.2.2.1 z i k hz).2.trans (h.2.2.1 z i k hz).2⟩, g.2.2.2⟩
theorem wP.pol {a b : ab_S} (h : wP a b) {r : Option (Nat × Nat)} (hr : r = none ∨ ∃ q, q < 20 ∧ r = some (2, q)) : wP a (ab_ur b 0 0 7 r) := by
  have q : cP [0, 1, 2, 3, 4, 5, 6, 7, 8, 9, 10, 11, 12, 13, 14, 15, 16] b (ab_ur b 0 0 7 r) := (cQ.rf h.1 : cP [0, 1, 2, 3, 4, 5, 6, 7, 8, 9, 10, 11, 12, 13, 14, 15, 16] b b).pol (by decide) hr
  exact h.trans q (fun _ q => q)
theorem wP.len {a b : ab_S} (h : cP [0, 1, 2, 3, 4, 5, 6, 7, 8, 9, 10, 11, 12, 13, 14, 15, 16] a b) : wP a (ab_ui b 1 0 3 0) := by
  have e : ∀ c i k, ¬ (c = 1 ∧ k = 3) → ab_up b.1 1 0 3 (0 : Int32) c i k = b.1 c i k := fun c i k hn => ab_up_n _ _ (fun z => hn ⟨z.1, z.2.2⟩)
  obtain ⟨⟨r0, r1, r2, r3, r4, r5, r6, r7⟩, s1, s2, s3⟩ := h
  refine ⟨⟨r0, fun r hr => ?_, fun f hf => ?_, fun p hp => ?_, ⟨?_, ?_⟩, ⟨⟨0, by decide, ui_s _⟩, ?_, ?_⟩, r6, ⟨?_, ?_, ?_⟩⟩, s1, fun c i k hc => ⟨(e c i k (fun z => hc (by rw [z.1]; decide))).trans (s2 c i k hc).1, (s2 c i k hc).2⟩, ui_s _⟩
  · obtain ⟨n, a1, a2⟩ := r1 r hr
    exact ⟨n, a1, (e _ _ _ (by omega)).trans a2⟩
  · obtain ⟨n, a1, a2, a3, a4⟩ := r2 f hf
    refine ⟨n, a1, (e _ _ _ (by omega)).trans a2, a3, fun q => ?_⟩
    show ci_cl (ab_up b.1 1 0 3 0 3 f 4) n
    rw [e _ _ _ (by omega)]; exact a4 q
  · obtain ⟨⟨n, a1, a2, a3⟩, a4⟩ := r3 p hp
    refine ⟨⟨n, a1, (e _ _ _ (by omega)).trans a2, a3⟩, ?_⟩
    show ab_up b.1 1 0 3 0 2 p 7 = 0 ∨ ab_up b.1 1 0 3 0 2 p 7 = 1
    rw [e _ _ _ (by omega)]; exact a4
  · obtain ⟨n, a1, a2⟩ := r4.1
    exact ⟨n, a1, (e _ _ _ (by omega)).trans a2⟩
  · obtain ⟨n, a1, a2, a3⟩ := r4.2
    exact ⟨n, a1, (e _ _ _ (by omega)).trans a2, a3⟩
  · obtain ⟨n, a1, a2⟩ := r5.2.1
    exact ⟨n, a1, (e _ _ _ (by omega)).trans a2⟩
  · obtain ⟨n, a1, a2⟩ := r5.2.2
    exact ⟨n, a1, (e _ _ _ (by omega)).trans a2⟩
  · obtain ⟨n, a1, a2⟩ := r7.1
    exact ⟨n, a1, (e _ _ _ (by omega)).trans a2⟩
  · obtain ⟨n, a1, a2⟩ := r7.2.1
    exact ⟨n, a1, (e _ _ _ (by omega)).trans a2⟩
  · obtain ⟨n, a1, a2⟩ := r7.2.2
    exact ⟨n, a1, (e _ _ _ (by omega)).trans a2⟩
section SaPF
variable {l : Launch} {D : va_G} {ca : Nat → ClassId}
theorem t_PF_isItem (u : ab_S) (x : Int32) : ab_C false l D ca y_PF_isItem b_PF_isItem 1 (some .boolean) 0 ab_nQ u [ab_I x] (fun u' v => u' = u ∧ ∃ b : Int32, v = some (ab_I b)) := by
  refine ab_C_mono (c_PF_isItem u x) ?_
  rintro u' v ⟨rfl, ⟨-, rfl⟩ | ⟨-, rfl⟩⟩
  · exact ⟨rfl, 1, rfl⟩
  · exact ⟨rfl, 0, rfl⟩
abbrev b_RD_whole : ByteArray := prog_6_method_3_code
def y_RD_whole : MethodName := ⟨"PolicyForge$Reader", "whole", "()LPolicyForge$Part;"⟩
theorem d_RD_whole_0 : decode b_RD_whole 0 = .ok (.aload_n 0, 1) := by decide +kernel
theorem d_RD_whole_1 : decode b_RD_whole 1 = .ok (.iconst 0, 1) := by decide +kernel
theorem d_RD_whole_2 : decode b_RD_whole 2 = .ok (.putfield 30, 3) := by decide +kernel
theorem d_RD_whole_5 : decode b_RD_whole 5 = .ok (.aload_n 0, 1) := by decide +kernel
theorem d_RD_whole_6 : decode b_RD_whole 6 = .ok (.iconst (-1), 1) := by decide +kernel
theorem d_RD_whole_7 : decode b_RD_whole 7 = .ok (.putfield 33, 3) := by decide +kernel
theorem d_RD_whole_10 : decode b_RD_whole 10 = .ok (.aload_n 0, 1) := by decide +kernel
theorem d_RD_whole_11 : decode b_RD_whole 11 = .ok (.iconst 0, 1) := by decide +kernel
theorem d_RD_whole_12 : decode b_RD_whole 12 = .ok (.putfield 36, 3) := by decide +kernel
theorem d_RD_whole_15 : decode b_RD_whole 15 = .ok (.aload_n 0, 1) := by decide +kernel
theorem d_RD_whole_16 : decode b_RD_whole 16 = .ok (.iconst 0, 1) := by decide +kernel
theorem d_RD_whole_17 : decode b_RD_whole 17 = .ok (.putfield 39, 3) := by decide +kernel
theorem d_RD_whole_20 : decode b_RD_whole 20 = .ok (.aload_n 0, 1) := by decide +kernel
theorem d_RD_whole_21 : decode b_RD_whole 21 = .ok (.iconst 0, 1) := by decide +kernel
theorem d_RD_whole_22 : decode b_RD_whole 22 = .ok (.invokevirtual 42, 3) := by decide +kernel
theorem d_RD_whole_25 : decode b_RD_whole 25 = .ok (.astore_n 1, 1) := by decide +kernel
theorem d_RD_whole_26 : decode b_RD_whole 26 = .ok (.aload_n 1, 1) := by decide +kernel
theorem d_RD_whole_27 : decode b_RD_whole 27 = .ok (.ifnull 24, 3) := by decide +kernel
theorem d_RD_whole_30 : decode b_RD_whole 30 = .ok (.aload_n 0, 1) := by decide +kernel
theorem d_RD_whole_31 : decode b_RD_whole 31 = .ok (.getfield 30, 3) := by decide +kernel
theorem d_RD_whole_34 : decode b_RD_whole 34 = .ok (.aload_n 0, 1) := by decide +kernel
theorem d_RD_whole_35 : decode b_RD_whole 35 = .ok (.getfield 26, 3) := by decide +kernel
theorem d_RD_whole_38 : decode b_RD_whole 38 = .ok (.if_icmp .ge 13, 3) := by decide +kernel
theorem d_RD_whole_41 : decode b_RD_whole 41 = .ok (.aload_n 0, 1) := by decide +kernel
theorem d_RD_whole_42 : decode b_RD_whole 42 = .ok (.aload_n 0, 1) := by decide +kernel
theorem d_RD_whole_43 : decode b_RD_whole 43 = .ok (.getfield 30, 3) := by decide +kernel
theorem d_RD_whole_46 : decode b_RD_whole 46 = .ok (.putfield 33, 3) := by decide +kernel
theorem d_RD_whole_49 : decode b_RD_whole 49 = .ok (.aconst_null, 1) := by decide +kernel
theorem d_RD_whole_50 : decode b_RD_whole 50 = .ok (.astore_n 1, 1) := by decide +kernel
theorem d_RD_whole_51 : decode b_RD_whole 51 = .ok (.aload_n 0, 1) := by decide +kernel
theorem d_RD_whole_52 : decode b_RD_whole 52 = .ok (.iconst 0, 1) := by decide +kernel
theorem d_RD_whole_53 : decode b_RD_whole 53 = .ok (.putfield 26, 3) := by decide +kernel
theorem d_RD_whole_56 : decode b_RD_whole 56 = .ok (.aload_n 1, 1) := by decide +kernel
theorem d_RD_whole_57 : decode b_RD_whole 57 = .ok (.areturn, 1) := by decide +kernel
set_option maxRecDepth 100000 in
set_option maxHeartbeats 1000000 in
theorem s_RD_whole (u : ab_S) (h : CI u) : ab_C true l D ca y_RD_whole b_RD_whole 2 (some (FieldType.object "PolicyForge$Part")) 90 ab_nQ u [ab_O 1 0] (fun u' v => wP u u' ∧ ∃ r : Option (Nat × Nat), (r = none ∨ ∃ q, q < 20 ∧ r = some (2, q)) ∧ v = some (ab_R r)) := by
  refine ab_C.of (by decide) (Nat.le_of_ble_eq_true rfl) ?_
  intro p e s m args below meth c ad X hZ hr0 hlk
  have P0 : cP [1, 2, 10] u u := cQ.rf h
  have fin : ∀ (u1 : ab_S) (r : Option (Nat × Nat)), cP [1, 2, 10] u u1 → (r = none ∨ ∃ q, q < 20 ∧ r = some (2, q)) → ab_J p l e (ab_rm 90 0 0) s m args below meth c (MQ below (ab_Q D ca ad ab_nQ s.heap.size (fun u' v => wP u u' ∧ ∃ r : Option (Nat × Nat), (r = none ∨ ∃ q, q < 20 ∧ r = some (2, q)) ∧ v = some (ab_R r))) args s 0 0 (ab_A ad ab_nQ s.heap.size)) D ca (ab_A ad ab_nQ s.heap.size) s.heap 2 0 0 ad ab_nQ u1 51 [(1, ab_R r), (0, ab_O 1 0)] [] := by
    intro u1 r P1 hr
    refine ab_aload_n X 1 d_RD_whole_51 rfl rfl ?_
    refine ab_iconst (v := 0) X d_RD_whole_52 (by decide) ?_
    refine ab_putI X fp_RD_26 d_RD_whole_53 (by first | assumption | decide) rfl rfl ?_
    refine ab_aload_n X 0 d_RD_whole_56 rfl rfl ?_
    exact ab_retr X hr0 hlk d_RD_whole_57 ⟨wP.len (P1.wk (by decide)), r, hr, rfl⟩
  refine ab_aload_n X 0 d_RD_whole_0 rfl rfl ?_
  refine ab_iconst (v := 0) X d_RD_whole_1 (by decide) ?_
  refine ab_putI X fp_RD_30 d_RD_whole_2 (by first | assumption | decide | (show _ < 124; omega) | (show _ < 61; omega) | (show _ < 20; omega)) rfl rfl ?_
  refine ab_gen (fun u2 e2 => ?_)
  have P2 : cP [1, 2, 10] u u2 := by rw [e2]; exact P0.at (by decide) (n := 0) (by omega)
  refine ab_aload_n X 0 d_RD_whole_5 rfl rfl ?_
  refine ab_iconst (v := (-1)) X d_RD_whole_6 (by decide) ?_
  refine ab_putI X fp_RD_33 d_RD_whole_7 (by first | assumption | decide | (show _ < 124; omega) | (show _ < 61; omega) | (show _ < 20; omega)) rfl rfl ?_
  refine ab_gen (fun u7 e7 => ?_)
  have P7 : cP [1, 2, 10] u u7 := by rw [e7]; exact P2.ui rfl (by decide)
  refine ab_aload_n X 0 d_RD_whole_10 rfl rfl ?_
  refine ab_iconst (v := 0) X d_RD_whole_11 (by decide) ?_
  refine ab_putI X fp_RD_36 d_RD_whole_12 (by first | assumption | decide | (show _ < 124; omega) | (show _ < 61; omega) | (show _ < 20; omega)) rfl rfl ?_
  refine ab_gen (fun u12 e12 => ?_)
  have P12 : cP [1, 2, 10] u u12 := by rw [e12]; exact P7.ui rfl (by decide)
  refine ab_aload_n X 0 d_RD_whole_15 rfl rfl ?_
  refine ab_iconst (v := 0) X d_RD_whole_16 (by decide) ?_
  refine ab_putI X fp_RD_39 d_RD_whole_17 (by first | assumption | decide | (show _ < 124; omega) | (show _ < 61; omega) | (show _ < 20; omega)) rfl rfl ?_
  refine ab_gen (fun u17 e17 => ?_)
  have P17 : cP [1, 2, 10] u u17 := by rw [e17]; exact P12.used (by decide) (n := 0) (by omega)
  refine ab_aload_n X 0 d_RD_whole_20 rfl rfl ?_
  refine ab_iconst (v := 0) X d_RD_whole_21 (by decide) ?_
  refine ab_callV (as := [ab_I (nI 0)]) X (fun _ => hZ rfl) (s_RD_readPart 41 0 u17 rfl P17.1) lk_RD_42 d_RD_whole_22 rfl rfl (by first | assumption | decide | (show _ < 124; omega) | (show _ < 61; omega) | (show _ < 20; omega)) ⟨by first | exact Nat.le_of_ble_eq_true rfl | (simp only [ab_rm]; omega), by first | exact Nat.le_of_ble_eq_true rfl | (simp only [ab_rm]; omega)⟩ ⟨by first | exact Nat.le_of_ble_eq_true rfl | (simp only [ab_rm]; omega), by first | exact Nat.le_of_ble_eq_true rfl | (simp only [ab_rm]; omega)⟩ (Nat.le_of_ble_eq_true rfl) (fun u22 r22 h22 => ?_)
  obtain ⟨q22, r22, hr22, rfl⟩ := h22
  have P22 := P17.trans q22 (by decide)
  refine ab_astore_n1 X 0 d_RD_whole_25 rfl (by decide) rfl rfl ?_
  refine ab_aload_n X 0 d_RD_whole_26 rfl rfl ?_
  refine ab_ifnull X 51 d_RD_whole_27 rfl (fun h27 => ?_) (fun h27 => ?_)
  ·
    first | exact fin _ _ P22 hr22 | exact fin _ _ P22 (Or.inl rfl)
  ·
    refine ab_aload_n X 1 d_RD_whole_30 rfl rfl ?_
    refine ab_gI X fl_RD_30 d_RD_whole_31 (by first | assumption | decide | (show _ < 124; omega) | (show _ < 61; omega) | (show _ < 20; omega)) (rfl) ?_
    refine ab_aload_n X 1 d_RD_whole_34 rfl rfl ?_
    refine ab_gI X fl_RD_26 d_RD_whole_35 (by first | assumption | decide | (show _ < 124; omega) | (show _ < 61; omega) | (show _ < 20; omega)) (rfl) ?_
    refine ab_icmp_ge X 51 d_RD_whole_38 rfl (fun h38 => ?_) (fun h38 => ?_)
    ·
      first | exact fin _ _ P22 hr22 | exact fin _ _ P22 (Or.inl rfl)
    ·
      refine ab_aload_n X 1 d_RD_whole_41 rfl rfl ?_
      refine ab_aload_n X 1 d_RD_whole_42 rfl rfl ?_
      refine ab_gI X fl_RD_30 d_RD_whole_43 (by first | assumption | decide | (show _ < 124; omega) | (show _ < 61; omega) | (show _ < 20; omega)) (rfl) ?_
      refine ab_putI X fp_RD_33 d_RD_whole_46 (by first | assumption | decide | (show _ < 124; omega) | (show _ < 61; omega) | (show _ < 20; omega)) rfl rfl ?_
      refine ab_gen (fun u46 e46 => ?_)
      have P46 : cP [1, 2, 10] u u46 := by rw [e46]; exact P22.ui rfl (by decide)
      refine ab_null X d_RD_whole_49 ?_
      refine ab_astore_n1 X 1 d_RD_whole_50 rfl (by decide) rfl rfl ?_
      first | exact fin _ _ P46 hr22 | exact fin _ _ P46 (Or.inl rfl)
abbrev b_PF_read : ByteArray := prog_1_method_3_code
def y_PF_read : MethodName := ⟨"PolicyForge", "read", "()I"⟩
theorem d_PF_read_0 : decode b_PF_read 0 = .ok (.aload_n 0, 1) := by decide +kernel
theorem d_PF_read_1 : decode b_PF_read 1 = .ok (.getfield 37, 3) := by decide +kernel
theorem d_PF_read_4 : decode b_PF_read 4 = .ok (.invokevirtual 73, 3) := by decide +kernel
theorem d_PF_read_7 : decode b_PF_read 7 = .ok (.aload_n 0, 1) := by decide +kernel
theorem d_PF_read_8 : decode b_PF_read 8 = .ok (.aload_n 0, 1) := by decide +kernel
theorem d_PF_read_9 : decode b_PF_read 9 = .ok (.getfield 12, 3) := by decide +kernel
theorem d_PF_read_12 : decode b_PF_read 12 = .ok (.invokevirtual 74, 3) := by decide +kernel
theorem d_PF_read_15 : decode b_PF_read 15 = .ok (.putfield 58, 3) := by decide +kernel
theorem d_PF_read_18 : decode b_PF_read 18 = .ok (.aload_n 0, 1) := by decide +kernel
theorem d_PF_read_19 : decode b_PF_read 19 = .ok (.getfield 58, 3) := by decide +kernel
theorem d_PF_read_22 : decode b_PF_read 22 = .ok (.ifnonnull 11, 3) := by decide +kernel
theorem d_PF_read_25 : decode b_PF_read 25 = .ok (.new 78, 3) := by decide +kernel
theorem d_PF_read_28 : decode b_PF_read 28 = .ok (.dup, 1) := by decide +kernel
theorem d_PF_read_29 : decode b_PF_read 29 = .ok (.invokespecial 80, 3) := by decide +kernel
theorem d_PF_read_32 : decode b_PF_read 32 = .ok (.athrow, 1) := by decide +kernel
theorem d_PF_read_33 : decode b_PF_read 33 = .ok (.aload_n 0, 1) := by decide +kernel
theorem d_PF_read_34 : decode b_PF_read 34 = .ok (.getfield 12, 3) := by decide +kernel
theorem d_PF_read_37 : decode b_PF_read 37 = .ok (.getfield 81, 3) := by decide +kernel
theorem d_PF_read_40 : decode b_PF_read 40 = .ok (.iconst 1, 1) := by decide +kernel
theorem d_PF_read_41 : decode b_PF_read 41 = .ok (.isub, 1) := by decide +kernel
theorem d_PF_read_42 : decode b_PF_read 42 = .ok (.istore_n 1, 1) := by decide +kernel
theorem d_PF_read_43 : decode b_PF_read 43 = .ok (.iload_n 1, 1) := by decide +kernel
theorem d_PF_read_44 : decode b_PF_read 44 = .ok (.ifCond .lt 25, 3) := by decide +kernel
theorem d_PF_read_47 : decode b_PF_read 47 = .ok (.aload_n 0, 1) := by decide +kernel
theorem d_PF_read_48 : decode b_PF_read 48 = .ok (.getfield 12, 3) := by decide +kernel
theorem d_PF_read_51 : decode b_PF_read 51 = .ok (.getfield 84, 3) := by decide +kernel
theorem d_PF_read_54 : decode b_PF_read 54 = .ok (.iload_n 1, 1) := by decide +kernel
theorem d_PF_read_55 : decode b_PF_read 55 = .ok (.aaload, 1) := by decide +kernel
theorem d_PF_read_56 : decode b_PF_read 56 = .ok (.aload_n 0, 1) := by decide +kernel
theorem d_PF_read_57 : decode b_PF_read 57 = .ok (.getfield 21, 3) := by decide +kernel
theorem d_PF_read_60 : decode b_PF_read 60 = .ok (.invokevirtual 88, 3) := by decide +kernel
theorem d_PF_read_63 : decode b_PF_read 63 = .ok (.iinc 1 (-1), 3) := by decide +kernel
theorem d_PF_read_66 : decode b_PF_read 66 = .ok (.goto (-23), 3) := by decide +kernel
theorem d_PF_read_69 : decode b_PF_read 69 = .ok (.aload_n 0, 1) := by decide +kernel
theorem d_PF_read_70 : decode b_PF_read 70 = .ok (.getfield 37, 3) := by decide +kernel
theorem d_PF_read_73 : decode b_PF_read 73 = .ok (.aload_n 0, 1) := by decide +kernel
theorem d_PF_read_74 : decode b_PF_read 74 = .ok (.getfield 58, 3) := by decide +kernel
theorem d_PF_read_77 : decode b_PF_read 77 = .ok (.getfield 94, 3) := by decide +kernel
theorem d_PF_read_80 : decode b_PF_read 80 = .ok (.iconst 0, 1) := by decide +kernel
theorem d_PF_read_81 : decode b_PF_read 81 = .ok (.invokevirtual 97, 3) := by decide +kernel
theorem d_PF_read_84 : decode b_PF_read 84 = .ok (.aload_n 0, 1) := by decide +kernel
theorem d_PF_read_85 : decode b_PF_read 85 = .ok (.getfield 37, 3) := by decide +kernel
theorem d_PF_read_88 : decode b_PF_read 88 = .ok (.getfield 101, 3) := by decide +kernel
theorem d_PF_read_91 : decode b_PF_read 91 = .ok (.ireturn, 1) := by decide +kernel
theorem lk_PF_73 : ab_lk "PolicyForge" 73 y_SC_start b_SC_start 1 none 0 5 := ⟨⟨rfl, T_SC, 4, rfl⟩, List.forall_mem_cons.mpr ⟨(ab_in 408 (by decide +kernel) (by decide +kernel)), List.forall_mem_cons.mpr ⟨(ab_in 409 (by decide +kernel) (by decide +kernel)), List.forall_mem_cons.mpr ⟨(ab_in 410 (by decide +kernel) (by decide +kernel)), List.forall_mem_cons.mpr ⟨(ab_in 97 (by decide +kernel) (by decide +kernel)), List.forall_mem_cons.mpr ⟨(ab_in 411 (by decide +kernel) (by decide +kernel)), fun _ h => absurd h List.not_mem_nil⟩⟩⟩⟩⟩, ⟨by decide +kernel, by decide +kernel, by decide +kernel⟩, by decide⟩
theorem lk_PF_74 : ab_lk "PolicyForge" 74 y_RD_whole b_RD_whole 2 (some (FieldType.object "PolicyForge$Part")) 0 1 := ⟨⟨rfl, T_RD, 8, rfl⟩, List.forall_mem_cons.mpr ⟨(ab_in 412 (by decide +kernel) (by decide +kernel)), List.forall_mem_cons.mpr ⟨(ab_in 413 (by decide +kernel) (by decide +kernel)), List.forall_mem_cons.mpr ⟨(ab_in 414 (by decide +kernel) (by decide +kernel)), List.forall_mem_cons.mpr ⟨(ab_in 93 (by decide +kernel) (by decide +kernel)), List.forall_mem_cons.mpr ⟨(ab_in 415 (by decide +kernel) (by decide +kernel)), fun _ h => absurd h List.not_mem_nil⟩⟩⟩⟩⟩, ⟨by decide +kernel, by decide +kernel, by decide +kernel⟩, by decide⟩
theorem fl_PF_21 : ab_fl "PolicyForge" 21 0 1 1 := ⟨rfl, R_PF, T_PF, 8, rfl, uw_PF, by decide, rfl, (ab_in 356 (by decide +kernel) (by decide +kernel))⟩
theorem lk_PF_88 : ab_lk "PolicyForge" 88 y_PT_chooseForms b_PT_chooseForms 2 none 1 2 := ⟨⟨rfl, T_PT, 8, rfl⟩, List.forall_mem_cons.mpr ⟨(ab_in 599 (by decide +kernel) (by decide +kernel)), List.forall_mem_cons.mpr ⟨(ab_in 600 (by decide +kernel) (by decide +kernel)), List.forall_mem_cons.mpr ⟨(ab_in 601 (by decide +kernel) (by decide +kernel)), List.forall_mem_cons.mpr ⟨(ab_in 94 (by decide +kernel) (by decide +kernel)), List.forall_mem_cons.mpr ⟨(ab_in 602 (by decide +kernel) (by decide +kernel)), fun _ h => absurd h List.not_mem_nil⟩⟩⟩⟩⟩, ⟨by decide +kernel, by decide +kernel, by decide +kernel⟩, by decide⟩
theorem lk_PF_97 : ab_lk "PolicyForge" 97 y_SC_write b_SC_write 3 none 2 5 := ⟨⟨rfl, T_SC, 4, rfl⟩, List.forall_mem_cons.mpr ⟨(ab_in 681 (by decide +kernel) (by decide +kernel)), List.forall_mem_cons.mpr ⟨(ab_in 682 (by decide +kernel) (by decide +kernel)), List.forall_mem_cons.mpr ⟨(ab_in 683 (by decide +kernel) (by decide +kernel)), List.forall_mem_cons.mpr ⟨(ab_in 97 (by decide +kernel) (by decide +kernel)), List.forall_mem_cons.mpr ⟨(ab_in 684 (by decide +kernel) (by decide +kernel)), fun _ h => absurd h List.not_mem_nil⟩⟩⟩⟩⟩, ⟨by decide +kernel, by decide +kernel, by decide +kernel⟩, by decide⟩
set_option maxRecDepth 100000 in
set_option maxHeartbeats 1000000 in
theorem s_PF_read (hfl : ab_fl0 l) (u : ab_S) (h : CI u) : ab_CT l D ca y_PF_read b_PF_read 2 (some FieldType.int) 100 ab_nQ u [ab_O 0 0] (fun u' v => wP u u' ∧ ∃ x : Int32, v = some (ab_I x)) (fun u' E => wP u u' ∧ E = ab_IAE) := by
  refine ab_CT.of (by decide) (Nat.le_of_ble_eq_true rfl) ?_
  intro p e s m args below meth c ad X hZ hW0 hnh hr0 hlk
  have P0 : cP [0, 1, 2, 3, 4, 5, 6, 7, 8, 9, 10, 11, 12, 13, 14, 15, 16] u u := cQ.rf h
  have loop : ∀ (j : Nat) (u1 : ab_S), j ≤ 19 → wP u u1 → (∃ q, q < 20 ∧ u1.2.1 0 0 7 = some (2, q)) → ab_J p l e (ab_rm 100 1 6) s m args below meth c (ab_MQ below (ab_QT D ca ad ab_nQ s.heap.size (fun u' v => wP u u' ∧ ∃ x : Int32, v = some (ab_I x)) (fun u' E => wP u u' ∧ E = ab_IAE)) args s 1 6 (ab_A ad ab_nQ s.heap.size)) D ca (ab_A ad ab_nQ s.heap.size) s.heap 2 0 0 ad ab_nQ u1 43 [(1, ab_I (nI j - 1)), (0, ab_O 0 0)] [] := by
    intro j
    induction j with
    | zero =>
      rintro u1 hj P1 ⟨g, hg, eg⟩
      refine ab_iload_n X 0 d_PF_read_43 rfl rfl ?_
      refine ab_if_lt X 69 d_PF_read_44 rfl (fun _ => ?_) (fun hb => absurd ((by decide)) hb)
      refine ab_aload_n X 1 d_PF_read_69 rfl rfl ?_
      refine ab_gR X fl_PF_37 d_PF_read_70 (by first | assumption | decide | (show _ < 124; omega) | (show _ < 61; omega) | (show _ < 20; omega)) (P1.1.pf3) ?_
      refine ab_aload_n X 1 d_PF_read_73 rfl rfl ?_
      refine ab_gR X fl_PF_58 d_PF_read_74 (by first | assumption | decide | (show _ < 124; omega) | (show _ < 61; omega) | (show _ < 20; omega)) (eg) ?_
      refine ab_gR X fl_PF_94 d_PF_read_77 (by first | assumption | decide | (show _ < 124; omega) | (show _ < 61; omega) | (show _ < 20; omega)) (P1.1.pt1 (by first | assumption | decide | omega)) ?_
      refine ab_iconst (v := 0) X d_PF_read_80 (by decide) ?_
      refine ab_callV (as := [ab_O 3 (3 * g), ab_I (nI 0)]) X (fun h => by cases h) (s_SC_write 41 0 u1 (3 * g) rfl P1.1 (by omega)) lk_PF_97 d_PF_read_81 rfl rfl (by first | assumption | decide | (show _ < 124; omega) | (show _ < 61; omega) | (show _ < 20; omega)) ⟨by first | exact Nat.le_of_ble_eq_true rfl | (simp only [ab_rm]; omega), by first | exact Nat.le_of_ble_eq_true rfl | (simp only [ab_rm]; omega)⟩ ⟨by first | exact Nat.le_of_ble_eq_true rfl | (simp only [ab_rm]; omega), by first | exact Nat.le_of_ble_eq_true rfl | (simp only [ab_rm]; omega)⟩ (Nat.le_of_ble_eq_true rfl) (fun u81 r81 h81 => ?_)
      obtain ⟨q81, rfl⟩ := h81
      have P81 := P1.trans q81 (by decide)
      refine ab_aload_n X 1 d_PF_read_84 rfl rfl ?_
      refine ab_gR X fl_PF_37 d_PF_read_85 (by first | assumption | decide | (show _ < 124; omega) | (show _ < 61; omega) | (show _ < 20; omega)) (P81.1.pf3) ?_
      refine ab_gI X fl_PF_101 d_PF_read_88 (by first | assumption | decide | (show _ < 124; omega) | (show _ < 61; omega) | (show _ < 20; omega)) (rfl) ?_
      exact ab_retTi X hr0 hlk d_PF_read_91 ⟨P81, _, rfl⟩
    | succ j ih =>
      rintro u1 hj P1 ⟨g, hg, eg⟩
      rw [nI_m1 (by omega), show j + 1 - 1 = j by omega]
      refine ab_iload_n X 0 d_PF_read_43 rfl rfl ?_
      refine ab_if_lt X 69 d_PF_read_44 rfl (fun hb => absurd hb ((nI_pos (by omega)))) (fun _ => ?_)
      refine ab_aload_n X 1 d_PF_read_47 rfl rfl ?_
      refine ab_gR X fl_PF_12 d_PF_read_48 (by first | assumption | decide | (show _ < 124; omega) | (show _ < 61; omega) | (show _ < 20; omega)) (P1.1.pf0) ?_
      refine ab_gR X fl_PF_84 d_PF_read_51 (by first | assumption | decide | (show _ < 124; omega) | (show _ < 61; omega) | (show _ < 20; omega)) (P1.1.rd1) ?_
      refine ab_iload_n X 0 d_PF_read_54 rfl rfl ?_
      refine ab_aalv X (j) ⟨rfl, _, fun _ => rfl⟩ d_PF_read_55 (by first | assumption | decide | (show _ < 124; omega) | (show _ < 61; omega) | (show _ < 20; omega)) (rfl) (show j < 19 by omega) (ab_ln_lt _ _) (P1.1.rp (by omega)) ?_
      refine ab_aload_n X 1 d_PF_read_56 rfl rfl ?_
      refine ab_gR X fl_PF_21 d_PF_read_57 (by first | assumption | decide | (show _ < 124; omega) | (show _ < 61; omega) | (show _ < 20; omega)) (P1.1.pf1) ?_
      refine ab_callV (as := [ab_O 3 60]) X (fun h => by cases h) (s_PT_chooseForms u1 (j + 1) P1.1 (by omega)) lk_PF_88 d_PF_read_60 rfl rfl (by first | assumption | decide | (show _ < 124; omega) | (show _ < 61; omega) | (show _ < 20; omega)) ⟨by first | exact Nat.le_of_ble_eq_true rfl | (simp only [ab_rm]; omega), by first | exact Nat.le_of_ble_eq_true rfl | (simp only [ab_rm]; omega)⟩ ⟨by first | exact Nat.le_of_ble_eq_true rfl | (simp only [ab_rm]; omega), by first | exact Nat.le_of_ble_eq_true rfl | (simp only [ab_rm]; omega)⟩ (Nat.le_of_ble_eq_true rfl) (fun u60 r60 h60 => ?_)
      obtain ⟨q60, rfl⟩ := h60
      have P60 := P1.trans q60 (by decide)
      refine ab_iinc1 X 0 1 d_PF_read_63 rfl (by decide) rfl rfl ?_
      refine ab_goto X 43 d_PF_read_66 rfl ?_
      rw [show nI j + Int32.ofInt (-1) = nI j - 1 from by rw [Int32.sub_eq_add_neg]; rfl]
      exact ih _ (by omega) P60 ⟨g, hg, q60.rr (by decide) eg⟩
  refine ab_aload_n X 0 d_PF_read_0 rfl rfl ?_
  refine ab_gR X fl_PF_37 d_PF_read_1 (by first | assumption | decide | (show _ < 124; omega) | (show _ < 61; omega) | (show _ < 20; omega)) (P0.1.pf3) ?_
  refine ab_callV (as := []) X (fun h => by cases h) (s_SC_start u h) lk_PF_73 d_PF_read_4 rfl rfl (by first | assumption | decide | (show _ < 124; omega) | (show _ < 61; omega) | (show _ < 20; omega)) ⟨by first | exact Nat.le_of_ble_eq_true rfl | (simp only [ab_rm]; omega), by first | exact Nat.le_of_ble_eq_true rfl | (simp only [ab_rm]; omega)⟩ ⟨by first | exact Nat.le_of_ble_eq_true rfl | (simp only [ab_rm]; omega), by first | exact Nat.le_of_ble_eq_true rfl | (simp only [ab_rm]; omega)⟩ (Nat.le_of_ble_eq_true rfl) (fun u4 r4 h4 => ?_)
  obtain ⟨q4, rfl⟩ := h4
  have P4 := P0.trans q4 (by decide)
  refine ab_aload_n X 0 d_PF_read_7 rfl rfl ?_
  refine ab_aload_n X 0 d_PF_read_8 rfl rfl ?_
  refine ab_gR X fl_PF_12 d_PF_read_9 (by first | assumption | decide | (show _ < 124; omega) | (show _ < 61; omega) | (show _ < 20; omega)) (P4.1.pf0) ?_
  refine ab_callV (as := []) X (fun _ => hZ) (s_RD_whole u4 P4.1) lk_PF_74 d_PF_read_12 rfl rfl (by first | assumption | decide | (show _ < 124; omega) | (show _ < 61; omega) | (show _ < 20; omega)) ⟨by first | exact Nat.le_of_ble_eq_true rfl | (simp only [ab_rm]; omega), by first | exact Nat.le_of_ble_eq_true rfl | (simp only [ab_rm]; omega)⟩ ⟨by first | exact Nat.le_of_ble_eq_true rfl | (simp only [ab_rm]; omega), by first | exact Nat.le_of_ble_eq_true rfl | (simp only [ab_rm]; omega)⟩ (Nat.le_of_ble_eq_true rfl) (fun u12 r12 h12 => ?_)
  obtain ⟨w12, r12, hr12, rfl⟩ := h12
  have P12 := wP.of P4 w12
  refine ab_putR X fp_PF_58 d_PF_read_15 (by first | assumption | decide | (show _ < 124; omega) | (show _ < 61; omega) | (show _ < 20; omega)) ?_
  refine ab_gen (fun u15 e15 => ?_)
  have P15 : wP u u15 := by rw [e15]; exact P12.pol hr12
  refine ab_aload_n X 0 d_PF_read_18 rfl rfl ?_
  refine ab_gR X fl_PF_58 d_PF_read_19 (by first | assumption | decide | (show _ < 124; omega) | (show _ < 61; omega) | (show _ < 20; omega)) ((show _ = r12 by rw [e15]; simp [ab_up])) ?_
  refine ab_ifnonnull X 33 d_PF_read_22 rfl (fun h22 => ?_) (fun h22 => ?_)
  ·
    obtain ⟨g, hg, rfl⟩ := hr12.resolve_left h22
    obtain ⟨-, -, n, hn, en⟩ := P15.1.rd
    refine ab_aload_n X 0 d_PF_read_33 rfl rfl ?_
    refine ab_gR X fl_PF_12 d_PF_read_34 (by first | assumption | decide | (show _ < 124; omega) | (show _ < 61; omega) | (show _ < 20; omega)) (P15.1.pf0) ?_
    refine ab_gI X fl_PF_81 d_PF_read_37 (by first | assumption | decide | (show _ < 124; omega) | (show _ < 61; omega) | (show _ < 20; omega)) (en) ?_
    refine ab_iconst (v := 1) X d_PF_read_40 (by decide) ?_
    refine ab_isub X d_PF_read_41 ?_
    refine ab_istore_n1 X 0 d_PF_read_42 rfl (by decide) rfl rfl ?_
    exact loop n _ hn P15 ⟨g, hg, by rw [e15]; simp [ab_up]⟩
  ·
    exact ab_throw (cells := 0) (slots := 0) X hfl hZ hW0 hnh hlk ow_PF_78 d_PF_read_25 d_PF_read_28 d_PF_read_29 d_PF_read_32 ⟨Nat.le_of_ble_eq_true rfl, Nat.le_of_ble_eq_true rfl⟩ ⟨Nat.le_of_ble_eq_true rfl, Nat.le_of_ble_eq_true rfl⟩ ⟨P15, rfl⟩
set_option maxRecDepth 100000 in
set_option maxHeartbeats 1000000 in
theorem s_PF_holds (hfl : ab_fl0 l) (u : ab_S) (a1 a2 a3 a4 : Int32) (h : CI u) : ab_CT l D ca y_PF_holds b_PF_holds 6 (some FieldType.boolean) 8 ab_nQ u [ab_O 0 0, ab_I a1, ab_I a2, ab_I a3, ab_I a4] (fun u' v => cP [0, 1, 2, 3, 4, 5, 6, 7, 8, 9, 10, 11, 12, 13, 14, 15, 16] u u' ∧ ∃ b : Int32, (b = 0 ∨ b = 1) ∧ v = some (ab_I b)) (fun u' E => cP [0, 1, 2, 3, 4, 5, 6, 7, 8, 9, 10, 11, 12, 13, 14, 15, 16] u u' ∧ E = ab_NSE) := by
  refine ab_CT.of (by decide) (Nat.le_of_ble_eq_true rfl) ?_
  intro p e s m args below meth c ad X hZ hW0 hnh hr0 hlk
  have P0 : cP [0, 1, 2, 3, 4, 5, 6, 7, 8, 9, 10, 11, 12, 13, 14, 15, 16] u u := cQ.rf h
  have loop : ∀ (j : Nat) (u1 : ab_S), j ≤ 19 → cP [0, 1, 2, 3, 4, 5, 6, 7, 8, 9, 10, 11, 12, 13, 14, 15, 16] u u1 → (∃ q, q < 20 ∧ u1.2.1 0 0 7 = some (2, q)) → ab_J p l e (ab_rm 8 1 6) s m args below meth c (ab_MQ below (ab_QT D ca ad ab_nQ s.heap.size (fun u' v => cP [0, 1, 2, 3, 4, 5, 6, 7, 8, 9, 10, 11, 12, 13, 14, 15, 16] u u' ∧ ∃ b : Int32, (b = 0 ∨ b = 1) ∧ v = some (ab_I b)) (fun u' E => cP [0, 1, 2, 3, 4, 5, 6, 7, 8, 9, 10, 11, 12, 13, 14, 15, 16] u u' ∧ E = ab_NSE)) args s 1 6 (ab_A ad ab_nQ s.heap.size)) D ca (ab_A ad ab_nQ s.heap.size) s.heap 6 0 0 ad ab_nQ u1 38 [(5, ab_I (nI j - 1)), (0, ab_O 0 0), (1, ab_I a1), (2, ab_I a2), (3, ab_I a3), (4, ab_I a4)] [] := by
    intro j
    induction j with
    | zero =>
      rintro u1 hj P1 ⟨g, hg, eg⟩
      refine ab_iload X 0 d_PF_holds_38 rfl ?_
      refine ab_if_lt X 66 d_PF_holds_40 rfl (fun _ => ?_) (fun hb => absurd ((by decide)) hb)
      refine ab_aload_n X 1 d_PF_holds_66 rfl rfl ?_
      refine ab_gR X fl_PF_58 d_PF_holds_67 (by first | assumption | decide | (show _ < 124; omega) | (show _ < 61; omega) | (show _ < 20; omega)) (eg) ?_
      refine ab_gI X fl_PF_118 d_PF_holds_70 (by first | assumption | decide | (show _ < 124; omega) | (show _ < 61; omega) | (show _ < 20; omega)) (rfl) ?_
      exact ab_retTz X hr0 hlk (P1.1.held hg) d_PF_holds_73 ⟨P1, _, P1.1.held hg, rfl⟩
    | succ j ih =>
      rintro u1 hj P1 ⟨g, hg, eg⟩
      rw [nI_m1 (by omega), show j + 1 - 1 = j by omega]
      refine ab_iload X 0 d_PF_holds_38 rfl ?_
      refine ab_if_lt X 66 d_PF_holds_40 rfl (fun hb => absurd hb ((nI_pos (by omega)))) (fun _ => ?_)
      refine ab_aload_n X 1 d_PF_holds_43 rfl rfl ?_
      refine ab_gR X fl_PF_12 d_PF_holds_44 (by first | assumption | decide | (show _ < 124; omega) | (show _ < 61; omega) | (show _ < 20; omega)) (P1.1.pf0) ?_
      refine ab_gR X fl_PF_84 d_PF_holds_47 (by first | assumption | decide | (show _ < 124; omega) | (show _ < 61; omega) | (show _ < 20; omega)) (P1.1.rd1) ?_
      refine ab_iload X 0 d_PF_holds_50 rfl ?_
      refine ab_aalv X (j) ⟨rfl, _, fun _ => rfl⟩ d_PF_holds_52 (by first | assumption | decide | (show _ < 124; omega) | (show _ < 61; omega) | (show _ < 20; omega)) (rfl) (show j < 19 by omega) (ab_ln_lt _ _) (P1.1.rp (by omega)) ?_
      refine ab_aload_n X 1 d_PF_holds_53 rfl rfl ?_
      refine ab_gR X fl_PF_44 d_PF_holds_54 (by first | assumption | decide | (show _ < 124; omega) | (show _ < 61; omega) | (show _ < 20; omega)) (P1.1.pf4) ?_
      refine ab_callV (as := [ab_O 6 0]) X (fun h => by cases h) (s_PT_weigh u1 (j + 1) P1.1 (by omega)) lk_PF_114 d_PF_holds_57 rfl rfl (by first | assumption | decide | (show _ < 124; omega) | (show _ < 61; omega) | (show _ < 20; omega)) ⟨by first | exact Nat.le_of_ble_eq_true rfl | (simp only [ab_rm]; omega), by first | exact Nat.le_of_ble_eq_true rfl | (simp only [ab_rm]; omega)⟩ ⟨by first | exact Nat.le_of_ble_eq_true rfl | (simp only [ab_rm]; omega), by first | exact Nat.le_of_ble_eq_true rfl | (simp only [ab_rm]; omega)⟩ (Nat.le_of_ble_eq_true rfl) (fun u57 r57 h57 => ?_)
      obtain ⟨q57, rfl⟩ := h57
      have P57 := P1.trans q57 (by decide)
      refine ab_iinc5 X 0 1 2 3 4 5 d_PF_holds_60 rfl (by decide) rfl rfl rfl rfl rfl rfl rfl rfl rfl rfl ?_
      refine ab_goto X 38 d_PF_holds_63 rfl ?_
      rw [show nI j + Int32.ofInt (-1) = nI j - 1 from by rw [Int32.sub_eq_add_neg]; rfl]
      exact ih _ (by omega) P57 ⟨g, hg, q57.rr (by decide) eg⟩
  obtain ⟨-, -, n, hn, en⟩ := h.rd
  refine ab_aload_n X 0 d_PF_holds_0 rfl rfl ?_
  refine ab_gR X fl_PF_58 d_PF_holds_1 (by first | assumption | decide | (show _ < 124; omega) | (show _ < 61; omega) | (show _ < 20; omega)) (rfl) ?_
  refine ab_ifnonnull X 15 d_PF_holds_4 rfl (fun h4 => ?_) (fun h4 => ?_)
  ·
    obtain ⟨g, hg, eg⟩ := h.pol.resolve_left h4
    refine ab_aload_n X 0 d_PF_holds_15 rfl rfl ?_
    refine ab_gR X fl_PF_44 d_PF_holds_16 (by first | assumption | decide | (show _ < 124; omega) | (show _ < 61; omega) | (show _ < 20; omega)) (P0.1.pf4) ?_
    refine ab_iload_n X 1 d_PF_holds_19 rfl rfl ?_
    refine ab_iload_n X 2 d_PF_holds_20 rfl rfl ?_
    refine ab_iload_n X 3 d_PF_holds_21 rfl rfl ?_
    refine ab_iload X 4 d_PF_holds_22 rfl ?_
    refine ab_callV (as := [ab_I a1, ab_I a2, ab_I a3, ab_I a4]) X (fun h => by cases h) (s_FA_set u a1 a2 a3 a4 h) lk_PF_110 d_PF_holds_24 rfl rfl (by first | assumption | decide | (show _ < 124; omega) | (show _ < 61; omega) | (show _ < 20; omega)) ⟨by first | exact Nat.le_of_ble_eq_true rfl | (simp only [ab_rm]; omega), by first | exact Nat.le_of_ble_eq_true rfl | (simp only [ab_rm]; omega)⟩ ⟨by first | exact Nat.le_of_ble_eq_true rfl | (simp only [ab_rm]; omega), by first | exact Nat.le_of_ble_eq_true rfl | (simp only [ab_rm]; omega)⟩ (Nat.le_of_ble_eq_true rfl) (fun u24 r24 h24 => ?_)
    obtain ⟨q24, rfl⟩ := h24
    have P24 := P0.trans q24 (by decide)
    refine ab_aload_n X 0 d_PF_holds_27 rfl rfl ?_
    refine ab_gR X fl_PF_12 d_PF_holds_28 (by first | assumption | decide | (show _ < 124; omega) | (show _ < 61; omega) | (show _ < 20; omega)) (P24.1.pf0) ?_
    refine ab_gI X fl_PF_81 d_PF_holds_31 (by first | assumption | decide | (show _ < 124; omega) | (show _ < 61; omega) | (show _ < 20; omega)) (q24.ii (by decide) en) ?_
    refine ab_iconst (v := 1) X d_PF_holds_34 (by decide) ?_
    refine ab_isub X d_PF_holds_35 ?_
    refine ab_istore5 X 0 1 2 3 4 d_PF_holds_36 (by decide) rfl rfl rfl rfl rfl rfl rfl rfl rfl rfl ?_
    exact loop n _ hn P24 ⟨g, hg, q24.rr (by decide) eg⟩
  ·
    exact ab_throw (cells := 0) (slots := 0) X hfl hZ hW0 hnh hlk ow_PF_107 d_PF_holds_7 d_PF_holds_10 d_PF_holds_11 d_PF_holds_14 ⟨Nat.le_of_ble_eq_true rfl, Nat.le_of_ble_eq_true rfl⟩ ⟨Nat.le_of_ble_eq_true rfl, Nat.le_of_ble_eq_true rfl⟩ ⟨P0, rfl⟩
set_option maxRecDepth 100000 in
set_option maxHeartbeats 1000000 in
theorem s_PF_satisfy (hfl : ab_fl0 l) (u : ab_S) (a1 a2 a3 a4 : Int32) (h : CI u) : ab_CT l D ca y_PF_satisfy b_PF_satisfy 6 (some FieldType.int) 8 ab_nQ u [ab_O 0 0, ab_I a1, ab_I a2, ab_I a3, ab_I a4] (fun u' v => cP [4, 6, 7, 8, 15, 16] u u' ∧ ∃ x : Int32, v = some (ab_I x)) (fun u' E => cP [4, 6, 7, 8, 15, 16] u u' ∧ E = ab_NSE) := by
  refine ab_CT.of (by decide) (Nat.le_of_ble_eq_true rfl) ?_
  intro p e s m args below meth c ad X hZ hW0 hnh hr0 hlk
  have P0 : cP [4, 6, 7, 8, 15, 16] u u := cQ.rf h
  have loop : ∀ (k j : Nat) (u1 : ab_S), k + j = 38 → cP [4, 6, 7, 8, 15, 16] u u1 → (∃ q, q < 20 ∧ u1.2.1 0 0 7 = some (2, q)) → ab_J p l e (ab_rm 8 1 6) s m args below meth c (ab_MQ below (ab_QT D ca ad ab_nQ s.heap.size (fun u' v => cP [4, 6, 7, 8, 15, 16] u u' ∧ ∃ x : Int32, v = some (ab_I x)) (fun u' E => cP [4, 6, 7, 8, 15, 16] u u' ∧ E = ab_NSE)) args s 1 6 (ab_A ad ab_nQ s.heap.size)) D ca (ab_A ad ab_nQ s.heap.size) s.heap 6 0 0 ad ab_nQ u1 30 [(5, ab_I (nI j)), (0, ab_O 0 0), (1, ab_I a1), (2, ab_I a2), (3, ab_I a3), (4, ab_I a4)] [] := by
    intro k
    induction k with
    | zero =>
      rintro j u1 hj P1 ⟨g, hg, eg⟩
      obtain ⟨-, n, hn, en, he⟩ := P1.1.scr
      refine ab_iload X 0 d_PF_satisfy_30 rfl ?_
      refine ab_aload_n X 1 d_PF_satisfy_32 rfl rfl ?_
      refine ab_gR X fl_PF_37 d_PF_satisfy_33 (by first | assumption | decide | (show _ < 124; omega) | (show _ < 61; omega) | (show _ < 20; omega)) (P1.1.pf3) ?_
      refine ab_gI X fl_PF_143 d_PF_satisfy_36 (by first | assumption | decide | (show _ < 124; omega) | (show _ < 61; omega) | (show _ < 20; omega)) (en) ?_
      refine ab_icmp_ge X 69 d_PF_satisfy_39 rfl (fun _ => ?_) (fun hb => absurd ((nI_le (by omega) (by omega))) hb)
      refine ab_aload_n X 1 d_PF_satisfy_69 rfl rfl ?_
      refine ab_gR X fl_PF_58 d_PF_satisfy_70 (by first | assumption | decide | (show _ < 124; omega) | (show _ < 61; omega) | (show _ < 20; omega)) (eg) ?_
      refine ab_gR X fl_PF_94 d_PF_satisfy_73 (by first | assumption | decide | (show _ < 124; omega) | (show _ < 61; omega) | (show _ < 20; omega)) (P1.1.pt1 (by first | assumption | decide | omega)) ?_
      refine ab_gR X fl_PF_154 d_PF_satisfy_76 (by first | assumption | decide | (show _ < 124; omega) | (show _ < 61; omega) | (show _ < 20; omega)) (P1.1.fm3 (by first | assumption | decide | omega)) ?_
      refine ab_astore5 X 1 2 3 4 5 d_PF_satisfy_79 (by decide) rfl rfl rfl rfl rfl rfl rfl rfl rfl rfl ?_
      refine ab_aload X 0 d_PF_satisfy_81 rfl ?_
      refine ab_gI X fl_PF_157 d_PF_satisfy_83 (by first | assumption | decide | (show _ < 124; omega) | (show _ < 61; omega) | (show _ < 20; omega)) (rfl) ?_
      refine ab_if_ne X 91 d_PF_satisfy_86 rfl (fun h86 => ?_) (fun h86 => ?_)
      ·
        refine ab_aload_n X 1 d_PF_satisfy_91 rfl rfl ?_
        refine ab_gR X fl_PF_48 d_PF_satisfy_92 (by first | assumption | decide | (show _ < 124; omega) | (show _ < 61; omega) | (show _ < 20; omega)) (P1.1.pf5) ?_
        refine ab_aload X 0 d_PF_satisfy_95 rfl ?_
        refine ab_callV (as := [ab_O 4 (2 * (3 * g))]) X (fun h => by cases h) (s_RW_become u1 123 (2 * (3 * g)) P1.1 (by decide) (by omega)) lk_PF_160 d_PF_satisfy_97 rfl rfl (by first | assumption | decide | (show _ < 124; omega) | (show _ < 61; omega) | (show _ < 20; omega)) ⟨by first | exact Nat.le_of_ble_eq_true rfl | (simp only [ab_rm]; omega), by first | exact Nat.le_of_ble_eq_true rfl | (simp only [ab_rm]; omega)⟩ ⟨by first | exact Nat.le_of_ble_eq_true rfl | (simp only [ab_rm]; omega), by first | exact Nat.le_of_ble_eq_true rfl | (simp only [ab_rm]; omega)⟩ (Nat.le_of_ble_eq_true rfl) (fun u97 r97 h97 => ?_)
        obtain ⟨q97, rfl⟩ := h97
        have P97 := P1.trans q97 (by decide)
        refine ab_aload_n X 1 d_PF_satisfy_100 rfl rfl ?_
        refine ab_gR X fl_PF_48 d_PF_satisfy_101 (by first | assumption | decide | (show _ < 124; omega) | (show _ < 61; omega) | (show _ < 20; omega)) (P97.1.pf5) ?_
        refine ab_gI X fl_PF_164 d_PF_satisfy_104 (by first | assumption | decide | (show _ < 124; omega) | (show _ < 61; omega) | (show _ < 20; omega)) (rfl) ?_
        exact ab_retTi X hr0 hlk d_PF_satisfy_107 ⟨P97, _, rfl⟩
      ·
        refine ab_iconst (v := (-1)) X d_PF_satisfy_89 (by decide) ?_
        exact ab_retTi X hr0 hlk d_PF_satisfy_90 ⟨P1, _, rfl⟩
    | succ k ih =>
      rintro j u1 hj P1 ⟨g, hg, eg⟩
      obtain ⟨-, n, hn, en, he⟩ := P1.1.scr
      refine ab_iload X 0 d_PF_satisfy_30 rfl ?_
      refine ab_aload_n X 1 d_PF_satisfy_32 rfl rfl ?_
      refine ab_gR X fl_PF_37 d_PF_satisfy_33 (by first | assumption | decide | (show _ < 124; omega) | (show _ < 61; omega) | (show _ < 20; omega)) (P1.1.pf3) ?_
      refine ab_gI X fl_PF_143 d_PF_satisfy_36 (by first | assumption | decide | (show _ < 124; omega) | (show _ < 61; omega) | (show _ < 20; omega)) (en) ?_
      refine ab_icmp_ge X 69 d_PF_satisfy_39 rfl (fun h39 => ?_) (fun h39 => ?_)
      ·
        refine ab_aload_n X 1 d_PF_satisfy_69 rfl rfl ?_
        refine ab_gR X fl_PF_58 d_PF_satisfy_70 (by first | assumption | decide | (show _ < 124; omega) | (show _ < 61; omega) | (show _ < 20; omega)) (eg) ?_
        refine ab_gR X fl_PF_94 d_PF_satisfy_73 (by first | assumption | decide | (show _ < 124; omega) | (show _ < 61; omega) | (show _ < 20; omega)) (P1.1.pt1 (by first | assumption | decide | omega)) ?_
        refine ab_gR X fl_PF_154 d_PF_satisfy_76 (by first | assumption | decide | (show _ < 124; omega) | (show _ < 61; omega) | (show _ < 20; omega)) (P1.1.fm3 (by first | assumption | decide | omega)) ?_
        refine ab_astore5 X 1 2 3 4 5 d_PF_satisfy_79 (by decide) rfl rfl rfl rfl rfl rfl rfl rfl rfl rfl ?_
        refine ab_aload X 0 d_PF_satisfy_81 rfl ?_
        refine ab_gI X fl_PF_157 d_PF_satisfy_83 (by first | assumption | decide | (show _ < 124; omega) | (show _ < 61; omega) | (show _ < 20; omega)) (rfl) ?_
        refine ab_if_ne X 91 d_PF_satisfy_86 rfl (fun h86 => ?_) (fun h86 => ?_)
        ·
          refine ab_aload_n X 1 d_PF_satisfy_91 rfl rfl ?_
          refine ab_gR X fl_PF_48 d_PF_satisfy_92 (by first | assumption | decide | (show _ < 124; omega) | (show _ < 61; omega) | (show _ < 20; omega)) (P1.1.pf5) ?_
          refine ab_aload X 0 d_PF_satisfy_95 rfl ?_
          refine ab_callV (as := [ab_O 4 (2 * (3 * g))]) X (fun h => by cases h) (s_RW_become u1 123 (2 * (3 * g)) P1.1 (by decide) (by omega)) lk_PF_160 d_PF_satisfy_97 rfl rfl (by first | assumption | decide | (show _ < 124; omega) | (show _ < 61; omega) | (show _ < 20; omega)) ⟨by first | exact Nat.le_of_ble_eq_true rfl | (simp only [ab_rm]; omega), by first | exact Nat.le_of_ble_eq_true rfl | (simp only [ab_rm]; omega)⟩ ⟨by first | exact Nat.le_of_ble_eq_true rfl | (simp only [ab_rm]; omega), by first | exact Nat.le_of_ble_eq_true rfl | (simp only [ab_rm]; omega)⟩ (Nat.le_of_ble_eq_true rfl) (fun u97 r97 h97 => ?_)
          obtain ⟨q97, rfl⟩ := h97
          have P97 := P1.trans q97 (by decide)
          refine ab_aload_n X 1 d_PF_satisfy_100 rfl rfl ?_
          refine ab_gR X fl_PF_48 d_PF_satisfy_101 (by first | assumption | decide | (show _ < 124; omega) | (show _ < 61; omega) | (show _ < 20; omega)) (P97.1.pf5) ?_
          refine ab_gI X fl_PF_164 d_PF_satisfy_104 (by first | assumption | decide | (show _ < 124; omega) | (show _ < 61; omega) | (show _ < 20; omega)) (rfl) ?_
          exact ab_retTi X hr0 hlk d_PF_satisfy_107 ⟨P97, _, rfl⟩
        ·
          refine ab_iconst (v := (-1)) X d_PF_satisfy_89 (by decide) ?_
          exact ab_retTi X hr0 hlk d_PF_satisfy_90 ⟨P1, _, rfl⟩
      ·
        have hjn := nI_lt_of h39 (by omega)
        obtain ⟨f, hf, ef⟩ := he j hjn
        refine ab_aload_n X 1 d_PF_satisfy_42 rfl rfl ?_
        refine ab_gR X fl_PF_37 d_PF_satisfy_43 (by first | assumption | decide | (show _ < 124; omega) | (show _ < 61; omega) | (show _ < 20; omega)) (P1.1.pf3) ?_
        refine ab_gR X fl_PF_146 d_PF_satisfy_46 (by first | assumption | decide | (show _ < 124; omega) | (show _ < 61; omega) | (show _ < 20; omega)) (P1.1.sc1) ?_
        refine ab_iload X 0 d_PF_satisfy_49 rfl ?_
        refine ab_aalv X (j) ⟨rfl, _, fun _ => rfl⟩ d_PF_satisfy_51 (by first | assumption | decide | (show _ < 124; omega) | (show _ < 61; omega) | (show _ < 20; omega)) (rfl) (show j < 38 by omega) (ab_ln_lt _ _) (ef) ?_
        refine ab_aload_n X 1 d_PF_satisfy_52 rfl rfl ?_
        refine ab_gR X fl_PF_44 d_PF_satisfy_53 (by first | assumption | decide | (show _ < 124; omega) | (show _ < 61; omega) | (show _ < 20; omega)) (P1.1.pf4) ?_
        refine ab_aload_n X 1 d_PF_satisfy_56 rfl rfl ?_
        refine ab_gR X fl_PF_30 d_PF_satisfy_57 (by first | assumption | decide | (show _ < 124; omega) | (show _ < 61; omega) | (show _ < 20; omega)) (P1.1.pf2) ?_
        refine ab_callV (as := [ab_O 6 0, ab_O 4 122]) X (fun h => by cases h) (s_FM_lighten u1 f 122 P1.1 hf (by decide)) lk_PF_150 d_PF_satisfy_60 rfl rfl (by first | assumption | decide | (show _ < 124; omega) | (show _ < 61; omega) | (show _ < 20; omega)) ⟨by first | exact Nat.le_of_ble_eq_true rfl | (simp only [ab_rm]; omega), by first | exact Nat.le_of_ble_eq_true rfl | (simp only [ab_rm]; omega)⟩ ⟨by first | exact Nat.le_of_ble_eq_true rfl | (simp only [ab_rm]; omega), by first | exact Nat.le_of_ble_eq_true rfl | (simp only [ab_rm]; omega)⟩ (Nat.le_of_ble_eq_true rfl) (fun u60 r60 h60 => ?_)
        obtain ⟨q60, rfl⟩ := h60
        have P60 := P1.trans q60 (by decide)
        refine ab_iinc5 X 0 1 2 3 4 5 d_PF_satisfy_63 rfl (by decide) rfl rfl rfl rfl rfl rfl rfl rfl rfl rfl ?_
        refine ab_goto X 30 d_PF_satisfy_66 rfl ?_
        rw [show nI j + Int32.ofInt 1 = nI (j + 1) from nI_1 j]
        exact ih (j + 1) _ (by omega) P60 ⟨g, hg, q60.rr (by decide) eg⟩
  refine ab_aload_n X 0 d_PF_satisfy_0 rfl rfl ?_
  refine ab_gR X fl_PF_58 d_PF_satisfy_1 (by first | assumption | decide | (show _ < 124; omega) | (show _ < 61; omega) | (show _ < 20; omega)) (rfl) ?_
  refine ab_ifnonnull X 15 d_PF_satisfy_4 rfl (fun h4 => ?_) (fun h4 => ?_)
  ·
    obtain ⟨g, hg, eg⟩ := h.pol.resolve_left h4
    refine ab_aload_n X 0 d_PF_satisfy_15 rfl rfl ?_
    refine ab_gR X fl_PF_44 d_PF_satisfy_16 (by first | assumption | decide | (show _ < 124; omega) | (show _ < 61; omega) | (show _ < 20; omega)) (P0.1.pf4) ?_
    refine ab_iload_n X 1 d_PF_satisfy_19 rfl rfl ?_
    refine ab_iload_n X 2 d_PF_satisfy_20 rfl rfl ?_
    refine ab_iload_n X 3 d_PF_satisfy_21 rfl rfl ?_
    refine ab_iload X 4 d_PF_satisfy_22 rfl ?_
    refine ab_callV (as := [ab_I a1, ab_I a2, ab_I a3, ab_I a4]) X (fun h => by cases h) (s_FA_set u a1 a2 a3 a4 h) lk_PF_110 d_PF_satisfy_24 rfl rfl (by first | assumption | decide | (show _ < 124; omega) | (show _ < 61; omega) | (show _ < 20; omega)) ⟨by first | exact Nat.le_of_ble_eq_true rfl | (simp only [ab_rm]; omega), by first | exact Nat.le_of_ble_eq_true rfl | (simp only [ab_rm]; omega)⟩ ⟨by first | exact Nat.le_of_ble_eq_true rfl | (simp only [ab_rm]; omega), by first | exact Nat.le_of_ble_eq_true rfl | (simp only [ab_rm]; omega)⟩ (Nat.le_of_ble_eq_true rfl) (fun u24 r24 h24 => ?_)
    obtain ⟨q24, rfl⟩ := h24
    have P24 := P0.trans q24 (by decide)
    refine ab_iconst (v := 0) X d_PF_satisfy_27 (by decide) ?_
    refine ab_istore5 X 0 1 2 3 4 d_PF_satisfy_28 (by decide) rfl rfl rfl rfl rfl rfl rfl rfl rfl rfl ?_
    exact loop 38 0 _ rfl P24 ⟨g, hg, q24.rr (by decide) eg⟩
  ·
    exact ab_throw (cells := 0) (slots := 0) X hfl hZ hW0 hnh hlk ow_PF_107 d_PF_satisfy_7 d_PF_satisfy_10 d_PF_satisfy_11 d_PF_satisfy_14 ⟨Nat.le_of_ble_eq_true rfl, Nat.le_of_ble_eq_true rfl⟩ ⟨Nat.le_of_ble_eq_true rfl, Nat.le_of_ble_eq_true rfl⟩ ⟨P0, rfl⟩
set_option maxRecDepth 100000 in
set_option maxHeartbeats 1000000 in
theorem s_PF_check (hfl : ab_fl0 l) (u : ab_S) (a1 a2 : Int32) (h : CI u) : ab_CT l D ca y_PF_check b_PF_check 3 (some FieldType.int) 8 ab_nQ u [ab_O 0 0, ab_I a1, ab_I a2] (fun u' v => cP [4, 6, 7, 8, 15, 16] u u' ∧ ∃ x : Int32, v = some (ab_I x)) (fun u' E => cP [4, 6, 7, 8, 15, 16] u u' ∧ E = ab_NSE) := by
  refine ab_CT.of (by decide) (Nat.le_of_ble_eq_true rfl) ?_
  intro p e s m args below meth c ad X hZ hW0 hnh hr0 hlk
  have P0 : cP [4, 6, 7, 8, 15, 16] u u := cQ.rf h
  refine ab_aload_n X 0 d_PF_check_0 rfl rfl ?_
  refine ab_gR X fl_PF_58 d_PF_check_1 (by first | assumption | decide | (show _ < 124; omega) | (show _ < 61; omega) | (show _ < 20; omega)) (rfl) ?_
  refine ab_ifnonnull X 15 d_PF_check_4 rfl (fun h4 => ?_) (fun h4 => ?_)
  ·
    refine ab_aload_n X 0 d_PF_check_15 rfl rfl ?_
    refine ab_gR X fl_PF_44 d_PF_check_16 (by first | assumption | decide | (show _ < 124; omega) | (show _ < 61; omega) | (show _ < 20; omega)) (P0.1.pf4) ?_
    refine ab_iconst (v := 0) X d_PF_check_19 (by decide) ?_
    refine ab_iconst (v := 0) X d_PF_check_20 (by decide) ?_
    refine ab_iload_n X 1 d_PF_check_21 rfl rfl ?_
    refine ab_iload_n X 2 d_PF_check_22 rfl rfl ?_
    refine ab_callV (as := [ab_I 0, ab_I 0, ab_I a1, ab_I a2]) X (fun h => by cases h) (s_FA_set u 0 0 a1 a2 h) lk_PF_110 d_PF_check_23 rfl rfl (by first | assumption | decide | (show _ < 124; omega) | (show _ < 61; omega) | (show _ < 20; omega)) ⟨by first | exact Nat.le_of_ble_eq_true rfl | (simp only [ab_rm]; omega), by first | exact Nat.le_of_ble_eq_true rfl | (simp only [ab_rm]; omega)⟩ ⟨by first | exact Nat.le_of_ble_eq_true rfl | (simp only [ab_rm]; omega), by first | exact Nat.le_of_ble_eq_true rfl | (simp only [ab_rm]; omega)⟩ (Nat.le_of_ble_eq_true rfl) (fun u23 r23 h23 => ?_)
    obtain ⟨q23, rfl⟩ := h23
    have P23 := P0.trans q23 (by decide)
    refine ab_aload_n X 0 d_PF_check_26 rfl rfl ?_
    refine ab_gR X fl_PF_54 d_PF_check_27 (by first | assumption | decide | (show _ < 124; omega) | (show _ < 61; omega) | (show _ < 20; omega)) (P23.1.pf6) ?_
    refine ab_aload_n X 0 d_PF_check_30 rfl rfl ?_
    refine ab_gR X fl_PF_37 d_PF_check_31 (by first | assumption | decide | (show _ < 124; omega) | (show _ < 61; omega) | (show _ < 20; omega)) (P23.1.pf3) ?_
    refine ab_aload_n X 0 d_PF_check_34 rfl rfl ?_
    refine ab_gR X fl_PF_48 d_PF_check_35 (by first | assumption | decide | (show _ < 124; omega) | (show _ < 61; omega) | (show _ < 20; omega)) (P23.1.pf5) ?_
    refine ab_aload_n X 0 d_PF_check_38 rfl rfl ?_
    refine ab_gR X fl_PF_44 d_PF_check_39 (by first | assumption | decide | (show _ < 124; omega) | (show _ < 61; omega) | (show _ < 20; omega)) (P23.1.pf4) ?_
    refine ab_callV (as := [ab_O 5 0, ab_O 4 123, ab_O 6 0]) X (fun h => by cases h) (s_MA_run u23 123 P23.1 (by decide)) lk_PF_179 d_PF_check_42 rfl rfl (by first | assumption | decide | (show _ < 124; omega) | (show _ < 61; omega) | (show _ < 20; omega)) ⟨by first | exact Nat.le_of_ble_eq_true rfl | (simp only [ab_rm]; omega), by first | exact Nat.le_of_ble_eq_true rfl | (simp only [ab_rm]; omega)⟩ ⟨by first | exact Nat.le_of_ble_eq_true rfl | (simp only [ab_rm]; omega), by first | exact Nat.le_of_ble_eq_true rfl | (simp only [ab_rm]; omega)⟩ (Nat.le_of_ble_eq_true rfl) (fun u42 r42 h42 => ?_)
    obtain ⟨q42, x42, rfl⟩ := h42
    have P42 := P23.trans q42 (by decide)
    exact ab_retTi X hr0 hlk d_PF_check_45 ⟨P42, _, rfl⟩
  ·
    exact ab_throw (cells := 0) (slots := 0) X hfl hZ hW0 hnh hlk ow_PF_107 d_PF_check_7 d_PF_check_10 d_PF_check_11 d_PF_check_14 ⟨Nat.le_of_ble_eq_true rfl, Nat.le_of_ble_eq_true rfl⟩ ⟨Nat.le_of_ble_eq_true rfl, Nat.le_of_ble_eq_true rfl⟩ ⟨P0, rfl⟩
set_option maxRecDepth 100000 in
set_option maxHeartbeats 1000000 in
theorem s_PF_size (hfl : ab_fl0 l) (u : ab_S) (a1 : Int32) (h : CI u) : ab_CT l D ca y_PF_size b_PF_size 2 (some FieldType.int) 8 ab_nQ u [ab_O 0 0, ab_I a1] (fun u' v => u' = u ∧ ∃ x : Int32, v = some (ab_I x)) (fun u' E => u' = u ∧ (E = ab_NSE ∨ E = ab_IAE)) := by
  refine ab_CT.of (by decide) (Nat.le_of_ble_eq_true rfl) ?_
  intro p e s m args below meth c ad X hZ hW0 hnh hr0 hlk
  have P0 : cP [4, 6, 7, 8, 15, 16] u u := cQ.rf h
  refine ab_aload_n X 0 d_PF_size_0 rfl rfl ?_
  refine ab_gR X fl_PF_58 d_PF_size_1 (by first | assumption | decide | (show _ < 124; omega) | (show _ < 61; omega) | (show _ < 20; omega)) (rfl) ?_
  refine ab_ifnonnull X 15 d_PF_size_4 rfl (fun h4 => ?_) (fun h4 => ?_)
  ·
    obtain ⟨g, hg, eg⟩ := h.pol.resolve_left h4
    refine ab_iload_n X 1 d_PF_size_15 rfl rfl ?_
    refine ab_tsw X [(0, 64), (1, 72), (2, 83), (3, 94), (4, 105), (5, 116), (6, 127), (7, 138)] 146 d_PF_size_16 (by decide +kernel) rfl (List.forall_mem_cons.mpr ⟨fun h16_0 => ?_, List.forall_mem_cons.mpr ⟨fun h16_1 => ?_, List.forall_mem_cons.mpr ⟨fun h16_2 => ?_, List.forall_mem_cons.mpr ⟨fun h16_3 => ?_, List.forall_mem_cons.mpr ⟨fun h16_4 => ?_, List.forall_mem_cons.mpr ⟨fun h16_5 => ?_, List.forall_mem_cons.mpr ⟨fun h16_6 => ?_, List.forall_mem_cons.mpr ⟨fun h16_7 => ?_, fun _ h => absurd h List.not_mem_nil⟩⟩⟩⟩⟩⟩⟩⟩) (fun h16 => ?_)
    ·
      refine ab_aload_n X 0 d_PF_size_64 rfl rfl ?_
      refine ab_gR X fl_PF_12 d_PF_size_65 (by first | assumption | decide | (show _ < 124; omega) | (show _ < 61; omega) | (show _ < 20; omega)) (P0.1.pf0) ?_
      refine ab_gI X fl_PF_129 d_PF_size_68 (by first | assumption | decide | (show _ < 124; omega) | (show _ < 61; omega) | (show _ < 20; omega)) (rfl) ?_
      exact ab_retTi X hr0 hlk d_PF_size_71 ⟨rfl, _, rfl⟩
    ·
      refine ab_aload_n X 0 d_PF_size_72 rfl rfl ?_
      refine ab_gR X fl_PF_58 d_PF_size_73 (by first | assumption | decide | (show _ < 124; omega) | (show _ < 61; omega) | (show _ < 20; omega)) (eg) ?_
      refine ab_gR X fl_PF_94 d_PF_size_76 (by first | assumption | decide | (show _ < 124; omega) | (show _ < 61; omega) | (show _ < 20; omega)) (P0.1.pt1 (by first | assumption | decide | omega)) ?_
      refine ab_gI X fl_PF_132 d_PF_size_79 (by first | assumption | decide | (show _ < 124; omega) | (show _ < 61; omega) | (show _ < 20; omega)) (rfl) ?_
      exact ab_retTi X hr0 hlk d_PF_size_82 ⟨rfl, _, rfl⟩
    ·
      refine ab_aload_n X 0 d_PF_size_83 rfl rfl ?_
      refine ab_gR X fl_PF_58 d_PF_size_84 (by first | assumption | decide | (show _ < 124; omega) | (show _ < 61; omega) | (show _ < 20; omega)) (eg) ?_
      refine ab_gR X fl_PF_134 d_PF_size_87 (by first | assumption | decide | (show _ < 124; omega) | (show _ < 61; omega) | (show _ < 20; omega)) (P0.1.pt2 (by first | assumption | decide | omega)) ?_
      refine ab_gI X fl_PF_132 d_PF_size_90 (by first | assumption | decide | (show _ < 124; omega) | (show _ < 61; omega) | (show _ < 20; omega)) (rfl) ?_
      exact ab_retTi X hr0 hlk d_PF_size_93 ⟨rfl, _, rfl⟩
    ·
      refine ab_aload_n X 0 d_PF_size_94 rfl rfl ?_
      refine ab_gR X fl_PF_58 d_PF_size_95 (by first | assumption | decide | (show _ < 124; omega) | (show _ < 61; omega) | (show _ < 20; omega)) (eg) ?_
      refine ab_gR X fl_PF_137 d_PF_size_98 (by first | assumption | decide | (show _ < 124; omega) | (show _ < 61; omega) | (show _ < 20; omega)) (P0.1.pt3 (by first | assumption | decide | omega)) ?_
      refine ab_gI X fl_PF_132 d_PF_size_101 (by first | assumption | decide | (show _ < 124; omega) | (show _ < 61; omega) | (show _ < 20; omega)) (rfl) ?_
      exact ab_retTi X hr0 hlk d_PF_size_104 ⟨rfl, _, rfl⟩
    ·
      refine ab_aload_n X 0 d_PF_size_105 rfl rfl ?_
      refine ab_gR X fl_PF_58 d_PF_size_106 (by first | assumption | decide | (show _ < 124; omega) | (show _ < 61; omega) | (show _ < 20; omega)) (eg) ?_
      refine ab_gR X fl_PF_94 d_PF_size_109 (by first | assumption | decide | (show _ < 124; omega) | (show _ < 61; omega) | (show _ < 20; omega)) (P0.1.pt1 (by first | assumption | decide | omega)) ?_
      refine ab_gI X fl_PF_140 d_PF_size_112 (by first | assumption | decide | (show _ < 124; omega) | (show _ < 61; omega) | (show _ < 20; omega)) (rfl) ?_
      exact ab_retTi X hr0 hlk d_PF_size_115 ⟨rfl, _, rfl⟩
    ·
      refine ab_aload_n X 0 d_PF_size_116 rfl rfl ?_
      refine ab_gR X fl_PF_58 d_PF_size_117 (by first | assumption | decide | (show _ < 124; omega) | (show _ < 61; omega) | (show _ < 20; omega)) (eg) ?_
      refine ab_gR X fl_PF_134 d_PF_size_120 (by first | assumption | decide | (show _ < 124; omega) | (show _ < 61; omega) | (show _ < 20; omega)) (P0.1.pt2 (by first | assumption | decide | omega)) ?_
      refine ab_gI X fl_PF_140 d_PF_size_123 (by first | assumption | decide | (show _ < 124; omega) | (show _ < 61; omega) | (show _ < 20; omega)) (rfl) ?_
      exact ab_retTi X hr0 hlk d_PF_size_126 ⟨rfl, _, rfl⟩
    ·
      refine ab_aload_n X 0 d_PF_size_127 rfl rfl ?_
      refine ab_gR X fl_PF_58 d_PF_size_128 (by first | assumption | decide | (show _ < 124; omega) | (show _ < 61; omega) | (show _ < 20; omega)) (eg) ?_
      refine ab_gR X fl_PF_137 d_PF_size_131 (by first | assumption | decide | (show _ < 124; omega) | (show _ < 61; omega) | (show _ < 20; omega)) (P0.1.pt3 (by first | assumption | decide | omega)) ?_
      refine ab_gI X fl_PF_140 d_PF_size_134 (by first | assumption | decide | (show _ < 124; omega) | (show _ < 61; omega) | (show _ < 20; omega)) (rfl) ?_
      exact ab_retTi X hr0 hlk d_PF_size_137 ⟨rfl, _, rfl⟩
    ·
      refine ab_aload_n X 0 d_PF_size_138 rfl rfl ?_
      refine ab_gR X fl_PF_12 d_PF_size_139 (by first | assumption | decide | (show _ < 124; omega) | (show _ < 61; omega) | (show _ < 20; omega)) (P0.1.pf0) ?_
      refine ab_gI X fl_PF_81 d_PF_size_142 (by first | assumption | decide | (show _ < 124; omega) | (show _ < 61; omega) | (show _ < 20; omega)) (rfl) ?_
      exact ab_retTi X hr0 hlk d_PF_size_145 ⟨rfl, _, rfl⟩
    ·
      exact ab_throw (cells := 0) (slots := 0) X hfl hZ hW0 hnh hlk ow_PF_78 d_PF_size_146 d_PF_size_149 d_PF_size_150 d_PF_size_153 ⟨Nat.le_of_ble_eq_true rfl, Nat.le_of_ble_eq_true rfl⟩ ⟨Nat.le_of_ble_eq_true rfl, Nat.le_of_ble_eq_true rfl⟩ ⟨rfl, Or.inr rfl⟩
  ·
    exact ab_throw (cells := 0) (slots := 0) X hfl hZ hW0 hnh hlk ow_PF_107 d_PF_size_7 d_PF_size_10 d_PF_size_11 d_PF_size_14 ⟨Nat.le_of_ble_eq_true rfl, Nat.le_of_ble_eq_true rfl⟩ ⟨Nat.le_of_ble_eq_true rfl, Nat.le_of_ble_eq_true rfl⟩ ⟨rfl, Or.inl rfl⟩
set_option maxRecDepth 100000 in
set_option maxHeartbeats 1000000 in
theorem s_PF_put (hfl : ab_fl0 l) (u : ab_S) (a1 : Int32) (h : CI u) : ab_CT l D ca y_PF_put b_PF_put 2 (some FieldType.int) 8 ab_nQ u [ab_O 0 0, ab_I a1] (fun u' v => cP [4, 6, 7, 8, 15, 16] u u' ∧ ∃ x : Int32, v = some (ab_I x)) (fun u' E => u' = u ∧ (E = ab_IAE ∨ E = ab_ISE)) := by
  refine ab_CT.of (by decide) (Nat.le_of_ble_eq_true rfl) ?_
  intro p e s m args below meth c ad X hZ hW0 hnh hr0 hlk
  have P0 : cP [4, 6, 7, 8, 15, 16] u u := cQ.rf h
  refine ab_iload_n X 1 d_PF_put_0 rfl rfl ?_
  refine ab_callS (as := [ab_I a1]) X (fun h => by cases h) (t_PF_isItem u a1) ls_PF_165 d_PF_put_1 rfl rfl ⟨by first | exact Nat.le_of_ble_eq_true rfl | (simp only [ab_rm]; omega), by first | exact Nat.le_of_ble_eq_true rfl | (simp only [ab_rm]; omega)⟩ ⟨by first | exact Nat.le_of_ble_eq_true rfl | (simp only [ab_rm]; omega), by first | exact Nat.le_of_ble_eq_true rfl | (simp only [ab_rm]; omega)⟩ (Nat.le_of_ble_eq_true rfl) (fun u1 r1 h1 => ?_)
  obtain ⟨e1, b1, rfl⟩ := h1
  subst u1
  refine ab_if_ne X 15 d_PF_put_4 rfl (fun h4 => ?_) (fun h4 => ?_)
  ·
    refine ab_aload_n X 0 d_PF_put_15 rfl rfl ?_
    refine ab_gR X fl_PF_48 d_PF_put_16 (by first | assumption | decide | (show _ < 124; omega) | (show _ < 61; omega) | (show _ < 20; omega)) (P0.1.pf5) ?_
    refine ab_gI X fl_PF_169 d_PF_put_19 (by first | assumption | decide | (show _ < 124; omega) | (show _ < 61; omega) | (show _ < 20; omega)) (rfl) ?_
    refine ab_bipush (v := 24) X d_PF_put_22 (by decide) ?_
    refine ab_icmp_lt X 35 d_PF_put_24 rfl (fun h24 => ?_) (fun h24 => ?_)
    ·
      refine ab_aload_n X 0 d_PF_put_35 rfl rfl ?_
      refine ab_gR X fl_PF_48 d_PF_put_36 (by first | assumption | decide | (show _ < 124; omega) | (show _ < 61; omega) | (show _ < 20; omega)) (P0.1.pf5) ?_
      refine ab_iload_n X 1 d_PF_put_39 rfl rfl ?_
      refine ab_callV (as := [ab_I a1]) X (fun h => by cases h) (s_RW_add u 123 a1 h (by decide)) lk_PF_173 d_PF_put_40 rfl rfl (by first | assumption | decide | (show _ < 124; omega) | (show _ < 61; omega) | (show _ < 20; omega)) ⟨by first | exact Nat.le_of_ble_eq_true rfl | (simp only [ab_rm]; omega), by first | exact Nat.le_of_ble_eq_true rfl | (simp only [ab_rm]; omega)⟩ ⟨by first | exact Nat.le_of_ble_eq_true rfl | (simp only [ab_rm]; omega), by first | exact Nat.le_of_ble_eq_true rfl | (simp only [ab_rm]; omega)⟩ (Nat.le_of_ble_eq_true rfl) (fun u40 r40 h40 => ?_)
      obtain ⟨q40, rfl⟩ := h40
      have P40 := P0.trans q40 (by decide)
      refine ab_aload_n X 0 d_PF_put_43 rfl rfl ?_
      refine ab_gR X fl_PF_48 d_PF_put_44 (by first | assumption | decide | (show _ < 124; omega) | (show _ < 61; omega) | (show _ < 20; omega)) (P40.1.pf5) ?_
      refine ab_gI X fl_PF_169 d_PF_put_47 (by first | assumption | decide | (show _ < 124; omega) | (show _ < 61; omega) | (show _ < 20; omega)) (rfl) ?_
      exact ab_retTi X hr0 hlk d_PF_put_50 ⟨P40, _, rfl⟩
    ·
      exact ab_throw (cells := 0) (slots := 0) X hfl hZ hW0 hnh hlk ow_PF_170 d_PF_put_27 d_PF_put_30 d_PF_put_31 d_PF_put_34 ⟨Nat.le_of_ble_eq_true rfl, Nat.le_of_ble_eq_true rfl⟩ ⟨Nat.le_of_ble_eq_true rfl, Nat.le_of_ble_eq_true rfl⟩ ⟨rfl, Or.inr rfl⟩
  ·
    exact ab_throw (cells := 0) (slots := 0) X hfl hZ hW0 hnh hlk ow_PF_78 d_PF_put_7 d_PF_put_10 d_PF_put_11 d_PF_put_14 ⟨Nat.le_of_ble_eq_true rfl, Nat.le_of_ble_eq_true rfl⟩ ⟨Nat.le_of_ble_eq_true rfl, Nat.le_of_ble_eq_true rfl⟩ ⟨rfl, Or.inl rfl⟩
end SaPF

