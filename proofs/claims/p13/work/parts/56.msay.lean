/-! The reference's writing of scripts: every call comes to its end, and what is written is known by its operations. -/
def wr (u0 u : ab_S) (b k : Nat) (L : List Int32) : Prop := gP [16, 109] u0 u ∧ u.1 17 0 17 = nI b ∧ u.1 17 0 16 = nI k ∧ ol u b k = L ∧ ∀ q, (q < b ∨ b + 100 ≤ q) → u.1 18 9 q = u0.1 18 9 q
theorem ol_snoc (u : ab_S) (k n : Nat) : ol u k (n + 1) = ol u k n ++ [opv u (k + n)] := ol_app u 1 n k
theorem ol_len (u : ab_S) : ∀ (n k : Nat), (ol u k n).length = n := by
  intro n
  induction n with
  | zero => intro k; rfl
  | succ n ih => intro k; show (ol u (k + 1) n).length + 1 = n + 1; rw [ih]
/-- one word more -/
theorem wr.one {u0 u u' : ab_S} {b k : Nat} {L : List Int32} (h : wr u0 u b k L) (hk : k < 100) {v : Int32} (e : u' = ab_ui (ab_ui u 18 9 (b + k) v) 17 0 16 (nI (k + 1))) : wr u0 u' b (k + 1) (L ++ [v / 1000]) := by
  obtain ⟨h1, h2, h3, h4, h5⟩ := h
  have es : ∀ q, q ≠ b + k → u'.1 18 9 q = u.1 18 9 q := fun q hq => by rw [e]; simp [ab_up, hq]
  refine ⟨by rw [e]; exact (h1.ui rfl trivial).ui rfl trivial, by rw [e]; simpa [ab_up] using h2, by rw [e]; simp [ab_up], ?_, fun q hq => (es q (by omega)).trans (h5 q hq)⟩
  rw [ol_snoc, ol_congr (u := u) k b (fun i _ hi => es i (by omega)), h4]
  congr 2
  unfold opv
  rw [e]; simp [ab_up]
section SaMSay
variable {l : Launch} {D : va_G} {ca : Nat → ClassId}
theorem say_op {o a : Nat} (ho : o ≤ 20) (ha : a ≤ 999) : (1000 * nI o + nI a) / 1000 = nI o := by
  rw [show 1000 * nI o = nI (1000 * o) from pk_mul 1000 o, nI_add]
  refine (pk_div (d := 1000) (by omega) (by decide) (by decide)).trans ?_
  congr 1
  omega
abbrev b_MO_say : ByteArray := prog_10_method_26_code
def y_MO_say : MethodName := ⟨"PolicyForgeModel", "say", "(II)V"⟩
theorem d_MO_say_0 : decode b_MO_say 0 = .ok (.aload_n 0, 1) := by decide +kernel
theorem d_MO_say_1 : decode b_MO_say 1 = .ok (.getfield 57, 3) := by decide +kernel
theorem d_MO_say_4 : decode b_MO_say 4 = .ok (.aload_n 0, 1) := by decide +kernel
theorem d_MO_say_5 : decode b_MO_say 5 = .ok (.getfield 63, 3) := by decide +kernel
theorem d_MO_say_8 : decode b_MO_say 8 = .ok (.aload_n 0, 1) := by decide +kernel
theorem d_MO_say_9 : decode b_MO_say 9 = .ok (.getfield 60, 3) := by decide +kernel
theorem d_MO_say_12 : decode b_MO_say 12 = .ok (.iadd, 1) := by decide +kernel
theorem d_MO_say_13 : decode b_MO_say 13 = .ok (.sipush 1000, 3) := by decide +kernel
theorem d_MO_say_16 : decode b_MO_say 16 = .ok (.iload_n 1, 1) := by decide +kernel
theorem d_MO_say_17 : decode b_MO_say 17 = .ok (.imul, 1) := by decide +kernel
theorem d_MO_say_18 : decode b_MO_say 18 = .ok (.iload_n 2, 1) := by decide +kernel
theorem d_MO_say_19 : decode b_MO_say 19 = .ok (.iadd, 1) := by decide +kernel
theorem d_MO_say_20 : decode b_MO_say 20 = .ok (.iastore, 1) := by decide +kernel
theorem d_MO_say_21 : decode b_MO_say 21 = .ok (.aload_n 0, 1) := by decide +kernel
theorem d_MO_say_22 : decode b_MO_say 22 = .ok (.dup, 1) := by decide +kernel
theorem d_MO_say_23 : decode b_MO_say 23 = .ok (.getfield 60, 3) := by decide +kernel
theorem d_MO_say_26 : decode b_MO_say 26 = .ok (.iconst 1, 1) := by decide +kernel
theorem d_MO_say_27 : decode b_MO_say 27 = .ok (.iadd, 1) := by decide +kernel
theorem d_MO_say_28 : decode b_MO_say 28 = .ok (.putfield 60, 3) := by decide +kernel
theorem d_MO_say_31 : decode b_MO_say 31 = .ok (.return_, 1) := by decide +kernel
theorem fl_MO_63 : ab_fl "PolicyForgeModel" 63 17 17 0 := ⟨rfl, R_MO, T_MO, 44, rfl, uw_MO, by decide, rfl, (ab_in 943 (by decide +kernel) (by decide +kernel))⟩
theorem fl_MO_60 : ab_fl "PolicyForgeModel" 60 17 16 0 := ⟨rfl, R_MO, T_MO, 44, rfl, uw_MO, by decide, rfl, (ab_in 942 (by decide +kernel) (by decide +kernel))⟩
set_option maxRecDepth 100000 in
set_option maxHeartbeats 1000000 in
theorem s_MO_say (u0 u : ab_S) (b k : Nat) (L : List Int32) (h : wr u0 u b k L) (hk : k < 100) (hb : b + 100 ≤ 7200) (o a : Nat) (ho : o ≤ 20) (ha : a ≤ 999) : ab_C false l D ca y_MO_say b_MO_say 3 none 0 ab_nQ u [ab_O 17 0, ab_I (nI o), ab_I (nI a)] (fun u' v => wr u0 u' b (k + 1) (L ++ [nI o]) ∧ v = none) := by
  refine ab_C.of (by decide) (Nat.le_of_ble_eq_true rfl) ?_
  intro p e s m args below meth c ad X hZ hr0 hlk
  have P0 : gP [16, 109] u u := gP.rf h.1.1
  refine ab_aload_n X 0 d_MO_say_0 rfl rfl ?_
  refine ab_gR X fl_MO_57 d_MO_say_1 (by first | assumption | decide | (show _ < 124; omega) | (show _ < 61; omega) | (show _ < 20; omega)) (P0.1.mo15) ?_
  refine ab_aload_n X 0 d_MO_say_4 rfl rfl ?_
  refine ab_gI X fl_MO_63 d_MO_say_5 (by first | assumption | decide | (show _ < 124; omega) | (show _ < 61; omega) | (show _ < 20; omega)) (h.2.1) ?_
  refine ab_aload_n X 0 d_MO_say_8 rfl rfl ?_
  refine ab_gI X fl_MO_60 d_MO_say_9 (by first | assumption | decide | (show _ < 124; omega) | (show _ < 61; omega) | (show _ < 20; omega)) (h.2.2.1) ?_
  refine ab_iadd X d_MO_say_12 ?_
  refine ab_top (nI_add b k) ?_
  refine ab_sipush (v := 1000) X d_MO_say_13 (by decide) ?_
  refine ab_iload_n X 1 d_MO_say_16 rfl rfl ?_
  refine ab_imul X d_MO_say_17 ?_
  refine ab_iload_n X 2 d_MO_say_18 rfl rfl ?_
  refine ab_iadd X d_MO_say_19 ?_
  refine ab_iast X (b + k) ⟨rfl, rfl⟩ d_MO_say_20 (by first | assumption | decide | (show _ < 124; omega) | (show _ < 61; omega) | (show _ < 20; omega)) (rfl) (show b + k < 7200 by omega) (ab_ln_lt _ _) ?_
  refine ab_gen (fun u20 e20 => ?_)
  have P20 : gP [16, 109] u u20 := by rw [e20]; exact P0.ui rfl (by decide)
  refine ab_aload_n X 0 d_MO_say_21 rfl rfl ?_
  refine ab_dup X d_MO_say_22 rfl ?_
  refine ab_gI X fl_MO_60 d_MO_say_23 (by first | assumption | decide | (show _ < 124; omega) | (show _ < 61; omega) | (show _ < 20; omega)) ((show _ = nI k by rw [e20]; simpa [ab_up] using h.2.2.1)) ?_
  refine ab_iconst (v := 1) X d_MO_say_26 (by decide) ?_
  refine ab_iadd X d_MO_say_27 ?_
  refine ab_top (nI_1 _) ?_
  refine ab_putI X fp_MO_60 d_MO_say_28 (by first | assumption | decide | (show _ < 124; omega) | (show _ < 61; omega) | (show _ < 20; omega)) rfl rfl ?_
  refine ab_gen (fun u28 e28 => ?_)
  have P28 : gP [16, 109] u u28 := by rw [e28]; exact P20.ui rfl (by decide)
  exact ab_retv X hr0 hlk d_MO_say_31 ⟨by subst e20; have z := h.one hk e28; rwa [say_op ho ha] at z, rfl⟩
abbrev b_MO_sayForm : ByteArray := prog_10_method_27_code
def y_MO_sayForm : MethodName := ⟨"PolicyForgeModel", "sayForm", "(I)V"⟩
theorem d_MO_sayForm_0 : decode b_MO_sayForm 0 = .ok (.iconst 0, 1) := by decide +kernel
theorem d_MO_sayForm_1 : decode b_MO_sayForm 1 = .ok (.istore_n 2, 1) := by decide +kernel
theorem d_MO_sayForm_2 : decode b_MO_sayForm 2 = .ok (.iload_n 2, 1) := by decide +kernel
theorem d_MO_sayForm_3 : decode b_MO_sayForm 3 = .ok (.aload_n 0, 1) := by decide +kernel
theorem d_MO_sayForm_4 : decode b_MO_sayForm 4 = .ok (.getfield 48, 3) := by decide +kernel
theorem d_MO_sayForm_7 : decode b_MO_sayForm 7 = .ok (.iload_n 1, 1) := by decide +kernel
theorem d_MO_sayForm_8 : decode b_MO_sayForm 8 = .ok (.iaload, 1) := by decide +kernel
theorem d_MO_sayForm_9 : decode b_MO_sayForm 9 = .ok (.if_icmp .ge 44, 3) := by decide +kernel
theorem d_MO_sayForm_12 : decode b_MO_sayForm 12 = .ok (.aload_n 0, 1) := by decide +kernel
theorem d_MO_sayForm_13 : decode b_MO_sayForm 13 = .ok (.getfield 57, 3) := by decide +kernel
theorem d_MO_sayForm_16 : decode b_MO_sayForm 16 = .ok (.aload_n 0, 1) := by decide +kernel
theorem d_MO_sayForm_17 : decode b_MO_sayForm 17 = .ok (.getfield 63, 3) := by decide +kernel
theorem d_MO_sayForm_20 : decode b_MO_sayForm 20 = .ok (.aload_n 0, 1) := by decide +kernel
theorem d_MO_sayForm_21 : decode b_MO_sayForm 21 = .ok (.getfield 60, 3) := by decide +kernel
theorem d_MO_sayForm_24 : decode b_MO_sayForm 24 = .ok (.iadd, 1) := by decide +kernel
theorem d_MO_sayForm_25 : decode b_MO_sayForm 25 = .ok (.aload_n 0, 1) := by decide +kernel
theorem d_MO_sayForm_26 : decode b_MO_sayForm 26 = .ok (.getfield 57, 3) := by decide +kernel
theorem d_MO_sayForm_29 : decode b_MO_sayForm 29 = .ok (.bipush 100, 2) := by decide +kernel
theorem d_MO_sayForm_31 : decode b_MO_sayForm 31 = .ok (.iload_n 1, 1) := by decide +kernel
theorem d_MO_sayForm_32 : decode b_MO_sayForm 32 = .ok (.imul, 1) := by decide +kernel
theorem d_MO_sayForm_33 : decode b_MO_sayForm 33 = .ok (.iload_n 2, 1) := by decide +kernel
theorem d_MO_sayForm_34 : decode b_MO_sayForm 34 = .ok (.iadd, 1) := by decide +kernel
theorem d_MO_sayForm_35 : decode b_MO_sayForm 35 = .ok (.iaload, 1) := by decide +kernel
theorem d_MO_sayForm_36 : decode b_MO_sayForm 36 = .ok (.iastore, 1) := by decide +kernel
theorem d_MO_sayForm_37 : decode b_MO_sayForm 37 = .ok (.aload_n 0, 1) := by decide +kernel
theorem d_MO_sayForm_38 : decode b_MO_sayForm 38 = .ok (.dup, 1) := by decide +kernel
theorem d_MO_sayForm_39 : decode b_MO_sayForm 39 = .ok (.getfield 60, 3) := by decide +kernel
theorem d_MO_sayForm_42 : decode b_MO_sayForm 42 = .ok (.iconst 1, 1) := by decide +kernel
theorem d_MO_sayForm_43 : decode b_MO_sayForm 43 = .ok (.iadd, 1) := by decide +kernel
theorem d_MO_sayForm_44 : decode b_MO_sayForm 44 = .ok (.putfield 60, 3) := by decide +kernel
theorem d_MO_sayForm_47 : decode b_MO_sayForm 47 = .ok (.iinc 2 1, 3) := by decide +kernel
theorem d_MO_sayForm_50 : decode b_MO_sayForm 50 = .ok (.goto (-48), 3) := by decide +kernel
theorem d_MO_sayForm_53 : decode b_MO_sayForm 53 = .ok (.return_, 1) := by decide +kernel
set_option maxRecDepth 100000 in
set_option maxHeartbeats 1000000 in
theorem s_MO_sayForm (u0 u : ab_S) (b k : Nat) (L : List Int32) (h : wr u0 u b k L) (hb : b + 100 ≤ 7200) (f n : Nat) (hf : f < 72) (hn : n ≤ 100) (hd : 100 * f + 100 ≤ b ∨ b + 100 ≤ 100 * f) (en : u0.1 18 6 f = nI n) (hkn : k + n ≤ 100) : ab_C false l D ca y_MO_sayForm b_MO_sayForm 3 none 0 ab_nQ u [ab_O 17 0, ab_I (nI f)] (fun u' v => wr u0 u' b (k + n) (L ++ ol u0 (100 * f) n) ∧ v = none) := by
  refine ab_C.of (by decide) (Nat.le_of_ble_eq_true rfl) ?_
  intro p e s m args below meth c ad X hZ hr0 hlk
  have P0 : gP [16, 109] u u := gP.rf h.1.1
  have loop : ∀ (r i : Nat) (u1 : ab_S), r + i = n → gP [16, 109] u u1 → wr u0 u1 b (k + i) (L ++ ol u0 (100 * f) i) → ab_J p l e (ab_rm 0 0 0) s m args below meth c (MQ below (ab_Q D ca ad ab_nQ s.heap.size (fun u' v => wr u0 u' b (k + n) (L ++ ol u0 (100 * f) n) ∧ v = none)) args s 0 0 (ab_A ad ab_nQ s.heap.size)) D ca (ab_A ad ab_nQ s.heap.size) s.heap 3 0 0 ad ab_nQ u1 2 [(2, ab_I (nI i)), (0, ab_O 17 0), (1, ab_I (nI f))] [] := by
    intro r
    induction r with
    | zero =>
      intro i u1 hi P1 h1
      obtain rfl : i = n := by omega
      refine ab_iload_n X 0 d_MO_sayForm_2 rfl rfl ?_
      refine ab_aload_n X 1 d_MO_sayForm_3 rfl rfl ?_
      refine ab_gR X fl_MO_48 d_MO_sayForm_4 (by first | assumption | decide | (show _ < 124; omega) | (show _ < 61; omega) | (show _ < 20; omega)) (P1.1.mo12) ?_
      refine ab_iload_n X 2 d_MO_sayForm_7 rfl rfl ?_
      refine ab_iald X (f) ⟨rfl, rfl⟩ d_MO_sayForm_8 (by first | assumption | decide | (show _ < 124; omega) | (show _ < 61; omega) | (show _ < 20; omega)) (rfl) (show f < 72 by omega) (ab_ln_lt _ _) ?_
      refine ab_top (h1.1.ai (by decide) en) ?_
      refine ab_icmp_ge X 53 d_MO_sayForm_9 rfl (fun _ => ?_) (fun hb => absurd ((nI_le (Nat.le_refl _) (by omega))) hb)
      exact ab_retv X hr0 hlk d_MO_sayForm_53 ⟨h1, rfl⟩
    | succ r ih =>
      intro i u1 hi P1 h1
      have hs : u1.1 18 9 (100 * f + i) = u0.1 18 9 (100 * f + i) := h1.2.2.2.2 _ (by omega)
      refine ab_iload_n X 0 d_MO_sayForm_2 rfl rfl ?_
      refine ab_aload_n X 1 d_MO_sayForm_3 rfl rfl ?_
      refine ab_gR X fl_MO_48 d_MO_sayForm_4 (by first | assumption | decide | (show _ < 124; omega) | (show _ < 61; omega) | (show _ < 20; omega)) (P1.1.mo12) ?_
      refine ab_iload_n X 2 d_MO_sayForm_7 rfl rfl ?_
      refine ab_iald X (f) ⟨rfl, rfl⟩ d_MO_sayForm_8 (by first | assumption | decide | (show _ < 124; omega) | (show _ < 61; omega) | (show _ < 20; omega)) (rfl) (show f < 72 by omega) (ab_ln_lt _ _) ?_
      refine ab_top (h1.1.ai (by decide) en) ?_
      refine ab_icmp_ge X 53 d_MO_sayForm_9 rfl (fun hb => absurd hb ((nI_ge (by omega) (by omega)))) (fun _ => ?_)
      refine ab_aload_n X 1 d_MO_sayForm_12 rfl rfl ?_
      refine ab_gR X fl_MO_57 d_MO_sayForm_13 (by first | assumption | decide | (show _ < 124; omega) | (show _ < 61; omega) | (show _ < 20; omega)) (P1.1.mo15) ?_
      refine ab_aload_n X 1 d_MO_sayForm_16 rfl rfl ?_
      refine ab_gI X fl_MO_63 d_MO_sayForm_17 (by first | assumption | decide | (show _ < 124; omega) | (show _ < 61; omega) | (show _ < 20; omega)) (h1.2.1) ?_
      refine ab_aload_n X 1 d_MO_sayForm_20 rfl rfl ?_
      refine ab_gI X fl_MO_60 d_MO_sayForm_21 (by first | assumption | decide | (show _ < 124; omega) | (show _ < 61; omega) | (show _ < 20; omega)) (h1.2.2.1) ?_
      refine ab_iadd X d_MO_sayForm_24 ?_
      refine ab_top (nI_add b (k + i)) ?_
      refine ab_aload_n X 1 d_MO_sayForm_25 rfl rfl ?_
      refine ab_gR X fl_MO_57 d_MO_sayForm_26 (by first | assumption | decide | (show _ < 124; omega) | (show _ < 61; omega) | (show _ < 20; omega)) (P1.1.mo15) ?_
      refine ab_bipush (v := 100) X d_MO_sayForm_29 (by decide) ?_
      refine ab_iload_n X 2 d_MO_sayForm_31 rfl rfl ?_
      refine ab_imul X d_MO_sayForm_32 ?_
      refine ab_iload_n X 0 d_MO_sayForm_33 rfl rfl ?_
      refine ab_iadd X d_MO_sayForm_34 ?_
      refine ab_iald X (100 * f + i) ⟨rfl, rfl⟩ d_MO_sayForm_35 (by first | assumption | decide | (show _ < 124; omega) | (show _ < 61; omega) | (show _ < 20; omega)) (nI_100a f i) (show 100 * f + i < 7200 by omega) (ab_ln_lt _ _) ?_
      refine ab_iast X (b + (k + i)) ⟨rfl, rfl⟩ d_MO_sayForm_36 (by first | assumption | decide | (show _ < 124; omega) | (show _ < 61; omega) | (show _ < 20; omega)) (rfl) (show b + (k + i) < 7200 by omega) (ab_ln_lt _ _) ?_
      refine ab_gen (fun u36 e36 => ?_)
      have P36 : gP [16, 109] u u36 := by rw [e36]; exact P1.ui rfl (by decide)
      refine ab_aload_n X 1 d_MO_sayForm_37 rfl rfl ?_
      refine ab_dup X d_MO_sayForm_38 rfl ?_
      refine ab_gI X fl_MO_60 d_MO_sayForm_39 (by first | assumption | decide | (show _ < 124; omega) | (show _ < 61; omega) | (show _ < 20; omega)) ((show _ = nI (k + i) by rw [e36]; simpa [ab_up] using h1.2.2.1)) ?_
      refine ab_iconst (v := 1) X d_MO_sayForm_42 (by decide) ?_
      refine ab_iadd X d_MO_sayForm_43 ?_
      refine ab_top (nI_1 _) ?_
      refine ab_putI X fp_MO_60 d_MO_sayForm_44 (by first | assumption | decide | (show _ < 124; omega) | (show _ < 61; omega) | (show _ < 20; omega)) rfl rfl ?_
      refine ab_gen (fun u44 e44 => ?_)
      have P44 : gP [16, 109] u u44 := by rw [e44]; exact P36.ui rfl (by decide)
      refine ab_iinc2 X 0 1 2 d_MO_sayForm_47 rfl (by decide) rfl rfl rfl rfl ?_
      refine ab_goto X 2 d_MO_sayForm_50 rfl ?_
      rw [show nI i + Int32.ofInt 1 = nI (i + 1) from nI_1 i]
      exact ih (i + 1) _ (by omega) P44 (by subst e36; have z := h1.one (by omega) e44; rw [hs] at z; rw [ol_snoc, ← List.append_assoc]; exact z)
  refine ab_iconst (v := 0) X d_MO_sayForm_0 (by decide) ?_
  refine ab_istore_n2 X 0 1 d_MO_sayForm_1 rfl (by decide) rfl rfl rfl rfl ?_
  exact loop n 0 _ (by omega) P0 (by simpa [ol] using h)
abbrev b_MO_sayTwice : ByteArray := prog_10_method_28_code
def y_MO_sayTwice : MethodName := ⟨"PolicyForgeModel", "sayTwice", "(II)V"⟩
theorem d_MO_sayTwice_0 : decode b_MO_sayTwice 0 = .ok (.aload_n 0, 1) := by decide +kernel
theorem d_MO_sayTwice_1 : decode b_MO_sayTwice 1 = .ok (.iload_n 1, 1) := by decide +kernel
theorem d_MO_sayTwice_2 : decode b_MO_sayTwice 2 = .ok (.invokevirtual 239, 3) := by decide +kernel
theorem d_MO_sayTwice_5 : decode b_MO_sayTwice 5 = .ok (.aload_n 0, 1) := by decide +kernel
theorem d_MO_sayTwice_6 : decode b_MO_sayTwice 6 = .ok (.bipush 16, 2) := by decide +kernel
theorem d_MO_sayTwice_8 : decode b_MO_sayTwice 8 = .ok (.iconst 0, 1) := by decide +kernel
theorem d_MO_sayTwice_9 : decode b_MO_sayTwice 9 = .ok (.invokevirtual 242, 3) := by decide +kernel
theorem d_MO_sayTwice_12 : decode b_MO_sayTwice 12 = .ok (.aload_n 0, 1) := by decide +kernel
theorem d_MO_sayTwice_13 : decode b_MO_sayTwice 13 = .ok (.bipush 15, 2) := by decide +kernel
theorem d_MO_sayTwice_15 : decode b_MO_sayTwice 15 = .ok (.iconst 0, 1) := by decide +kernel
theorem d_MO_sayTwice_16 : decode b_MO_sayTwice 16 = .ok (.invokevirtual 242, 3) := by decide +kernel
theorem d_MO_sayTwice_19 : decode b_MO_sayTwice 19 = .ok (.aload_n 0, 1) := by decide +kernel
theorem d_MO_sayTwice_20 : decode b_MO_sayTwice 20 = .ok (.iload_n 2, 1) := by decide +kernel
theorem d_MO_sayTwice_21 : decode b_MO_sayTwice 21 = .ok (.invokevirtual 239, 3) := by decide +kernel
theorem d_MO_sayTwice_24 : decode b_MO_sayTwice 24 = .ok (.aload_n 0, 1) := by decide +kernel
theorem d_MO_sayTwice_25 : decode b_MO_sayTwice 25 = .ok (.bipush 14, 2) := by decide +kernel
theorem d_MO_sayTwice_27 : decode b_MO_sayTwice 27 = .ok (.iconst 0, 1) := by decide +kernel
theorem d_MO_sayTwice_28 : decode b_MO_sayTwice 28 = .ok (.invokevirtual 242, 3) := by decide +kernel
theorem d_MO_sayTwice_31 : decode b_MO_sayTwice 31 = .ok (.return_, 1) := by decide +kernel
theorem lk_MO_239 : ab_lk "PolicyForgeModel" 239 y_MO_sayForm b_MO_sayForm 3 none 1 17 := ⟨⟨rfl, T_MO, 44, rfl⟩, List.forall_mem_cons.mpr ⟨(ab_in 1181 (by decide +kernel) (by decide +kernel)), List.forall_mem_cons.mpr ⟨(ab_in 1183 (by decide +kernel) (by decide +kernel)), List.forall_mem_cons.mpr ⟨(ab_in 67 (by decide +kernel) (by decide +kernel)), List.forall_mem_cons.mpr ⟨(ab_in 100 (by decide +kernel) (by decide +kernel)), List.forall_mem_cons.mpr ⟨(ab_in 1184 (by decide +kernel) (by decide +kernel)), fun _ h => absurd h List.not_mem_nil⟩⟩⟩⟩⟩, ⟨by decide +kernel, by decide +kernel, by decide +kernel⟩, by decide⟩
theorem lk_MO_242 : ab_lk "PolicyForgeModel" 242 y_MO_say b_MO_say 3 none 2 17 := ⟨⟨rfl, T_MO, 44, rfl⟩, List.forall_mem_cons.mpr ⟨(ab_in 1173 (by decide +kernel) (by decide +kernel)), List.forall_mem_cons.mpr ⟨(ab_in 1175 (by decide +kernel) (by decide +kernel)), List.forall_mem_cons.mpr ⟨(ab_in 65 (by decide +kernel) (by decide +kernel)), List.forall_mem_cons.mpr ⟨(ab_in 100 (by decide +kernel) (by decide +kernel)), List.forall_mem_cons.mpr ⟨(ab_in 1176 (by decide +kernel) (by decide +kernel)), fun _ h => absurd h List.not_mem_nil⟩⟩⟩⟩⟩, ⟨by decide +kernel, by decide +kernel, by decide +kernel⟩, by decide⟩
set_option maxRecDepth 100000 in
set_option maxHeartbeats 1000000 in
theorem s_MO_sayTwice (u0 u : ab_S) (b k : Nat) (L : List Int32) (h : wr u0 u b k L) (hb : b + 100 ≤ 7200) (f g n1 n2 : Nat) (hf1 : f < 72) (hn1 : n1 ≤ 100) (hd1 : 100 * f + 100 ≤ b ∨ b + 100 ≤ 100 * f) (en1 : u0.1 18 6 f = nI n1) (hf2 : g < 72) (hn2 : n2 ≤ 100) (hd2 : 100 * g + 100 ≤ b ∨ b + 100 ≤ 100 * g) (en2 : u0.1 18 6 g = nI n2) (hk : k + n1 + n2 + 3 ≤ 100) : ab_C false l D ca y_MO_sayTwice b_MO_sayTwice 3 none 1 ab_nQ u [ab_O 17 0, ab_I (nI f), ab_I (nI g)] (fun u' v => wr u0 u' b (k + n1 + 1 + 1 + n2 + 1) (L ++ ol u0 (100 * f) n1 ++ [nI 16] ++ [nI 15] ++ ol u0 (100 * g) n2 ++ [nI 14]) ∧ v = none) := by
  refine ab_C.of (by decide) (Nat.le_of_ble_eq_true rfl) ?_
  intro p e s m args below meth c ad X hZ hr0 hlk
  have P0 : gP [16, 109] u u := gP.rf h.1.1
  refine ab_aload_n X 0 d_MO_sayTwice_0 rfl rfl ?_
  refine ab_iload_n X 1 d_MO_sayTwice_1 rfl rfl ?_
  refine ab_callV (as := [ab_I (nI f)]) X (fun h => by cases h) (s_MO_sayForm u0 u b (k) (L) h hb f n1 hf1 hn1 hd1 en1 (by omega)) lk_MO_239 d_MO_sayTwice_2 rfl rfl (by first | assumption | decide | (show _ < 124; omega) | (show _ < 61; omega) | (show _ < 20; omega)) ⟨by first | exact Nat.le_of_ble_eq_true rfl | (simp only [ab_rm]; omega), by first | exact Nat.le_of_ble_eq_true rfl | (simp only [ab_rm]; omega)⟩ ⟨by first | exact Nat.le_of_ble_eq_true rfl | (simp only [ab_rm]; omega), by first | exact Nat.le_of_ble_eq_true rfl | (simp only [ab_rm]; omega)⟩ (Nat.le_of_ble_eq_true rfl) (fun u2 r2 h2 => ?_)
  obtain ⟨q2, rfl⟩ := h2
  have P2 := q2
  refine ab_aload_n X 0 d_MO_sayTwice_5 rfl rfl ?_
  refine ab_bipush (v := 16) X d_MO_sayTwice_6 (by decide) ?_
  refine ab_iconst (v := 0) X d_MO_sayTwice_8 (by decide) ?_
  refine ab_callV (as := [ab_I (nI 16), ab_I (nI 0)]) X (fun h => by cases h) (s_MO_say u0 u2 b (k + n1) (L ++ ol u0 (100 * f) n1) q2 (by omega) hb 16 0 (by decide) (by decide)) lk_MO_242 d_MO_sayTwice_9 rfl rfl (by first | assumption | decide | (show _ < 124; omega) | (show _ < 61; omega) | (show _ < 20; omega)) ⟨by first | exact Nat.le_of_ble_eq_true rfl | (simp only [ab_rm]; omega), by first | exact Nat.le_of_ble_eq_true rfl | (simp only [ab_rm]; omega)⟩ ⟨by first | exact Nat.le_of_ble_eq_true rfl | (simp only [ab_rm]; omega), by first | exact Nat.le_of_ble_eq_true rfl | (simp only [ab_rm]; omega)⟩ (Nat.le_of_ble_eq_true rfl) (fun u9 r9 h9 => ?_)
  obtain ⟨q9, rfl⟩ := h9
  have P9 := q9
  refine ab_aload_n X 0 d_MO_sayTwice_12 rfl rfl ?_
  refine ab_bipush (v := 15) X d_MO_sayTwice_13 (by decide) ?_
  refine ab_iconst (v := 0) X d_MO_sayTwice_15 (by decide) ?_
  refine ab_callV (as := [ab_I (nI 15), ab_I (nI 0)]) X (fun h => by cases h) (s_MO_say u0 u9 b (k + n1 + 1) (L ++ ol u0 (100 * f) n1 ++ [nI 16]) q9 (by omega) hb 15 0 (by decide) (by decide)) lk_MO_242 d_MO_sayTwice_16 rfl rfl (by first | assumption | decide | (show _ < 124; omega) | (show _ < 61; omega) | (show _ < 20; omega)) ⟨by first | exact Nat.le_of_ble_eq_true rfl | (simp only [ab_rm]; omega), by first | exact Nat.le_of_ble_eq_true rfl | (simp only [ab_rm]; omega)⟩ ⟨by first | exact Nat.le_of_ble_eq_true rfl | (simp only [ab_rm]; omega), by first | exact Nat.le_of_ble_eq_true rfl | (simp only [ab_rm]; omega)⟩ (Nat.le_of_ble_eq_true rfl) (fun u16 r16 h16 => ?_)
  obtain ⟨q16, rfl⟩ := h16
  have P16 := q16
  refine ab_aload_n X 0 d_MO_sayTwice_19 rfl rfl ?_
  refine ab_iload_n X 2 d_MO_sayTwice_20 rfl rfl ?_
  refine ab_callV (as := [ab_I (nI g)]) X (fun h => by cases h) (s_MO_sayForm u0 u16 b (k + n1 + 1 + 1) (L ++ ol u0 (100 * f) n1 ++ [nI 16] ++ [nI 15]) q16 hb g n2 hf2 hn2 hd2 en2 (by omega)) lk_MO_239 d_MO_sayTwice_21 rfl rfl (by first | assumption | decide | (show _ < 124; omega) | (show _ < 61; omega) | (show _ < 20; omega)) ⟨by first | exact Nat.le_of_ble_eq_true rfl | (simp only [ab_rm]; omega), by first | exact Nat.le_of_ble_eq_true rfl | (simp only [ab_rm]; omega)⟩ ⟨by first | exact Nat.le_of_ble_eq_true rfl | (simp only [ab_rm]; omega), by first | exact Nat.le_of_ble_eq_true rfl | (simp only [ab_rm]; omega)⟩ (Nat.le_of_ble_eq_true rfl) (fun u21 r21 h21 => ?_)
  obtain ⟨q21, rfl⟩ := h21
  have P21 := q21
  refine ab_aload_n X 0 d_MO_sayTwice_24 rfl rfl ?_
  refine ab_bipush (v := 14) X d_MO_sayTwice_25 (by decide) ?_
  refine ab_iconst (v := 0) X d_MO_sayTwice_27 (by decide) ?_
  refine ab_callV (as := [ab_I (nI 14), ab_I (nI 0)]) X (fun h => by cases h) (s_MO_say u0 u21 b (k + n1 + 1 + 1 + n2) (L ++ ol u0 (100 * f) n1 ++ [nI 16] ++ [nI 15] ++ ol u0 (100 * g) n2) q21 (by omega) hb 14 0 (by decide) (by decide)) lk_MO_242 d_MO_sayTwice_28 rfl rfl (by first | assumption | decide | (show _ < 124; omega) | (show _ < 61; omega) | (show _ < 20; omega)) ⟨by first | exact Nat.le_of_ble_eq_true rfl | (simp only [ab_rm]; omega), by first | exact Nat.le_of_ble_eq_true rfl | (simp only [ab_rm]; omega)⟩ ⟨by first | exact Nat.le_of_ble_eq_true rfl | (simp only [ab_rm]; omega), by first | exact Nat.le_of_ble_eq_true rfl | (simp only [ab_rm]; omega)⟩ (Nat.le_of_ble_eq_true rfl) (fun u28 r28 h28 => ?_)
  obtain ⟨q28, rfl⟩ := h28
  have P28 := q28
  exact ab_retv X hr0 hlk d_MO_sayTwice_31 ⟨q28, rfl⟩
abbrev b_MO_sayIf : ByteArray := prog_10_method_29_code
def y_MO_sayIf : MethodName := ⟨"PolicyForgeModel", "sayIf", "(II)V"⟩
theorem d_MO_sayIf_0 : decode b_MO_sayIf 0 = .ok (.aload_n 0, 1) := by decide +kernel
theorem d_MO_sayIf_1 : decode b_MO_sayIf 1 = .ok (.bipush 12, 2) := by decide +kernel
theorem d_MO_sayIf_3 : decode b_MO_sayIf 3 = .ok (.iconst 0, 1) := by decide +kernel
theorem d_MO_sayIf_4 : decode b_MO_sayIf 4 = .ok (.invokevirtual 242, 3) := by decide +kernel
theorem d_MO_sayIf_7 : decode b_MO_sayIf 7 = .ok (.aload_n 0, 1) := by decide +kernel
theorem d_MO_sayIf_8 : decode b_MO_sayIf 8 = .ok (.iload_n 1, 1) := by decide +kernel
theorem d_MO_sayIf_9 : decode b_MO_sayIf 9 = .ok (.invokevirtual 239, 3) := by decide +kernel
theorem d_MO_sayIf_12 : decode b_MO_sayIf 12 = .ok (.aload_n 0, 1) := by decide +kernel
theorem d_MO_sayIf_13 : decode b_MO_sayIf 13 = .ok (.bipush 13, 2) := by decide +kernel
theorem d_MO_sayIf_15 : decode b_MO_sayIf 15 = .ok (.iconst 0, 1) := by decide +kernel
theorem d_MO_sayIf_16 : decode b_MO_sayIf 16 = .ok (.invokevirtual 242, 3) := by decide +kernel
theorem d_MO_sayIf_19 : decode b_MO_sayIf 19 = .ok (.aload_n 0, 1) := by decide +kernel
theorem d_MO_sayIf_20 : decode b_MO_sayIf 20 = .ok (.iload_n 2, 1) := by decide +kernel
theorem d_MO_sayIf_21 : decode b_MO_sayIf 21 = .ok (.invokevirtual 239, 3) := by decide +kernel
theorem d_MO_sayIf_24 : decode b_MO_sayIf 24 = .ok (.aload_n 0, 1) := by decide +kernel
theorem d_MO_sayIf_25 : decode b_MO_sayIf 25 = .ok (.bipush 14, 2) := by decide +kernel
theorem d_MO_sayIf_27 : decode b_MO_sayIf 27 = .ok (.iconst 0, 1) := by decide +kernel
theorem d_MO_sayIf_28 : decode b_MO_sayIf 28 = .ok (.invokevirtual 242, 3) := by decide +kernel
theorem d_MO_sayIf_31 : decode b_MO_sayIf 31 = .ok (.return_, 1) := by decide +kernel
set_option maxRecDepth 100000 in
set_option maxHeartbeats 1000000 in
theorem s_MO_sayIf (u0 u : ab_S) (b k : Nat) (L : List Int32) (h : wr u0 u b k L) (hb : b + 100 ≤ 7200) (f g n1 n2 : Nat) (hf1 : f < 72) (hn1 : n1 ≤ 100) (hd1 : 100 * f + 100 ≤ b ∨ b + 100 ≤ 100 * f) (en1 : u0.1 18 6 f = nI n1) (hf2 : g < 72) (hn2 : n2 ≤ 100) (hd2 : 100 * g + 100 ≤ b ∨ b + 100 ≤ 100 * g) (en2 : u0.1 18 6 g = nI n2) (hk : k + n1 + n2 + 3 ≤ 100) : ab_C false l D ca y_MO_sayIf b_MO_sayIf 3 none 1 ab_nQ u [ab_O 17 0, ab_I (nI f), ab_I (nI g)] (fun u' v => wr u0 u' b (k + 1 + n1 + 1 + n2 + 1) (L ++ [nI 12] ++ ol u0 (100 * f) n1 ++ [nI 13] ++ ol u0 (100 * g) n2 ++ [nI 14]) ∧ v = none) := by
  refine ab_C.of (by decide) (Nat.le_of_ble_eq_true rfl) ?_
  intro p e s m args below meth c ad X hZ hr0 hlk
  have P0 : gP [16, 109] u u := gP.rf h.1.1
  refine ab_aload_n X 0 d_MO_sayIf_0 rfl rfl ?_
  refine ab_bipush (v := 12) X d_MO_sayIf_1 (by decide) ?_
  refine ab_iconst (v := 0) X d_MO_sayIf_3 (by decide) ?_
  refine ab_callV (as := [ab_I (nI 12), ab_I (nI 0)]) X (fun h => by cases h) (s_MO_say u0 u b (k) (L) h (by omega) hb 12 0 (by decide) (by decide)) lk_MO_242 d_MO_sayIf_4 rfl rfl (by first | assumption | decide | (show _ < 124; omega) | (show _ < 61; omega) | (show _ < 20; omega)) ⟨by first | exact Nat.le_of_ble_eq_true rfl | (simp only [ab_rm]; omega), by first | exact Nat.le_of_ble_eq_true rfl | (simp only [ab_rm]; omega)⟩ ⟨by first | exact Nat.le_of_ble_eq_true rfl | (simp only [ab_rm]; omega), by first | exact Nat.le_of_ble_eq_true rfl | (simp only [ab_rm]; omega)⟩ (Nat.le_of_ble_eq_true rfl) (fun u4 r4 h4 => ?_)
  obtain ⟨q4, rfl⟩ := h4
  have P4 := q4
  refine ab_aload_n X 0 d_MO_sayIf_7 rfl rfl ?_
  refine ab_iload_n X 1 d_MO_sayIf_8 rfl rfl ?_
  refine ab_callV (as := [ab_I (nI f)]) X (fun h => by cases h) (s_MO_sayForm u0 u4 b (k + 1) (L ++ [nI 12]) q4 hb f n1 hf1 hn1 hd1 en1 (by omega)) lk_MO_239 d_MO_sayIf_9 rfl rfl (by first | assumption | decide | (show _ < 124; omega) | (show _ < 61; omega) | (show _ < 20; omega)) ⟨by first | exact Nat.le_of_ble_eq_true rfl | (simp only [ab_rm]; omega), by first | exact Nat.le_of_ble_eq_true rfl | (simp only [ab_rm]; omega)⟩ ⟨by first | exact Nat.le_of_ble_eq_true rfl | (simp only [ab_rm]; omega), by first | exact Nat.le_of_ble_eq_true rfl | (simp only [ab_rm]; omega)⟩ (Nat.le_of_ble_eq_true rfl) (fun u9 r9 h9 => ?_)
  obtain ⟨q9, rfl⟩ := h9
  have P9 := q9
  refine ab_aload_n X 0 d_MO_sayIf_12 rfl rfl ?_
  refine ab_bipush (v := 13) X d_MO_sayIf_13 (by decide) ?_
  refine ab_iconst (v := 0) X d_MO_sayIf_15 (by decide) ?_
  refine ab_callV (as := [ab_I (nI 13), ab_I (nI 0)]) X (fun h => by cases h) (s_MO_say u0 u9 b (k + 1 + n1) (L ++ [nI 12] ++ ol u0 (100 * f) n1) q9 (by omega) hb 13 0 (by decide) (by decide)) lk_MO_242 d_MO_sayIf_16 rfl rfl (by first | assumption | decide | (show _ < 124; omega) | (show _ < 61; omega) | (show _ < 20; omega)) ⟨by first | exact Nat.le_of_ble_eq_true rfl | (simp only [ab_rm]; omega), by first | exact Nat.le_of_ble_eq_true rfl | (simp only [ab_rm]; omega)⟩ ⟨by first | exact Nat.le_of_ble_eq_true rfl | (simp only [ab_rm]; omega), by first | exact Nat.le_of_ble_eq_true rfl | (simp only [ab_rm]; omega)⟩ (Nat.le_of_ble_eq_true rfl) (fun u16 r16 h16 => ?_)
  obtain ⟨q16, rfl⟩ := h16
  have P16 := q16
  refine ab_aload_n X 0 d_MO_sayIf_19 rfl rfl ?_
  refine ab_iload_n X 2 d_MO_sayIf_20 rfl rfl ?_
  refine ab_callV (as := [ab_I (nI g)]) X (fun h => by cases h) (s_MO_sayForm u0 u16 b (k + 1 + n1 + 1) (L ++ [nI 12] ++ ol u0 (100 * f) n1 ++ [nI 13]) q16 hb g n2 hf2 hn2 hd2 en2 (by omega)) lk_MO_239 d_MO_sayIf_21 rfl rfl (by first | assumption | decide | (show _ < 124; omega) | (show _ < 61; omega) | (show _ < 20; omega)) ⟨by first | exact Nat.le_of_ble_eq_true rfl | (simp only [ab_rm]; omega), by first | exact Nat.le_of_ble_eq_true rfl | (simp only [ab_rm]; omega)⟩ ⟨by first | exact Nat.le_of_ble_eq_true rfl | (simp only [ab_rm]; omega), by first | exact Nat.le_of_ble_eq_true rfl | (simp only [ab_rm]; omega)⟩ (Nat.le_of_ble_eq_true rfl) (fun u21 r21 h21 => ?_)
  obtain ⟨q21, rfl⟩ := h21
  have P21 := q21
  refine ab_aload_n X 0 d_MO_sayIf_24 rfl rfl ?_
  refine ab_bipush (v := 14) X d_MO_sayIf_25 (by decide) ?_
  refine ab_iconst (v := 0) X d_MO_sayIf_27 (by decide) ?_
  refine ab_callV (as := [ab_I (nI 14), ab_I (nI 0)]) X (fun h => by cases h) (s_MO_say u0 u21 b (k + 1 + n1 + 1 + n2) (L ++ [nI 12] ++ ol u0 (100 * f) n1 ++ [nI 13] ++ ol u0 (100 * g) n2) q21 (by omega) hb 14 0 (by decide) (by decide)) lk_MO_242 d_MO_sayIf_28 rfl rfl (by first | assumption | decide | (show _ < 124; omega) | (show _ < 61; omega) | (show _ < 20; omega)) ⟨by first | exact Nat.le_of_ble_eq_true rfl | (simp only [ab_rm]; omega), by first | exact Nat.le_of_ble_eq_true rfl | (simp only [ab_rm]; omega)⟩ ⟨by first | exact Nat.le_of_ble_eq_true rfl | (simp only [ab_rm]; omega), by first | exact Nat.le_of_ble_eq_true rfl | (simp only [ab_rm]; omega)⟩ (Nat.le_of_ble_eq_true rfl) (fun u28 r28 h28 => ?_)
  obtain ⟨q28, rfl⟩ := h28
  have P28 := q28
  exact ab_retv X hr0 hlk d_MO_sayIf_31 ⟨q28, rfl⟩
abbrev b_MO_sayAside : ByteArray := prog_10_method_30_code
def y_MO_sayAside : MethodName := ⟨"PolicyForgeModel", "sayAside", "(III)V"⟩
theorem d_MO_sayAside_0 : decode b_MO_sayAside 0 = .ok (.aload_n 0, 1) := by decide +kernel
theorem d_MO_sayAside_1 : decode b_MO_sayAside 1 = .ok (.iload_n 1, 1) := by decide +kernel
theorem d_MO_sayAside_2 : decode b_MO_sayAside 2 = .ok (.invokevirtual 239, 3) := by decide +kernel
theorem d_MO_sayAside_5 : decode b_MO_sayAside 5 = .ok (.aload_n 0, 1) := by decide +kernel
theorem d_MO_sayAside_6 : decode b_MO_sayAside 6 = .ok (.bipush 10, 2) := by decide +kernel
theorem d_MO_sayAside_8 : decode b_MO_sayAside 8 = .ok (.iconst 0, 1) := by decide +kernel
theorem d_MO_sayAside_9 : decode b_MO_sayAside 9 = .ok (.invokevirtual 242, 3) := by decide +kernel
theorem d_MO_sayAside_12 : decode b_MO_sayAside 12 = .ok (.aload_n 0, 1) := by decide +kernel
theorem d_MO_sayAside_13 : decode b_MO_sayAside 13 = .ok (.iload_n 2, 1) := by decide +kernel
theorem d_MO_sayAside_14 : decode b_MO_sayAside 14 = .ok (.invokevirtual 239, 3) := by decide +kernel
theorem d_MO_sayAside_17 : decode b_MO_sayAside 17 = .ok (.aload_n 0, 1) := by decide +kernel
theorem d_MO_sayAside_18 : decode b_MO_sayAside 18 = .ok (.bipush 11, 2) := by decide +kernel
theorem d_MO_sayAside_20 : decode b_MO_sayAside 20 = .ok (.iconst 0, 1) := by decide +kernel
theorem d_MO_sayAside_21 : decode b_MO_sayAside 21 = .ok (.invokevirtual 242, 3) := by decide +kernel
theorem d_MO_sayAside_24 : decode b_MO_sayAside 24 = .ok (.aload_n 0, 1) := by decide +kernel
theorem d_MO_sayAside_25 : decode b_MO_sayAside 25 = .ok (.iload_n 3, 1) := by decide +kernel
theorem d_MO_sayAside_26 : decode b_MO_sayAside 26 = .ok (.iconst 0, 1) := by decide +kernel
theorem d_MO_sayAside_27 : decode b_MO_sayAside 27 = .ok (.invokevirtual 242, 3) := by decide +kernel
theorem d_MO_sayAside_30 : decode b_MO_sayAside 30 = .ok (.return_, 1) := by decide +kernel
set_option maxRecDepth 100000 in
set_option maxHeartbeats 1000000 in
theorem s_MO_sayAside (u0 u : ab_S) (b k : Nat) (L : List Int32) (h : wr u0 u b k L) (hb : b + 100 ≤ 7200) (f g n1 n2 : Nat) (hf1 : f < 72) (hn1 : n1 ≤ 100) (hd1 : 100 * f + 100 ≤ b ∨ b + 100 ≤ 100 * f) (en1 : u0.1 18 6 f = nI n1) (hf2 : g < 72) (hn2 : n2 ≤ 100) (hd2 : 100 * g + 100 ≤ b ∨ b + 100 ≤ 100 * g) (en2 : u0.1 18 6 g = nI n2) (hk : k + n1 + n2 + 3 ≤ 100) (op : Nat) (hop : op ≤ 20) : ab_C false l D ca y_MO_sayAside b_MO_sayAside 4 none 1 ab_nQ u [ab_O 17 0, ab_I (nI f), ab_I (nI g), ab_I (nI op)] (fun u' v => wr u0 u' b (k + n1 + 1 + n2 + 1 + 1) (L ++ ol u0 (100 * f) n1 ++ [nI 10] ++ ol u0 (100 * g) n2 ++ [nI 11] ++ [nI op]) ∧ v = none) := by
  refine ab_C.of (by decide) (Nat.le_of_ble_eq_true rfl) ?_
  intro p e s m args below meth c ad X hZ hr0 hlk
  have P0 : gP [16, 109] u u := gP.rf h.1.1
  refine ab_aload_n X 0 d_MO_sayAside_0 rfl rfl ?_
  refine ab_iload_n X 1 d_MO_sayAside_1 rfl rfl ?_
  refine ab_callV (as := [ab_I (nI f)]) X (fun h => by cases h) (s_MO_sayForm u0 u b (k) (L) h hb f n1 hf1 hn1 hd1 en1 (by omega)) lk_MO_239 d_MO_sayAside_2 rfl rfl (by first | assumption | decide | (show _ < 124; omega) | (show _ < 61; omega) | (show _ < 20; omega)) ⟨by first | exact Nat.le_of_ble_eq_true rfl | (simp only [ab_rm]; omega), by first | exact Nat.le_of_ble_eq_true rfl | (simp only [ab_rm]; omega)⟩ ⟨by first | exact Nat.le_of_ble_eq_true rfl | (simp only [ab_rm]; omega), by first | exact Nat.le_of_ble_eq_true rfl | (simp only [ab_rm]; omega)⟩ (Nat.le_of_ble_eq_true rfl) (fun u2 r2 h2 => ?_)
  obtain ⟨q2, rfl⟩ := h2
  have P2 := q2
  refine ab_aload_n X 0 d_MO_sayAside_5 rfl rfl ?_
  refine ab_bipush (v := 10) X d_MO_sayAside_6 (by decide) ?_
  refine ab_iconst (v := 0) X d_MO_sayAside_8 (by decide) ?_
  refine ab_callV (as := [ab_I (nI 10), ab_I (nI 0)]) X (fun h => by cases h) (s_MO_say u0 u2 b (k + n1) (L ++ ol u0 (100 * f) n1) q2 (by omega) hb 10 0 (by decide) (by decide)) lk_MO_242 d_MO_sayAside_9 rfl rfl (by first | assumption | decide | (show _ < 124; omega) | (show _ < 61; omega) | (show _ < 20; omega)) ⟨by first | exact Nat.le_of_ble_eq_true rfl | (simp only [ab_rm]; omega), by first | exact Nat.le_of_ble_eq_true rfl | (simp only [ab_rm]; omega)⟩ ⟨by first | exact Nat.le_of_ble_eq_true rfl | (simp only [ab_rm]; omega), by first | exact Nat.le_of_ble_eq_true rfl | (simp only [ab_rm]; omega)⟩ (Nat.le_of_ble_eq_true rfl) (fun u9 r9 h9 => ?_)
  obtain ⟨q9, rfl⟩ := h9
  have P9 := q9
  refine ab_aload_n X 0 d_MO_sayAside_12 rfl rfl ?_
  refine ab_iload_n X 2 d_MO_sayAside_13 rfl rfl ?_
  refine ab_callV (as := [ab_I (nI g)]) X (fun h => by cases h) (s_MO_sayForm u0 u9 b (k + n1 + 1) (L ++ ol u0 (100 * f) n1 ++ [nI 10]) q9 hb g n2 hf2 hn2 hd2 en2 (by omega)) lk_MO_239 d_MO_sayAside_14 rfl rfl (by first | assumption | decide | (show _ < 124; omega) | (show _ < 61; omega) | (show _ < 20; omega)) ⟨by first | exact Nat.le_of_ble_eq_true rfl | (simp only [ab_rm]; omega), by first | exact Nat.le_of_ble_eq_true rfl | (simp only [ab_rm]; omega)⟩ ⟨by first | exact Nat.le_of_ble_eq_true rfl | (simp only [ab_rm]; omega), by first | exact Nat.le_of_ble_eq_true rfl | (simp only [ab_rm]; omega)⟩ (Nat.le_of_ble_eq_true rfl) (fun u14 r14 h14 => ?_)
  obtain ⟨q14, rfl⟩ := h14
  have P14 := q14
  refine ab_aload_n X 0 d_MO_sayAside_17 rfl rfl ?_
  refine ab_bipush (v := 11) X d_MO_sayAside_18 (by decide) ?_
  refine ab_iconst (v := 0) X d_MO_sayAside_20 (by decide) ?_
  refine ab_callV (as := [ab_I (nI 11), ab_I (nI 0)]) X (fun h => by cases h) (s_MO_say u0 u14 b (k + n1 + 1 + n2) (L ++ ol u0 (100 * f) n1 ++ [nI 10] ++ ol u0 (100 * g) n2) q14 (by omega) hb 11 0 (by decide) (by decide)) lk_MO_242 d_MO_sayAside_21 rfl rfl (by first | assumption | decide | (show _ < 124; omega) | (show _ < 61; omega) | (show _ < 20; omega)) ⟨by first | exact Nat.le_of_ble_eq_true rfl | (simp only [ab_rm]; omega), by first | exact Nat.le_of_ble_eq_true rfl | (simp only [ab_rm]; omega)⟩ ⟨by first | exact Nat.le_of_ble_eq_true rfl | (simp only [ab_rm]; omega), by first | exact Nat.le_of_ble_eq_true rfl | (simp only [ab_rm]; omega)⟩ (Nat.le_of_ble_eq_true rfl) (fun u21 r21 h21 => ?_)
  obtain ⟨q21, rfl⟩ := h21
  have P21 := q21
  refine ab_aload_n X 0 d_MO_sayAside_24 rfl rfl ?_
  refine ab_iload_n X 3 d_MO_sayAside_25 rfl rfl ?_
  refine ab_iconst (v := 0) X d_MO_sayAside_26 (by decide) ?_
  refine ab_callV (as := [ab_I (nI op), ab_I (nI 0)]) X (fun h => by cases h) (s_MO_say u0 u21 b (k + n1 + 1 + n2 + 1) (L ++ ol u0 (100 * f) n1 ++ [nI 10] ++ ol u0 (100 * g) n2 ++ [nI 11]) q21 (by omega) hb op 0 hop (by decide)) lk_MO_242 d_MO_sayAside_27 rfl rfl (by first | assumption | decide | (show _ < 124; omega) | (show _ < 61; omega) | (show _ < 20; omega)) ⟨by first | exact Nat.le_of_ble_eq_true rfl | (simp only [ab_rm]; omega), by first | exact Nat.le_of_ble_eq_true rfl | (simp only [ab_rm]; omega)⟩ ⟨by first | exact Nat.le_of_ble_eq_true rfl | (simp only [ab_rm]; omega), by first | exact Nat.le_of_ble_eq_true rfl | (simp only [ab_rm]; omega)⟩ (Nat.le_of_ble_eq_true rfl) (fun u27 r27 h27 => ?_)
  obtain ⟨q27, rfl⟩ := h27
  have P27 := q27
  exact ab_retv X hr0 hlk d_MO_sayAside_30 ⟨q27, rfl⟩
end SaMSay

