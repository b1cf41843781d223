/-! The reference's writing of a form: what it writes has ends for all that it begins. -/
theorem wr.cast {u0 u : ab_S} {b k k' : Nat} {L : List Int32} (h : wr u0 u b k L) (e : k = k') : wr u0 u b k' L := e ▸ h
theorem bal_nil : bal [] := fun _ => rfl
theorem cas_nil : cas [] = 0 := rfl
theorem cas_10 : cas [nI 10] = 1 := by decide
theorem cas_1 : cas [nI 1] = 0 := by decide
theorem cas_2 : cas [nI 2] = 0 := by decide
theorem cas_3 : cas [nI 3] = 0 := by decide
theorem cas_4 : cas [nI 4] = 0 := by decide
theorem cas_5 : cas [nI 5] = 0 := by decide
theorem cas_6 : cas [nI 6] = 0 := by decide
theorem cas_7 : cas [nI 7] = 0 := by decide
theorem cas_8 : cas [nI 8] = 0 := by decide
theorem cas_9 : cas [nI 9] = 0 := by decide
theorem cas_11 : cas [nI 11] = 0 := by decide
theorem cas_12 : cas [nI 12] = 0 := by decide
theorem cas_13 : cas [nI 13] = 0 := by decide
theorem cas_14 : cas [nI 14] = 0 := by decide
theorem cas_15 : cas [nI 15] = 0 := by decide
theorem cas_16 : cas [nI 16] = 0 := by decide
theorem cas_17 : cas [nI 17] = 0 := by decide
theorem bal_twice {a b : List Int32} (ha : bal a) (hb : bal b) : bal (a ++ [nI 16] ++ [nI 15] ++ b ++ [nI 14]) := fun s => by
  rw [rl_app, rl_app, rl_app, rl_app, ha]
  show ((rl b (15 :: s)).bind (rl [nI 14])) = some s
  rw [hb]; rfl
theorem bal_un {a b : List Int32} (ha : bal a) (hb : bal b) : bal (a ++ [nI 15] ++ b ++ [nI 14]) := fun s => by
  rw [rl_app, rl_app, rl_app, ha]
  show ((rl b (15 :: s)).bind (rl [nI 14])) = some s
  rw [hb]; rfl
theorem bal_zero {a : List Int32} (ha : bal a) : bal ([nI 12] ++ a ++ [nI 13] ++ [nI 17] ++ [nI 14]) := bal_if ha (bal_plain (by decide) (by decide) (by decide) (by decide))
theorem bal_p {a : List Int32} (ha : bal a) {o : Int32} (h12 : ¬ o = 12) (h15 : ¬ o = 15) (h13 : ¬ o = 13) (h14 : ¬ o = 14) : bal (a ++ [o]) := ha.app (bal_plain h12 h15 h13 h14)
/-- a form whose script is known -/
def fG (u : ab_S) (f k : Nat) : Prop := lk u f ∧ bal (ol u (100 * f) (lnu u f)) ∧ cas (ol u (100 * f) (lnu u f)) ≤ k
section SaMWrite
variable {l : Launch} {D : va_G} {ca : Nat → ClassId}
abbrev b_MO_sayThreshold : ByteArray := prog_10_method_32_code
def y_MO_sayThreshold : MethodName := ⟨"PolicyForgeModel", "sayThreshold", "(I)V"⟩
theorem d_MO_sayThreshold_0 : decode b_MO_sayThreshold 0 = .ok (.aload_n 0, 1) := by decide +kernel
theorem d_MO_sayThreshold_1 : decode b_MO_sayThreshold 1 = .ok (.aload_n 0, 1) := by decide +kernel
theorem d_MO_sayThreshold_2 : decode b_MO_sayThreshold 2 = .ok (.getfield 42, 3) := by decide +kernel
theorem d_MO_sayThreshold_5 : decode b_MO_sayThreshold 5 = .ok (.iconst 4, 1) := by decide +kernel
theorem d_MO_sayThreshold_6 : decode b_MO_sayThreshold 6 = .ok (.iload_n 1, 1) := by decide +kernel
theorem d_MO_sayThreshold_7 : decode b_MO_sayThreshold 7 = .ok (.imul, 1) := by decide +kernel
theorem d_MO_sayThreshold_8 : decode b_MO_sayThreshold 8 = .ok (.iaload, 1) := by decide +kernel
theorem d_MO_sayThreshold_9 : decode b_MO_sayThreshold 9 = .ok (.invokestatic 195, 3) := by decide +kernel
theorem d_MO_sayThreshold_12 : decode b_MO_sayThreshold 12 = .ok (.invokevirtual 239, 3) := by decide +kernel
theorem d_MO_sayThreshold_15 : decode b_MO_sayThreshold 15 = .ok (.iconst 1, 1) := by decide +kernel
theorem d_MO_sayThreshold_16 : decode b_MO_sayThreshold 16 = .ok (.istore_n 2, 1) := by decide +kernel
theorem d_MO_sayThreshold_17 : decode b_MO_sayThreshold 17 = .ok (.iload_n 2, 1) := by decide +kernel
theorem d_MO_sayThreshold_18 : decode b_MO_sayThreshold 18 = .ok (.aload_n 0, 1) := by decide +kernel
theorem d_MO_sayThreshold_19 : decode b_MO_sayThreshold 19 = .ok (.getfield 39, 3) := by decide +kernel
theorem d_MO_sayThreshold_22 : decode b_MO_sayThreshold 22 = .ok (.iload_n 1, 1) := by decide +kernel
theorem d_MO_sayThreshold_23 : decode b_MO_sayThreshold 23 = .ok (.iaload, 1) := by decide +kernel
theorem d_MO_sayThreshold_24 : decode b_MO_sayThreshold 24 = .ok (.if_icmp .ge 47, 3) := by decide +kernel
theorem d_MO_sayThreshold_27 : decode b_MO_sayThreshold 27 = .ok (.aload_n 0, 1) := by decide +kernel
theorem d_MO_sayThreshold_28 : decode b_MO_sayThreshold 28 = .ok (.bipush 10, 2) := by decide +kernel
theorem d_MO_sayThreshold_30 : decode b_MO_sayThreshold 30 = .ok (.iconst 0, 1) := by decide +kernel
theorem d_MO_sayThreshold_31 : decode b_MO_sayThreshold 31 = .ok (.invokevirtual 242, 3) := by decide +kernel
theorem d_MO_sayThreshold_34 : decode b_MO_sayThreshold 34 = .ok (.aload_n 0, 1) := by decide +kernel
theorem d_MO_sayThreshold_35 : decode b_MO_sayThreshold 35 = .ok (.aload_n 0, 1) := by decide +kernel
theorem d_MO_sayThreshold_36 : decode b_MO_sayThreshold 36 = .ok (.getfield 42, 3) := by decide +kernel
theorem d_MO_sayThreshold_39 : decode b_MO_sayThreshold 39 = .ok (.iconst 4, 1) := by decide +kernel
theorem d_MO_sayThreshold_40 : decode b_MO_sayThreshold 40 = .ok (.iload_n 1, 1) := by decide +kernel
theorem d_MO_sayThreshold_41 : decode b_MO_sayThreshold 41 = .ok (.imul, 1) := by decide +kernel
theorem d_MO_sayThreshold_42 : decode b_MO_sayThreshold 42 = .ok (.iload_n 2, 1) := by decide +kernel
theorem d_MO_sayThreshold_43 : decode b_MO_sayThreshold 43 = .ok (.iadd, 1) := by decide +kernel
theorem d_MO_sayThreshold_44 : decode b_MO_sayThreshold 44 = .ok (.iaload, 1) := by decide +kernel
theorem d_MO_sayThreshold_45 : decode b_MO_sayThreshold 45 = .ok (.invokestatic 195, 3) := by decide +kernel
theorem d_MO_sayThreshold_48 : decode b_MO_sayThreshold 48 = .ok (.invokevirtual 239, 3) := by decide +kernel
theorem d_MO_sayThreshold_51 : decode b_MO_sayThreshold 51 = .ok (.aload_n 0, 1) := by decide +kernel
theorem d_MO_sayThreshold_52 : decode b_MO_sayThreshold 52 = .ok (.bipush 11, 2) := by decide +kernel
theorem d_MO_sayThreshold_54 : decode b_MO_sayThreshold 54 = .ok (.iconst 0, 1) := by decide +kernel
theorem d_MO_sayThreshold_55 : decode b_MO_sayThreshold 55 = .ok (.invokevirtual 242, 3) := by decide +kernel
theorem d_MO_sayThreshold_58 : decode b_MO_sayThreshold 58 = .ok (.aload_n 0, 1) := by decide +kernel
theorem d_MO_sayThreshold_59 : decode b_MO_sayThreshold 59 = .ok (.bipush 8, 2) := by decide +kernel
theorem d_MO_sayThreshold_61 : decode b_MO_sayThreshold 61 = .ok (.iconst 0, 1) := by decide +kernel
theorem d_MO_sayThreshold_62 : decode b_MO_sayThreshold 62 = .ok (.invokevirtual 242, 3) := by decide +kernel
theorem d_MO_sayThreshold_65 : decode b_MO_sayThreshold 65 = .ok (.iinc 2 1, 3) := by decide +kernel
theorem d_MO_sayThreshold_68 : decode b_MO_sayThreshold 68 = .ok (.goto (-51), 3) := by decide +kernel
theorem d_MO_sayThreshold_71 : decode b_MO_sayThreshold 71 = .ok (.aload_n 0, 1) := by decide +kernel
theorem d_MO_sayThreshold_72 : decode b_MO_sayThreshold 72 = .ok (.bipush 9, 2) := by decide +kernel
theorem d_MO_sayThreshold_74 : decode b_MO_sayThreshold 74 = .ok (.aload_n 0, 1) := by decide +kernel
theorem d_MO_sayThreshold_75 : decode b_MO_sayThreshold 75 = .ok (.getfield 36, 3) := by decide +kernel
theorem d_MO_sayThreshold_78 : decode b_MO_sayThreshold 78 = .ok (.iload_n 1, 1) := by decide +kernel
theorem d_MO_sayThreshold_79 : decode b_MO_sayThreshold 79 = .ok (.iaload, 1) := by decide +kernel
theorem d_MO_sayThreshold_80 : decode b_MO_sayThreshold 80 = .ok (.invokevirtual 242, 3) := by decide +kernel
theorem d_MO_sayThreshold_83 : decode b_MO_sayThreshold 83 = .ok (.return_, 1) := by decide +kernel
set_option maxRecDepth 100000 in
set_option maxHeartbeats 1000000 in
theorem s_MO_sayThreshold (u0 u : ab_S) (P : Nat) (kd ar cn lf : Nat → Nat) (ch : Nat → Nat → Nat) (W : tW P kd ar cn lf ch) (T : tR P kd ar cn ch u0) (p1 j : Nat) (hp : p1 < P) (hj : j < 3) (hk : kd p1 = 7) (G : ∀ c, p1 < c → c < P → fG u0 (3 * c) (lf c - 1) ∧ fG u0 (3 * c + 1) (lf c - 1) ∧ fG u0 (3 * c + 2) (lf c - 1)) (hK : wl u0 p1 (cn p1) (ch p1) 7 ≤ 100) (h : wr u0 u (100 * (3 * p1 + j)) 0 []) : ab_C false l D ca y_MO_sayThreshold b_MO_sayThreshold 3 none 1 ab_nQ u [ab_O 17 0, ab_I (nI p1)] (fun u' v => (∃ L, wr u0 u' (100 * (3 * p1 + j)) (wl u0 p1 (cn p1) (ch p1) 7) L ∧ bal L ∧ cas L ≤ lf p1 - 1) ∧ v = none) := by
  refine ab_C.of (by decide) (Nat.le_of_ble_eq_true rfl) ?_
  intro p e s m args below meth c ad X hZ hr0 hlk
  have P0 := h.1
  have hP19 := W.2.1
  obtain ⟨⟨-, -, -, -, ar9⟩, -, a3⟩ := W.2.2 p1 hp
  obtain ⟨n2, n4, -, -, b5, b6⟩ := a3 (by omega)
  obtain ⟨-, ea, ec, ech⟩ := T.2 p1 hp
  have hK7 : 1 + sm (fun i => lnu u0 (3 * ch p1 i + 1) + (if 0 < i then 3 else 0)) (cn p1) ≤ 100 := hK
  have loop : ∀ (k i : Nat) (u1 : ab_S) (L : List Int32), i + k = cn p1 → 1 ≤ i → wr u0 u1 (100 * (3 * p1 + j)) (sm (fun i => lnu u0 (3 * ch p1 i + 1) + (if 0 < i then 3 else 0)) i) L → bal L → cas L + 1 ≤ sm (fun i => lf (ch p1 i)) i → ab_J p l e (ab_rm 1 0 0) s m args below meth c (MQ below (ab_Q D ca ad ab_nQ s.heap.size (fun u' v => (∃ L, wr u0 u' (100 * (3 * p1 + j)) (wl u0 p1 (cn p1) (ch p1) 7) L ∧ bal L ∧ cas L ≤ lf p1 - 1) ∧ v = none)) args s 0 0 (ab_A ad ab_nQ s.heap.size)) D ca (ab_A ad ab_nQ s.heap.size) s.heap 3 0 0 ad ab_nQ u1 17 [(2, ab_I (nI i)), (0, ab_O 17 0), (1, ab_I (nI p1))] [] := by
    intro k
    induction k with
    | zero =>
      intro i u1 L hi h1 hw hb hc
      obtain rfl : i = cn p1 := by omega
      have P1 := hw.1
      refine ab_iload_n X 0 d_MO_sayThreshold_17 rfl rfl ?_
      refine ab_aload_n X 1 d_MO_sayThreshold_18 rfl rfl ?_
      refine ab_gR X fl_MO_39 d_MO_sayThreshold_19 (by first | assumption | decide | (show _ < 124; omega) | (show _ < 61; omega) | (show _ < 20; omega)) (P1.1.mo9) ?_
      refine ab_iload_n X 2 d_MO_sayThreshold_22 rfl rfl ?_
      refine ab_iald X (p1) ⟨rfl, rfl⟩ d_MO_sayThreshold_23 (by first | assumption | decide | (show _ < 124; omega) | (show _ < 61; omega) | (show _ < 20; omega)) (rfl) (show p1 < 40 by omega) (ab_ln_lt _ _) ?_
      refine ab_top (hw.1.ai (by decide) ec) ?_
      refine ab_icmp_ge X 71 d_MO_sayThreshold_24 rfl (fun _ => ?_) (fun hb => absurd ((nI_le (Nat.le_refl _) (by omega))) hb)
      refine ab_aload_n X 1 d_MO_sayThreshold_71 rfl rfl ?_
      refine ab_bipush (v := 9) X d_MO_sayThreshold_72 (by decide) ?_
      refine ab_aload_n X 1 d_MO_sayThreshold_74 rfl rfl ?_
      refine ab_gR X fl_MO_36 d_MO_sayThreshold_75 (by first | assumption | decide | (show _ < 124; omega) | (show _ < 61; omega) | (show _ < 20; omega)) (P1.1.mo8) ?_
      refine ab_iload_n X 2 d_MO_sayThreshold_78 rfl rfl ?_
      refine ab_iald X (p1) ⟨rfl, rfl⟩ d_MO_sayThreshold_79 (by first | assumption | decide | (show _ < 124; omega) | (show _ < 61; omega) | (show _ < 20; omega)) (rfl) (show p1 < 40 by omega) (ab_ln_lt _ _) ?_
      refine ab_top (hw.1.ai (by decide) ea) ?_
      refine ab_callV (as := [ab_I (nI 9), ab_I (nI (ar p1))]) X (fun h => by cases h) (s_MO_say u0 u1 _ _ L hw (by omega) (by omega) 9 (ar p1) (by decide) ar9) lk_MO_242 d_MO_sayThreshold_80 rfl rfl (by first | assumption | decide | (show _ < 124; omega) | (show _ < 61; omega) | (show _ < 20; omega)) ⟨by first | exact Nat.le_of_ble_eq_true rfl | (simp only [ab_rm]; omega), by first | exact Nat.le_of_ble_eq_true rfl | (simp only [ab_rm]; omega)⟩ ⟨by first | exact Nat.le_of_ble_eq_true rfl | (simp only [ab_rm]; omega), by first | exact Nat.le_of_ble_eq_true rfl | (simp only [ab_rm]; omega)⟩ (Nat.le_of_ble_eq_true rfl) (fun u80 r80 h80 => ?_)
      obtain ⟨q80, rfl⟩ := h80
      have P80 := q80.1
      exact ab_retv X hr0 hlk d_MO_sayThreshold_83 ⟨⟨_, by rw [show wl u0 p1 (cn p1) (ch p1) 7 = sm (fun i => lnu u0 (3 * ch p1 i + 1) + (if 0 < i then 3 else 0)) (cn p1) + 1 from Nat.add_comm _ _]; exact q80, bal_p hb (by decide) (by decide) (by decide) (by decide), by rw [cas_app, cas_9]; omega⟩, rfl⟩
    | succ k ih =>
      intro i u1 L hi h1 hw hb hc
      obtain ⟨c1, c2⟩ := b5 i (by omega)
      obtain ⟨-, g1, -⟩ := G _ c1 c2
      have lc := (W.2.2 _ c2).1.1
      have hs : sm (fun i => lnu u0 (3 * ch p1 i + 1) + (if 0 < i then 3 else 0)) (i + 1) = sm (fun i => lnu u0 (3 * ch p1 i + 1) + (if 0 < i then 3 else 0)) i + (lnu u0 (3 * ch p1 i + 1) + 3) := by show sm (fun i => lnu u0 (3 * ch p1 i + 1) + (if 0 < i then 3 else 0)) i + (lnu u0 (3 * ch p1 i + 1) + (if 0 < i then 3 else 0)) = _; rw [if_pos (show 0 < i by omega)]
      have hs2 := sm_mono (fun i => lnu u0 (3 * ch p1 i + 1) + (if 0 < i then 3 else 0)) (show i + 1 ≤ cn p1 by omega)
      have hs3 : sm (fun i => lf (ch p1 i)) (i + 1) = sm (fun i => lf (ch p1 i)) i + lf (ch p1 i) := rfl
      have P1 := hw.1
      refine ab_iload_n X 0 d_MO_sayThreshold_17 rfl rfl ?_
      refine ab_aload_n X 1 d_MO_sayThreshold_18 rfl rfl ?_
      refine ab_gR X fl_MO_39 d_MO_sayThreshold_19 (by first | assumption | decide | (show _ < 124; omega) | (show _ < 61; omega) | (show _ < 20; omega)) (P1.1.mo9) ?_
      refine ab_iload_n X 2 d_MO_sayThreshold_22 rfl rfl ?_
      refine ab_iald X (p1) ⟨rfl, rfl⟩ d_MO_sayThreshold_23 (by first | assumption | decide | (show _ < 124; omega) | (show _ < 61; omega) | (show _ < 20; omega)) (rfl) (show p1 < 40 by omega) (ab_ln_lt _ _) ?_
      refine ab_top (hw.1.ai (by decide) ec) ?_
      refine ab_icmp_ge X 71 d_MO_sayThreshold_24 rfl (fun hb => absurd hb ((nI_ge (by omega) (by omega)))) (fun _ => ?_)
      refine ab_aload_n X 1 d_MO_sayThreshold_27 rfl rfl ?_
      refine ab_bipush (v := 10) X d_MO_sayThreshold_28 (by decide) ?_
      refine ab_iconst (v := 0) X d_MO_sayThreshold_30 (by decide) ?_
      refine ab_callV (as := [ab_I (nI 10), ab_I (nI 0)]) X (fun h => by cases h) (s_MO_say u0 u1 _ _ L hw (by omega) (by omega) 10 0 (by decide) (by decide)) lk_MO_242 d_MO_sayThreshold_31 rfl rfl (by first | assumption | decide | (show _ < 124; omega) | (show _ < 61; omega) | (show _ < 20; omega)) ⟨by first | exact Nat.le_of_ble_eq_true rfl | (simp only [ab_rm]; omega), by first | exact Nat.le_of_ble_eq_true rfl | (simp only [ab_rm]; omega)⟩ ⟨by first | exact Nat.le_of_ble_eq_true rfl | (simp only [ab_rm]; omega), by first | exact Nat.le_of_ble_eq_true rfl | (simp only [ab_rm]; omega)⟩ (Nat.le_of_ble_eq_true rfl) (fun u31 r31 h31 => ?_)
      obtain ⟨q31, rfl⟩ := h31
      have P31 := q31.1
      refine ab_aload_n X 1 d_MO_sayThreshold_34 rfl rfl ?_
      refine ab_aload_n X 1 d_MO_sayThreshold_35 rfl rfl ?_
      refine ab_gR X fl_MO_42 d_MO_sayThreshold_36 (by first | assumption | decide | (show _ < 124; omega) | (show _ < 61; omega) | (show _ < 20; omega)) (P31.1.mo10) ?_
      refine ab_iconst (v := 4) X d_MO_sayThreshold_39 (by decide) ?_
      refine ab_iload_n X 2 d_MO_sayThreshold_40 rfl rfl ?_
      refine ab_imul X d_MO_sayThreshold_41 ?_
      refine ab_iload_n X 0 d_MO_sayThreshold_42 rfl rfl ?_
      refine ab_iadd X d_MO_sayThreshold_43 ?_
      refine ab_iald X (4 * p1 + i) ⟨rfl, rfl⟩ d_MO_sayThreshold_44 (by first | assumption | decide | (show _ < 124; omega) | (show _ < 61; omega) | (show _ < 20; omega)) (nI_4a p1 i) (show 4 * p1 + i < 160 by omega) (ab_ln_lt _ _) ?_
      refine ab_top (q31.1.ai (by decide) (ech i (by omega))) ?_
      refine ab_callS (as := [ab_I (nI (ch p1 i))]) X (fun h => by cases h) (t_MO_d u31 (ch p1 i)) ls_MO_195 d_MO_sayThreshold_45 rfl rfl ⟨by first | exact Nat.le_of_ble_eq_true rfl | (simp only [ab_rm]; omega), by first | exact Nat.le_of_ble_eq_true rfl | (simp only [ab_rm]; omega)⟩ ⟨by first | exact Nat.le_of_ble_eq_true rfl | (simp only [ab_rm]; omega), by first | exact Nat.le_of_ble_eq_true rfl | (simp only [ab_rm]; omega)⟩ (Nat.le_of_ble_eq_true rfl) (fun u45 r45 h45 => ?_)
      obtain ⟨e45, rfl⟩ := h45
      subst u45
      refine ab_callV (as := [ab_I (nI (3 * ch p1 i + 1))]) X (fun h => by cases h) (s_MO_sayForm u0 u31 _ _ _ q31 (by omega) (3 * ch p1 i + 1) (lnu u0 (3 * ch p1 i + 1)) (by omega) g1.1.2.2 (by omega) g1.1.1 (by omega)) lk_MO_239 d_MO_sayThreshold_48 rfl rfl (by first | assumption | decide | (show _ < 124; omega) | (show _ < 61; omega) | (show _ < 20; omega)) ⟨by first | exact Nat.le_of_ble_eq_true rfl | (simp only [ab_rm]; omega), by first | exact Nat.le_of_ble_eq_true rfl | (simp only [ab_rm]; omega)⟩ ⟨by first | exact Nat.le_of_ble_eq_true rfl | (simp only [ab_rm]; omega), by first | exact Nat.le_of_ble_eq_true rfl | (simp only [ab_rm]; omega)⟩ (Nat.le_of_ble_eq_true rfl) (fun u48 r48 h48 => ?_)
      obtain ⟨q48, rfl⟩ := h48
      have P48 := q48.1
      refine ab_aload_n X 1 d_MO_sayThreshold_51 rfl rfl ?_
      refine ab_bipush (v := 11) X d_MO_sayThreshold_52 (by decide) ?_
      refine ab_iconst (v := 0) X d_MO_sayThreshold_54 (by decide) ?_
      refine ab_callV (as := [ab_I (nI 11), ab_I (nI 0)]) X (fun h => by cases h) (s_MO_say u0 u48 _ _ _ q48 (by omega) (by omega) 11 0 (by decide) (by decide)) lk_MO_242 d_MO_sayThreshold_55 rfl rfl (by first | assumption | decide | (show _ < 124; omega) | (show _ < 61; omega) | (show _ < 20; omega)) ⟨by first | exact Nat.le_of_ble_eq_true rfl | (simp only [ab_rm]; omega), by first | exact Nat.le_of_ble_eq_true rfl | (simp only [ab_rm]; omega)⟩ ⟨by first | exact Nat.le_of_ble_eq_true rfl | (simp only [ab_rm]; omega), by first | exact Nat.le_of_ble_eq_true rfl | (simp only [ab_rm]; omega)⟩ (Nat.le_of_ble_eq_true rfl) (fun u55 r55 h55 => ?_)
      obtain ⟨q55, rfl⟩ := h55
      have P55 := q55.1
      refine ab_aload_n X 1 d_MO_sayThreshold_58 rfl rfl ?_
      refine ab_bipush (v := 8) X d_MO_sayThreshold_59 (by decide) ?_
      refine ab_iconst (v := 0) X d_MO_sayThreshold_61 (by decide) ?_
      refine ab_callV (as := [ab_I (nI 8), ab_I (nI 0)]) X (fun h => by cases h) (s_MO_say u0 u55 _ _ _ q55 (by omega) (by omega) 8 0 (by decide) (by decide)) lk_MO_242 d_MO_sayThreshold_62 rfl rfl (by first | assumption | decide | (show _ < 124; omega) | (show _ < 61; omega) | (show _ < 20; omega)) ⟨by first | exact Nat.le_of_ble_eq_true rfl | (simp only [ab_rm]; omega), by first | exact Nat.le_of_ble_eq_true rfl | (simp only [ab_rm]; omega)⟩ ⟨by first | exact Nat.le_of_ble_eq_true rfl | (simp only [ab_rm]; omega), by first | exact Nat.le_of_ble_eq_true rfl | (simp only [ab_rm]; omega)⟩ (Nat.le_of_ble_eq_true rfl) (fun u62 r62 h62 => ?_)
      obtain ⟨q62, rfl⟩ := h62
      have P62 := q62.1
      refine ab_iinc2 X 0 1 2 d_MO_sayThreshold_65 rfl (by decide) rfl rfl rfl rfl ?_
      refine ab_goto X 17 d_MO_sayThreshold_68 rfl ?_
      rw [show nI i + Int32.ofInt 1 = nI (i + 1) from nI_1 i]
      exact ih (i + 1) _ _ (by omega) (by omega) (by rw [hs, show sm (fun i => lnu u0 (3 * ch p1 i + 1) + (if 0 < i then 3 else 0)) i + (lnu u0 (3 * ch p1 i + 1) + 3) = sm (fun i => lnu u0 (3 * ch p1 i + 1) + (if 0 < i then 3 else 0)) i + 1 + lnu u0 (3 * ch p1 i + 1) + 1 + 1 by omega]; exact q62) (bal_p (bal_p ((bal_p hb (by decide) (by decide) (by decide) (by decide)).app g1.2.1) (by decide) (by decide) (by decide) (by decide)) (by decide) (by decide) (by decide) (by decide)) (by have := g1.2.2; simp only [List.nil_append, cas_app, cas_nil, cas_10, cas_1, cas_2, cas_3, cas_4, cas_5, cas_6, cas_7, cas_8, cas_9, cas_11, cas_12, cas_13, cas_14, cas_15, cas_16, cas_17]; omega)
  obtain ⟨c1, c2⟩ := b5 0 (by omega)
  obtain ⟨-, g1, -⟩ := G _ c1 c2
  have lc := (W.2.2 _ c2).1.1
  have hs : sm (fun i => lnu u0 (3 * ch p1 i + 1) + (if 0 < i then 3 else 0)) 1 = lnu u0 (3 * ch p1 0 + 1) := by show 0 + (lnu u0 (3 * ch p1 0 + 1) + 0) = _; omega
  have hs2 := sm_mono (fun i => lnu u0 (3 * ch p1 i + 1) + (if 0 < i then 3 else 0)) (show 1 ≤ cn p1 by omega)
  have hs3 : sm (fun i => lf (ch p1 i)) 1 = lf (ch p1 0) := Nat.zero_add _
  refine ab_aload_n X 0 d_MO_sayThreshold_0 rfl rfl ?_
  refine ab_aload_n X 0 d_MO_sayThreshold_1 rfl rfl ?_
  refine ab_gR X fl_MO_42 d_MO_sayThreshold_2 (by first | assumption | decide | (show _ < 124; omega) | (show _ < 61; omega) | (show _ < 20; omega)) (P0.1.mo10) ?_
  refine ab_iconst (v := 4) X d_MO_sayThreshold_5 (by decide) ?_
  refine ab_iload_n X 1 d_MO_sayThreshold_6 rfl rfl ?_
  refine ab_imul X d_MO_sayThreshold_7 ?_
  refine ab_iald X (4 * p1) ⟨rfl, rfl⟩ d_MO_sayThreshold_8 (by first | assumption | decide | (show _ < 124; omega) | (show _ < 61; omega) | (show _ < 20; omega)) (nI_4m p1) (show 4 * p1 < 160 by omega) (ab_ln_lt _ _) ?_
  refine ab_top (h.1.ai (by decide) (ech 0 (by omega))) ?_
  refine ab_callS (as := [ab_I (nI (ch p1 0))]) X (fun h => by cases h) (t_MO_d u (ch p1 0)) ls_MO_195 d_MO_sayThreshold_9 rfl rfl ⟨by first | exact Nat.le_of_ble_eq_true rfl | (simp only [ab_rm]; omega), by first | exact Nat.le_of_ble_eq_true rfl | (simp only [ab_rm]; omega)⟩ ⟨by first | exact Nat.le_of_ble_eq_true rfl | (simp only [ab_rm]; omega), by first | exact Nat.le_of_ble_eq_true rfl | (simp only [ab_rm]; omega)⟩ (Nat.le_of_ble_eq_true rfl) (fun u9 r9 h9 => ?_)
  obtain ⟨e9, rfl⟩ := h9
  subst u9
  refine ab_callV (as := [ab_I (nI (3 * ch p1 0 + 1))]) X (fun h => by cases h) (s_MO_sayForm u0 u _ _ _ h (by omega) (3 * ch p1 0 + 1) (lnu u0 (3 * ch p1 0 + 1)) (by omega) g1.1.2.2 (by omega) g1.1.1 (by omega)) lk_MO_239 d_MO_sayThreshold_12 rfl rfl (by first | assumption | decide | (show _ < 124; omega) | (show _ < 61; omega) | (show _ < 20; omega)) ⟨by first | exact Nat.le_of_ble_eq_true rfl | (simp only [ab_rm]; omega), by first | exact Nat.le_of_ble_eq_true rfl | (simp only [ab_rm]; omega)⟩ ⟨by first | exact Nat.le_of_ble_eq_true rfl | (simp only [ab_rm]; omega), by first | exact Nat.le_of_ble_eq_true rfl | (simp only [ab_rm]; omega)⟩ (Nat.le_of_ble_eq_true rfl) (fun u12 r12 h12 => ?_)
  obtain ⟨q12, rfl⟩ := h12
  have P12 := q12.1
  refine ab_iconst (v := 1) X d_MO_sayThreshold_15 (by decide) ?_
  refine ab_istore_n2 X 0 1 d_MO_sayThreshold_16 rfl (by decide) rfl rfl rfl rfl ?_
  exact loop (cn p1 - 1) 1 _ _ (by omega) (by omega) (by rw [hs]; simpa using q12) (by simpa using g1.2.1) (by have := g1.2.2; rw [hs3]; omega)
abbrev b_MO_writeMore : ByteArray := prog_10_method_33_code
def y_MO_writeMore : MethodName := ⟨"PolicyForgeModel", "writeMore", "(IIII)V"⟩
theorem d_MO_writeMore_0 : decode b_MO_writeMore 0 = .ok (.iload_n 2, 1) := by decide +kernel
theorem d_MO_writeMore_1 : decode b_MO_writeMore 1 = .ok (.bipush 13, 2) := by decide +kernel
theorem d_MO_writeMore_3 : decode b_MO_writeMore 3 = .ok (.if_icmp .eq 9, 3) := by decide +kernel
theorem d_MO_writeMore_6 : decode b_MO_writeMore 6 = .ok (.iload_n 2, 1) := by decide +kernel
theorem d_MO_writeMore_7 : decode b_MO_writeMore 7 = .ok (.bipush 21, 2) := by decide +kernel
theorem d_MO_writeMore_9 : decode b_MO_writeMore 9 = .ok (.if_icmp .ne 34, 3) := by decide +kernel
theorem d_MO_writeMore_12 : decode b_MO_writeMore 12 = .ok (.aload_n 0, 1) := by decide +kernel
theorem d_MO_writeMore_13 : decode b_MO_writeMore 13 = .ok (.iload_n 3, 1) := by decide +kernel
theorem d_MO_writeMore_14 : decode b_MO_writeMore 14 = .ok (.invokestatic 201, 3) := by decide +kernel
theorem d_MO_writeMore_17 : decode b_MO_writeMore 17 = .ok (.invokevirtual 239, 3) := by decide +kernel
theorem d_MO_writeMore_20 : decode b_MO_writeMore 20 = .ok (.aload_n 0, 1) := by decide +kernel
theorem d_MO_writeMore_21 : decode b_MO_writeMore 21 = .ok (.iload_n 2, 1) := by decide +kernel
theorem d_MO_writeMore_22 : decode b_MO_writeMore 22 = .ok (.bipush 13, 2) := by decide +kernel
theorem d_MO_writeMore_24 : decode b_MO_writeMore 24 = .ok (.if_icmp .ne 11, 3) := by decide +kernel
theorem d_MO_writeMore_27 : decode b_MO_writeMore 27 = .ok (.iload 4, 2) := by decide +kernel
theorem d_MO_writeMore_29 : decode b_MO_writeMore 29 = .ok (.invokestatic 204, 3) := by decide +kernel
theorem d_MO_writeMore_32 : decode b_MO_writeMore 32 = .ok (.goto 8, 3) := by decide +kernel
theorem d_MO_writeMore_35 : decode b_MO_writeMore 35 = .ok (.iload 4, 2) := by decide +kernel
theorem d_MO_writeMore_37 : decode b_MO_writeMore 37 = .ok (.invokestatic 201, 3) := by decide +kernel
theorem d_MO_writeMore_40 : decode b_MO_writeMore 40 = .ok (.invokevirtual 239, 3) := by decide +kernel
theorem d_MO_writeMore_43 : decode b_MO_writeMore 43 = .ok (.iload_n 2, 1) := by decide +kernel
theorem d_MO_writeMore_44 : decode b_MO_writeMore 44 = .ok (.bipush 14, 2) := by decide +kernel
theorem d_MO_writeMore_46 : decode b_MO_writeMore 46 = .ok (.if_icmp .ne 20, 3) := by decide +kernel
theorem d_MO_writeMore_49 : decode b_MO_writeMore 49 = .ok (.aload_n 0, 1) := by decide +kernel
theorem d_MO_writeMore_50 : decode b_MO_writeMore 50 = .ok (.iload 4, 2) := by decide +kernel
theorem d_MO_writeMore_52 : decode b_MO_writeMore 52 = .ok (.invokestatic 201, 3) := by decide +kernel
theorem d_MO_writeMore_55 : decode b_MO_writeMore 55 = .ok (.invokevirtual 239, 3) := by decide +kernel
theorem d_MO_writeMore_58 : decode b_MO_writeMore 58 = .ok (.aload_n 0, 1) := by decide +kernel
theorem d_MO_writeMore_59 : decode b_MO_writeMore 59 = .ok (.iload_n 3, 1) := by decide +kernel
theorem d_MO_writeMore_60 : decode b_MO_writeMore 60 = .ok (.invokestatic 204, 3) := by decide +kernel
theorem d_MO_writeMore_63 : decode b_MO_writeMore 63 = .ok (.invokevirtual 239, 3) := by decide +kernel
theorem d_MO_writeMore_66 : decode b_MO_writeMore 66 = .ok (.iload_n 2, 1) := by decide +kernel
theorem d_MO_writeMore_67 : decode b_MO_writeMore 67 = .ok (.bipush 15, 2) := by decide +kernel
theorem d_MO_writeMore_69 : decode b_MO_writeMore 69 = .ok (.if_icmp .ne 16, 3) := by decide +kernel
theorem d_MO_writeMore_72 : decode b_MO_writeMore 72 = .ok (.aload_n 0, 1) := by decide +kernel
theorem d_MO_writeMore_73 : decode b_MO_writeMore 73 = .ok (.iload_n 3, 1) := by decide +kernel
theorem d_MO_writeMore_74 : decode b_MO_writeMore 74 = .ok (.invokestatic 195, 3) := by decide +kernel
theorem d_MO_writeMore_77 : decode b_MO_writeMore 77 = .ok (.iload 4, 2) := by decide +kernel
theorem d_MO_writeMore_79 : decode b_MO_writeMore 79 = .ok (.invokestatic 204, 3) := by decide +kernel
theorem d_MO_writeMore_82 : decode b_MO_writeMore 82 = .ok (.invokevirtual 248, 3) := by decide +kernel
theorem d_MO_writeMore_85 : decode b_MO_writeMore 85 = .ok (.iload_n 2, 1) := by decide +kernel
theorem d_MO_writeMore_86 : decode b_MO_writeMore 86 = .ok (.bipush 16, 2) := by decide +kernel
theorem d_MO_writeMore_88 : decode b_MO_writeMore 88 = .ok (.if_icmp .ne 16, 3) := by decide +kernel
theorem d_MO_writeMore_91 : decode b_MO_writeMore 91 = .ok (.aload_n 0, 1) := by decide +kernel
theorem d_MO_writeMore_92 : decode b_MO_writeMore 92 = .ok (.iload 4, 2) := by decide +kernel
theorem d_MO_writeMore_94 : decode b_MO_writeMore 94 = .ok (.invokestatic 195, 3) := by decide +kernel
theorem d_MO_writeMore_97 : decode b_MO_writeMore 97 = .ok (.iload_n 3, 1) := by decide +kernel
theorem d_MO_writeMore_98 : decode b_MO_writeMore 98 = .ok (.invokestatic 204, 3) := by decide +kernel
theorem d_MO_writeMore_101 : decode b_MO_writeMore 101 = .ok (.invokevirtual 248, 3) := by decide +kernel
theorem d_MO_writeMore_104 : decode b_MO_writeMore 104 = .ok (.iload_n 2, 1) := by decide +kernel
theorem d_MO_writeMore_105 : decode b_MO_writeMore 105 = .ok (.bipush 17, 2) := by decide +kernel
theorem d_MO_writeMore_107 : decode b_MO_writeMore 107 = .ok (.if_icmp .ne 16, 3) := by decide +kernel
theorem d_MO_writeMore_110 : decode b_MO_writeMore 110 = .ok (.aload_n 0, 1) := by decide +kernel
theorem d_MO_writeMore_111 : decode b_MO_writeMore 111 = .ok (.iload_n 3, 1) := by decide +kernel
theorem d_MO_writeMore_112 : decode b_MO_writeMore 112 = .ok (.invokestatic 204, 3) := by decide +kernel
theorem d_MO_writeMore_115 : decode b_MO_writeMore 115 = .ok (.iload 4, 2) := by decide +kernel
theorem d_MO_writeMore_117 : decode b_MO_writeMore 117 = .ok (.invokestatic 204, 3) := by decide +kernel
theorem d_MO_writeMore_120 : decode b_MO_writeMore 120 = .ok (.invokevirtual 251, 3) := by decide +kernel
theorem d_MO_writeMore_123 : decode b_MO_writeMore 123 = .ok (.iconst 0, 1) := by decide +kernel
theorem d_MO_writeMore_124 : decode b_MO_writeMore 124 = .ok (.istore 5, 2) := by decide +kernel
theorem d_MO_writeMore_126 : decode b_MO_writeMore 126 = .ok (.iload 5, 2) := by decide +kernel
theorem d_MO_writeMore_128 : decode b_MO_writeMore 128 = .ok (.aload_n 0, 1) := by decide +kernel
theorem d_MO_writeMore_129 : decode b_MO_writeMore 129 = .ok (.getfield 39, 3) := by decide +kernel
theorem d_MO_writeMore_132 : decode b_MO_writeMore 132 = .ok (.iload_n 1, 1) := by decide +kernel
theorem d_MO_writeMore_133 : decode b_MO_writeMore 133 = .ok (.iaload, 1) := by decide +kernel
theorem d_MO_writeMore_134 : decode b_MO_writeMore 134 = .ok (.if_icmp .ge 63, 3) := by decide +kernel
theorem d_MO_writeMore_137 : decode b_MO_writeMore 137 = .ok (.iload_n 2, 1) := by decide +kernel
theorem d_MO_writeMore_138 : decode b_MO_writeMore 138 = .ok (.bipush 18, 2) := by decide +kernel
theorem d_MO_writeMore_140 : decode b_MO_writeMore 140 = .ok (.if_icmp .ne 57, 3) := by decide +kernel
theorem d_MO_writeMore_143 : decode b_MO_writeMore 143 = .ok (.aload_n 0, 1) := by decide +kernel
theorem d_MO_writeMore_144 : decode b_MO_writeMore 144 = .ok (.iload 5, 2) := by decide +kernel
theorem d_MO_writeMore_146 : decode b_MO_writeMore 146 = .ok (.iconst 1, 1) := by decide +kernel
theorem d_MO_writeMore_147 : decode b_MO_writeMore 147 = .ok (.iadd, 1) := by decide +kernel
theorem d_MO_writeMore_148 : decode b_MO_writeMore 148 = .ok (.aload_n 0, 1) := by decide +kernel
theorem d_MO_writeMore_149 : decode b_MO_writeMore 149 = .ok (.getfield 39, 3) := by decide +kernel
theorem d_MO_writeMore_152 : decode b_MO_writeMore 152 = .ok (.iload_n 1, 1) := by decide +kernel
theorem d_MO_writeMore_153 : decode b_MO_writeMore 153 = .ok (.iaload, 1) := by decide +kernel
theorem d_MO_writeMore_154 : decode b_MO_writeMore 154 = .ok (.if_icmp .ge 20, 3) := by decide +kernel
theorem d_MO_writeMore_157 : decode b_MO_writeMore 157 = .ok (.aload_n 0, 1) := by decide +kernel
theorem d_MO_writeMore_158 : decode b_MO_writeMore 158 = .ok (.getfield 42, 3) := by decide +kernel
theorem d_MO_writeMore_161 : decode b_MO_writeMore 161 = .ok (.iconst 4, 1) := by decide +kernel
theorem d_MO_writeMore_162 : decode b_MO_writeMore 162 = .ok (.iload_n 1, 1) := by decide +kernel
theorem d_MO_writeMore_163 : decode b_MO_writeMore 163 = .ok (.imul, 1) := by decide +kernel
theorem d_MO_writeMore_164 : decode b_MO_writeMore 164 = .ok (.iload 5, 2) := by decide +kernel
theorem d_MO_writeMore_166 : decode b_MO_writeMore 166 = .ok (.iadd, 1) := by decide +kernel
theorem d_MO_writeMore_167 : decode b_MO_writeMore 167 = .ok (.iaload, 1) := by decide +kernel
theorem d_MO_writeMore_168 : decode b_MO_writeMore 168 = .ok (.invokestatic 201, 3) := by decide +kernel
theorem d_MO_writeMore_171 : decode b_MO_writeMore 171 = .ok (.goto 17, 3) := by decide +kernel
theorem d_MO_writeMore_174 : decode b_MO_writeMore 174 = .ok (.aload_n 0, 1) := by decide +kernel
theorem d_MO_writeMore_175 : decode b_MO_writeMore 175 = .ok (.getfield 42, 3) := by decide +kernel
theorem d_MO_writeMore_178 : decode b_MO_writeMore 178 = .ok (.iconst 4, 1) := by decide +kernel
theorem d_MO_writeMore_179 : decode b_MO_writeMore 179 = .ok (.iload_n 1, 1) := by decide +kernel
theorem d_MO_writeMore_180 : decode b_MO_writeMore 180 = .ok (.imul, 1) := by decide +kernel
theorem d_MO_writeMore_181 : decode b_MO_writeMore 181 = .ok (.iload 5, 2) := by decide +kernel
theorem d_MO_writeMore_183 : decode b_MO_writeMore 183 = .ok (.iadd, 1) := by decide +kernel
theorem d_MO_writeMore_184 : decode b_MO_writeMore 184 = .ok (.iaload, 1) := by decide +kernel
theorem d_MO_writeMore_185 : decode b_MO_writeMore 185 = .ok (.invokestatic 204, 3) := by decide +kernel
theorem d_MO_writeMore_188 : decode b_MO_writeMore 188 = .ok (.invokevirtual 239, 3) := by decide +kernel
theorem d_MO_writeMore_191 : decode b_MO_writeMore 191 = .ok (.iinc 5 1, 3) := by decide +kernel
theorem d_MO_writeMore_194 : decode b_MO_writeMore 194 = .ok (.goto (-68), 3) := by decide +kernel
theorem d_MO_writeMore_197 : decode b_MO_writeMore 197 = .ok (.iload_n 2, 1) := by decide +kernel
theorem d_MO_writeMore_198 : decode b_MO_writeMore 198 = .ok (.bipush 22, 2) := by decide +kernel
theorem d_MO_writeMore_200 : decode b_MO_writeMore 200 = .ok (.if_icmp .ne 34, 3) := by decide +kernel
theorem d_MO_writeMore_203 : decode b_MO_writeMore 203 = .ok (.aload_n 0, 1) := by decide +kernel
theorem d_MO_writeMore_204 : decode b_MO_writeMore 204 = .ok (.iload_n 3, 1) := by decide +kernel
theorem d_MO_writeMore_205 : decode b_MO_writeMore 205 = .ok (.invokestatic 195, 3) := by decide +kernel
theorem d_MO_writeMore_208 : decode b_MO_writeMore 208 = .ok (.invokevirtual 239, 3) := by decide +kernel
theorem d_MO_writeMore_211 : decode b_MO_writeMore 211 = .ok (.aload_n 0, 1) := by decide +kernel
theorem d_MO_writeMore_212 : decode b_MO_writeMore 212 = .ok (.bipush 15, 2) := by decide +kernel
theorem d_MO_writeMore_214 : decode b_MO_writeMore 214 = .ok (.iconst 0, 1) := by decide +kernel
theorem d_MO_writeMore_215 : decode b_MO_writeMore 215 = .ok (.invokevirtual 242, 3) := by decide +kernel
theorem d_MO_writeMore_218 : decode b_MO_writeMore 218 = .ok (.aload_n 0, 1) := by decide +kernel
theorem d_MO_writeMore_219 : decode b_MO_writeMore 219 = .ok (.iload 4, 2) := by decide +kernel
theorem d_MO_writeMore_221 : decode b_MO_writeMore 221 = .ok (.invokestatic 201, 3) := by decide +kernel
theorem d_MO_writeMore_224 : decode b_MO_writeMore 224 = .ok (.invokevirtual 239, 3) := by decide +kernel
theorem d_MO_writeMore_227 : decode b_MO_writeMore 227 = .ok (.aload_n 0, 1) := by decide +kernel
theorem d_MO_writeMore_228 : decode b_MO_writeMore 228 = .ok (.bipush 14, 2) := by decide +kernel
theorem d_MO_writeMore_230 : decode b_MO_writeMore 230 = .ok (.iconst 0, 1) := by decide +kernel
theorem d_MO_writeMore_231 : decode b_MO_writeMore 231 = .ok (.invokevirtual 242, 3) := by decide +kernel
theorem d_MO_writeMore_234 : decode b_MO_writeMore 234 = .ok (.iload_n 2, 1) := by decide +kernel
theorem d_MO_writeMore_235 : decode b_MO_writeMore 235 = .ok (.bipush 23, 2) := by decide +kernel
theorem d_MO_writeMore_237 : decode b_MO_writeMore 237 = .ok (.if_icmp .ne 16, 3) := by decide +kernel
theorem d_MO_writeMore_240 : decode b_MO_writeMore 240 = .ok (.aload_n 0, 1) := by decide +kernel
theorem d_MO_writeMore_241 : decode b_MO_writeMore 241 = .ok (.iload_n 3, 1) := by decide +kernel
theorem d_MO_writeMore_242 : decode b_MO_writeMore 242 = .ok (.invokestatic 201, 3) := by decide +kernel
theorem d_MO_writeMore_245 : decode b_MO_writeMore 245 = .ok (.iload 4, 2) := by decide +kernel
theorem d_MO_writeMore_247 : decode b_MO_writeMore 247 = .ok (.invokestatic 201, 3) := by decide +kernel
theorem d_MO_writeMore_250 : decode b_MO_writeMore 250 = .ok (.invokevirtual 251, 3) := by decide +kernel
theorem d_MO_writeMore_253 : decode b_MO_writeMore 253 = .ok (.iload_n 2, 1) := by decide +kernel
theorem d_MO_writeMore_254 : decode b_MO_writeMore 254 = .ok (.bipush 24, 2) := by decide +kernel
theorem d_MO_writeMore_256 : decode b_MO_writeMore 256 = .ok (.if_icmp .ne 17, 3) := by decide +kernel
theorem d_MO_writeMore_259 : decode b_MO_writeMore 259 = .ok (.aload_n 0, 1) := by decide +kernel
theorem d_MO_writeMore_260 : decode b_MO_writeMore 260 = .ok (.iload_n 1, 1) := by decide +kernel
theorem d_MO_writeMore_261 : decode b_MO_writeMore 261 = .ok (.invokestatic 204, 3) := by decide +kernel
theorem d_MO_writeMore_264 : decode b_MO_writeMore 264 = .ok (.invokevirtual 239, 3) := by decide +kernel
theorem d_MO_writeMore_267 : decode b_MO_writeMore 267 = .ok (.aload_n 0, 1) := by decide +kernel
theorem d_MO_writeMore_268 : decode b_MO_writeMore 268 = .ok (.iconst 5, 1) := by decide +kernel
theorem d_MO_writeMore_269 : decode b_MO_writeMore 269 = .ok (.iconst 0, 1) := by decide +kernel
theorem d_MO_writeMore_270 : decode b_MO_writeMore 270 = .ok (.invokevirtual 242, 3) := by decide +kernel
theorem d_MO_writeMore_273 : decode b_MO_writeMore 273 = .ok (.return_, 1) := by decide +kernel
theorem lk_MO_248 : ab_lk "PolicyForgeModel" 248 y_MO_sayTwice b_MO_sayTwice 3 none 2 17 := ⟨⟨rfl, T_MO, 44, rfl⟩, List.forall_mem_cons.mpr ⟨(ab_in 1185 (by decide +kernel) (by decide +kernel)), List.forall_mem_cons.mpr ⟨(ab_in 1187 (by decide +kernel) (by decide +kernel)), List.forall_mem_cons.mpr ⟨(ab_in 68 (by decide +kernel) (by decide +kernel)), List.forall_mem_cons.mpr ⟨(ab_in 100 (by decide +kernel) (by decide +kernel)), List.forall_mem_cons.mpr ⟨(ab_in 1188 (by decide +kernel) (by decide +kernel)), fun _ h => absurd h List.not_mem_nil⟩⟩⟩⟩⟩, ⟨by decide +kernel, by decide +kernel, by decide +kernel⟩, by decide⟩
theorem lk_MO_251 : ab_lk "PolicyForgeModel" 251 y_MO_sayIf b_MO_sayIf 3 none 2 17 := ⟨⟨rfl, T_MO, 44, rfl⟩, List.forall_mem_cons.mpr ⟨(ab_in 1189 (by decide +kernel) (by decide +kernel)), List.forall_mem_cons.mpr ⟨(ab_in 1191 (by decide +kernel) (by decide +kernel)), List.forall_mem_cons.mpr ⟨(ab_in 69 (by decide +kernel) (by decide +kernel)), List.forall_mem_cons.mpr ⟨(ab_in 100 (by decide +kernel) (by decide +kernel)), List.forall_mem_cons.mpr ⟨(ab_in 1192 (by decide +kernel) (by decide +kernel)), fun _ h => absurd h List.not_mem_nil⟩⟩⟩⟩⟩, ⟨by decide +kernel, by decide +kernel, by decide +kernel⟩, by decide⟩
set_option maxRecDepth 100000 in
set_option maxHeartbeats 1000000 in
theorem s_MO_writeMore13 (u0 u : ab_S) (p1 j x y K0 : Nat) (lf : Nat → Nat) (hp : p1 < 19) (hj : j < 3) (hx : p1 < x) (hx2 : x < 19) (hy : p1 < y) (hy2 : y < 19) (lfx : lf x + lf y ≤ lf p1) (l1 : 1 ≤ lf x) (l2 : 1 ≤ lf y) (gx : fG u0 (3 * x) (lf x - 1) ∧ fG u0 (3 * x + 1) (lf x - 1) ∧ fG u0 (3 * x + 2) (lf x - 1)) (gy : fG u0 (3 * y) (lf y - 1) ∧ fG u0 (3 * y + 1) (lf y - 1) ∧ fG u0 (3 * y + 2) (lf y - 1)) (hK0 : K0 = wl u0 p1 2 (fun i => if i = 0 then x else y) 13) (hK : K0 ≤ 100) (h : wr u0 u (100 * (3 * p1 + j)) 0 []) : ab_C false l D ca y_MO_writeMore b_MO_writeMore 6 none 2 ab_nQ u [ab_O 17 0, ab_I (nI p1), ab_I (nI 13), ab_I (nI x), ab_I (nI y)] (fun u' v => (∃ L, wr u0 u' (100 * (3 * p1 + j)) K0 L ∧ bal L ∧ cas L ≤ lf p1 - 1) ∧ v = none) := by
  refine ab_C.of (by decide) (Nat.le_of_ble_eq_true rfl) ?_
  intro p e s m args below meth c ad X hZ hr0 hlk
  have P0 := h.1
  have bx := gx.1.2.2
  have bx1 := gx.2.1.2.2
  have bx2 := gx.2.2.2.2
  have by0 := gy.1.2.2
  have by1 := gy.2.1.2.2
  have by2 := gy.2.2.2.2
  have nx := gx.1.1.2
  have nx1 := gx.2.1.1.2
  have nx2 := gx.2.2.1.2
  have ny := gy.1.1.2
  have ny1 := gy.2.1.1.2
  have ny2 := gy.2.2.1.2
  simp [wl] at hK0
  refine ab_iload_n X 2 d_MO_writeMore_0 rfl rfl ?_
  refine ab_bipush (v := 13) X d_MO_writeMore_1 (by decide) ?_
  refine ab_icmp_eq X 12 d_MO_writeMore_3 rfl (fun _ => ?_) (fun hb => absurd ((by decide)) hb)
  refine ab_aload_n X 0 d_MO_writeMore_12 rfl rfl ?_
  refine ab_iload_n X 3 d_MO_writeMore_13 rfl rfl ?_
  refine ab_callS (as := [ab_I (nI x)]) X (fun h => by cases h) (t_MO_v u x) ls_MO_201 d_MO_writeMore_14 rfl rfl ⟨by first | exact Nat.le_of_ble_eq_true rfl | (simp only [ab_rm]; omega), by first | exact Nat.le_of_ble_eq_true rfl | (simp only [ab_rm]; omega)⟩ ⟨by first | exact Nat.le_of_ble_eq_true rfl | (simp only [ab_rm]; omega), by first | exact Nat.le_of_ble_eq_true rfl | (simp only [ab_rm]; omega)⟩ (Nat.le_of_ble_eq_true rfl) (fun u14 r14 h14 => ?_)
  obtain ⟨e14, rfl⟩ := h14
  subst u14
  refine ab_callV (as := [ab_I (nI (3 * x + 2))]) X (fun h => by cases h) (s_MO_sayForm u0 u _ _ _ h (by omega) (3 * x + 2) (lnu u0 (3 * x + 2)) (by omega) gx.2.2.1.2.2 (by omega) gx.2.2.1.1 (by omega)) lk_MO_239 d_MO_writeMore_17 rfl rfl (by first | assumption | decide | (show _ < 124; omega) | (show _ < 61; omega) | (show _ < 20; omega)) ⟨by first | exact Nat.le_of_ble_eq_true rfl | (simp only [ab_rm]; omega), by first | exact Nat.le_of_ble_eq_true rfl | (simp only [ab_rm]; omega)⟩ ⟨by first | exact Nat.le_of_ble_eq_true rfl | (simp only [ab_rm]; omega), by first | exact Nat.le_of_ble_eq_true rfl | (simp only [ab_rm]; omega)⟩ (Nat.le_of_ble_eq_true rfl) (fun u17 r17 h17 => ?_)
  obtain ⟨q17, rfl⟩ := h17
  have P17 := q17.1
  refine ab_aload_n X 0 d_MO_writeMore_20 rfl rfl ?_
  refine ab_iload_n X 2 d_MO_writeMore_21 rfl rfl ?_
  refine ab_bipush (v := 13) X d_MO_writeMore_22 (by decide) ?_
  refine ab_icmp_ne X 35 d_MO_writeMore_24 rfl (fun hb => absurd ((by decide)) hb) (fun _ => ?_)
  refine ab_iload X 4 d_MO_writeMore_27 rfl ?_
  refine ab_callS (as := [ab_I (nI y)]) X (fun h => by cases h) (t_MO_b u17 y) ls_MO_204 d_MO_writeMore_29 rfl rfl ⟨by first | exact Nat.le_of_ble_eq_true rfl | (simp only [ab_rm]; omega), by first | exact Nat.le_of_ble_eq_true rfl | (simp only [ab_rm]; omega)⟩ ⟨by first | exact Nat.le_of_ble_eq_true rfl | (simp only [ab_rm]; omega), by first | exact Nat.le_of_ble_eq_true rfl | (simp only [ab_rm]; omega)⟩ (Nat.le_of_ble_eq_true rfl) (fun u29 r29 h29 => ?_)
  obtain ⟨e29, rfl⟩ := h29
  subst u29
  refine ab_goto X 40 d_MO_writeMore_32 rfl ?_
  refine ab_callV (as := [ab_I (nI (3 * y))]) X (fun h => by cases h) (s_MO_sayForm u0 u17 _ _ _ q17 (by omega) (3 * y) (lnu u0 (3 * y)) (by omega) gy.1.1.2.2 (by omega) gy.1.1.1 (by omega)) lk_MO_239 d_MO_writeMore_40 rfl rfl (by first | assumption | decide | (show _ < 124; omega) | (show _ < 61; omega) | (show _ < 20; omega)) ⟨by first | exact Nat.le_of_ble_eq_true rfl | (simp only [ab_rm]; omega), by first | exact Nat.le_of_ble_eq_true rfl | (simp only [ab_rm]; omega)⟩ ⟨by first | exact Nat.le_of_ble_eq_true rfl | (simp only [ab_rm]; omega), by first | exact Nat.le_of_ble_eq_true rfl | (simp only [ab_rm]; omega)⟩ (Nat.le_of_ble_eq_true rfl) (fun u40 r40 h40 => ?_)
  obtain ⟨q40, rfl⟩ := h40
  have P40 := q40.1
  refine ab_iload_n X 2 d_MO_writeMore_43 rfl rfl ?_
  refine ab_bipush (v := 14) X d_MO_writeMore_44 (by decide) ?_
  refine ab_icmp_ne X 66 d_MO_writeMore_46 rfl (fun _ => ?_) (fun hb => absurd hb ((by decide)))
  refine ab_iload_n X 2 d_MO_writeMore_66 rfl rfl ?_
  refine ab_bipush (v := 15) X d_MO_writeMore_67 (by decide) ?_
  refine ab_icmp_ne X 85 d_MO_writeMore_69 rfl (fun _ => ?_) (fun hb => absurd hb ((by decide)))
  refine ab_iload_n X 2 d_MO_writeMore_85 rfl rfl ?_
  refine ab_bipush (v := 16) X d_MO_writeMore_86 (by decide) ?_
  refine ab_icmp_ne X 104 d_MO_writeMore_88 rfl (fun _ => ?_) (fun hb => absurd hb ((by decide)))
  refine ab_iload_n X 2 d_MO_writeMore_104 rfl rfl ?_
  refine ab_bipush (v := 17) X d_MO_writeMore_105 (by decide) ?_
  refine ab_icmp_ne X 123 d_MO_writeMore_107 rfl (fun _ => ?_) (fun hb => absurd hb ((by decide)))
  refine ab_iconst (v := 0) X d_MO_writeMore_123 (by decide) ?_
  refine ab_istore5 X 0 1 2 3 4 d_MO_writeMore_124 (by decide) rfl rfl rfl rfl rfl rfl rfl rfl rfl rfl ?_
  refine ab_iload X 0 d_MO_writeMore_126 rfl ?_
  refine ab_aload_n X 1 d_MO_writeMore_128 rfl rfl ?_
  refine ab_gR X fl_MO_39 d_MO_writeMore_129 (by first | assumption | decide | (show _ < 124; omega) | (show _ < 61; omega) | (show _ < 20; omega)) (P40.1.mo9) ?_
  refine ab_iload_n X 2 d_MO_writeMore_132 rfl rfl ?_
  refine ab_iald X (p1) ⟨rfl, rfl⟩ d_MO_writeMore_133 (by first | assumption | decide | (show _ < 124; omega) | (show _ < 61; omega) | (show _ < 20; omega)) (rfl) (show p1 < 40 by omega) (ab_ln_lt _ _) ?_
  refine ab_icmp_ge X 197 d_MO_writeMore_134 rfl (fun h134 => ?_) (fun h134 => ?_)
  ·
    refine ab_iload_n X 3 d_MO_writeMore_197 rfl rfl ?_
    refine ab_bipush (v := 22) X d_MO_writeMore_198 (by decide) ?_
    refine ab_icmp_ne X 234 d_MO_writeMore_200 rfl (fun _ => ?_) (fun hb => absurd hb ((by decide)))
    refine ab_iload_n X 3 d_MO_writeMore_234 rfl rfl ?_
    refine ab_bipush (v := 23) X d_MO_writeMore_235 (by decide) ?_
    refine ab_icmp_ne X 253 d_MO_writeMore_237 rfl (fun _ => ?_) (fun hb => absurd hb ((by decide)))
    refine ab_iload_n X 3 d_MO_writeMore_253 rfl rfl ?_
    refine ab_bipush (v := 24) X d_MO_writeMore_254 (by decide) ?_
    refine ab_icmp_ne X 273 d_MO_writeMore_256 rfl (fun _ => ?_) (fun hb => absurd hb ((by decide)))
    exact ab_retv X hr0 hlk d_MO_writeMore_273 ⟨⟨_, q40.cast (by omega), (gx.2.2.2.1.app gy.1.2.1), (by simp only [List.nil_append, cas_app, cas_nil, cas_10, cas_1, cas_2, cas_3, cas_4, cas_5, cas_6, cas_7, cas_8, cas_9, cas_11, cas_12, cas_13, cas_14, cas_15, cas_16, cas_17]; omega)⟩, rfl⟩
  ·
    refine ab_iload_n X 3 d_MO_writeMore_137 rfl rfl ?_
    refine ab_bipush (v := 18) X d_MO_writeMore_138 (by decide) ?_
    refine ab_icmp_ne X 197 d_MO_writeMore_140 rfl (fun _ => ?_) (fun hb => absurd hb ((by decide)))
    refine ab_iload_n X 3 d_MO_writeMore_197 rfl rfl ?_
    refine ab_bipush (v := 22) X d_MO_writeMore_198 (by decide) ?_
    refine ab_icmp_ne X 234 d_MO_writeMore_200 rfl (fun _ => ?_) (fun hb => absurd hb ((by decide)))
    refine ab_iload_n X 3 d_MO_writeMore_234 rfl rfl ?_
    refine ab_bipush (v := 23) X d_MO_writeMore_235 (by decide) ?_
    refine ab_icmp_ne X 253 d_MO_writeMore_237 rfl (fun _ => ?_) (fun hb => absurd hb ((by decide)))
    refine ab_iload_n X 3 d_MO_writeMore_253 rfl rfl ?_
    refine ab_bipush (v := 24) X d_MO_writeMore_254 (by decide) ?_
    refine ab_icmp_ne X 273 d_MO_writeMore_256 rfl (fun _ => ?_) (fun hb => absurd hb ((by decide)))
    exact ab_retv X hr0 hlk d_MO_writeMore_273 ⟨⟨_, q40.cast (by omega), (gx.2.2.2.1.app gy.1.2.1), (by simp only [List.nil_append, cas_app, cas_nil, cas_10, cas_1, cas_2, cas_3, cas_4, cas_5, cas_6, cas_7, cas_8, cas_9, cas_11, cas_12, cas_13, cas_14, cas_15, cas_16, cas_17]; omega)⟩, rfl⟩
set_option maxRecDepth 100000 in
set_option maxHeartbeats 1000000 in
theorem s_MO_writeMore14 (u0 u : ab_S) (p1 j x y K0 : Nat) (lf : Nat → Nat) (hp : p1 < 19) (hj : j < 3) (hx : p1 < x) (hx2 : x < 19) (hy : p1 < y) (hy2 : y < 19) (lfx : lf x + lf y ≤ lf p1) (l1 : 1 ≤ lf x) (l2 : 1 ≤ lf y) (gx : fG u0 (3 * x) (lf x - 1) ∧ fG u0 (3 * x + 1) (lf x - 1) ∧ fG u0 (3 * x + 2) (lf x - 1)) (gy : fG u0 (3 * y) (lf y - 1) ∧ fG u0 (3 * y + 1) (lf y - 1) ∧ fG u0 (3 * y + 2) (lf y - 1)) (hK0 : K0 = wl u0 p1 2 (fun i => if i = 0 then x else y) 14) (hK : K0 ≤ 100) (h : wr u0 u (100 * (3 * p1 + j)) 0 []) : ab_C false l D ca y_MO_writeMore b_MO_writeMore 6 none 2 ab_nQ u [ab_O 17 0, ab_I (nI p1), ab_I (nI 14), ab_I (nI x), ab_I (nI y)] (fun u' v => (∃ L, wr u0 u' (100 * (3 * p1 + j)) K0 L ∧ bal L ∧ cas L ≤ lf p1 - 1) ∧ v = none) := by
  refine ab_C.of (by decide) (Nat.le_of_ble_eq_true rfl) ?_
  intro p e s m args below meth c ad X hZ hr0 hlk
  have P0 := h.1
  have bx := gx.1.2.2
  have bx1 := gx.2.1.2.2
  have bx2 := gx.2.2.2.2
  have by0 := gy.1.2.2
  have by1 := gy.2.1.2.2
  have by2 := gy.2.2.2.2
  have nx := gx.1.1.2
  have nx1 := gx.2.1.1.2
  have nx2 := gx.2.2.1.2
  have ny := gy.1.1.2
  have ny1 := gy.2.1.1.2
  have ny2 := gy.2.2.1.2
  simp [wl] at hK0
  refine ab_iload_n X 2 d_MO_writeMore_0 rfl rfl ?_
  refine ab_bipush (v := 13) X d_MO_writeMore_1 (by decide) ?_
  refine ab_icmp_eq X 12 d_MO_writeMore_3 rfl (fun hb => absurd hb ((by decide))) (fun _ => ?_)
  refine ab_iload_n X 2 d_MO_writeMore_6 rfl rfl ?_
  refine ab_bipush (v := 21) X d_MO_writeMore_7 (by decide) ?_
  refine ab_icmp_ne X 43 d_MO_writeMore_9 rfl (fun _ => ?_) (fun hb => absurd hb ((by decide)))
  refine ab_iload_n X 2 d_MO_writeMore_43 rfl rfl ?_
  refine ab_bipush (v := 14) X d_MO_writeMore_44 (by decide) ?_
  refine ab_icmp_ne X 66 d_MO_writeMore_46 rfl (fun hb => absurd ((by decide)) hb) (fun _ => ?_)
  refine ab_aload_n X 0 d_MO_writeMore_49 rfl rfl ?_
  refine ab_iload X 4 d_MO_writeMore_50 rfl ?_
  refine ab_callS (as := [ab_I (nI y)]) X (fun h => by cases h) (t_MO_v u y) ls_MO_201 d_MO_writeMore_52 rfl rfl ⟨by first | exact Nat.le_of_ble_eq_true rfl | (simp only [ab_rm]; omega), by first | exact Nat.le_of_ble_eq_true rfl | (simp only [ab_rm]; omega)⟩ ⟨by first | exact Nat.le_of_ble_eq_true rfl | (simp only [ab_rm]; omega), by first | exact Nat.le_of_ble_eq_true rfl | (simp only [ab_rm]; omega)⟩ (Nat.le_of_ble_eq_true rfl) (fun u52 r52 h52 => ?_)
  obtain ⟨e52, rfl⟩ := h52
  subst u52
  refine ab_callV (as := [ab_I (nI (3 * y + 2))]) X (fun h => by cases h) (s_MO_sayForm u0 u _ _ _ h (by omega) (3 * y + 2) (lnu u0 (3 * y + 2)) (by omega) gy.2.2.1.2.2 (by omega) gy.2.2.1.1 (by omega)) lk_MO_239 d_MO_writeMore_55 rfl rfl (by first | assumption | decide | (show _ < 124; omega) | (show _ < 61; omega) | (show _ < 20; omega)) ⟨by first | exact Nat.le_of_ble_eq_true rfl | (simp only [ab_rm]; omega), by first | exact Nat.le_of_ble_eq_true rfl | (simp only [ab_rm]; omega)⟩ ⟨by first | exact Nat.le_of_ble_eq_true rfl | (simp only [ab_rm]; omega), by first | exact Nat.le_of_ble_eq_true rfl | (simp only [ab_rm]; omega)⟩ (Nat.le_of_ble_eq_true rfl) (fun u55 r55 h55 => ?_)
  obtain ⟨q55, rfl⟩ := h55
  have P55 := q55.1
  refine ab_aload_n X 0 d_MO_writeMore_58 rfl rfl ?_
  refine ab_iload_n X 3 d_MO_writeMore_59 rfl rfl ?_
  refine ab_callS (as := [ab_I (nI x)]) X (fun h => by cases h) (t_MO_b u55 x) ls_MO_204 d_MO_writeMore_60 rfl rfl ⟨by first | exact Nat.le_of_ble_eq_true rfl | (simp only [ab_rm]; omega), by first | exact Nat.le_of_ble_eq_true rfl | (simp only [ab_rm]; omega)⟩ ⟨by first | exact Nat.le_of_ble_eq_true rfl | (simp only [ab_rm]; omega), by first | exact Nat.le_of_ble_eq_true rfl | (simp only [ab_rm]; omega)⟩ (Nat.le_of_ble_eq_true rfl) (fun u60 r60 h60 => ?_)
  obtain ⟨e60, rfl⟩ := h60
  subst u60
  refine ab_callV (as := [ab_I (nI (3 * x))]) X (fun h => by cases h) (s_MO_sayForm u0 u55 _ _ _ q55 (by omega) (3 * x) (lnu u0 (3 * x)) (by omega) gx.1.1.2.2 (by omega) gx.1.1.1 (by omega)) lk_MO_239 d_MO_writeMore_63 rfl rfl (by first | assumption | decide | (show _ < 124; omega) | (show _ < 61; omega) | (show _ < 20; omega)) ⟨by first | exact Nat.le_of_ble_eq_true rfl | (simp only [ab_rm]; omega), by first | exact Nat.le_of_ble_eq_true rfl | (simp only [ab_rm]; omega)⟩ ⟨by first | exact Nat.le_of_ble_eq_true rfl | (simp only [ab_rm]; omega), by first | exact Nat.le_of_ble_eq_true rfl | (simp only [ab_rm]; omega)⟩ (Nat.le_of_ble_eq_true rfl) (fun u63 r63 h63 => ?_)
  obtain ⟨q63, rfl⟩ := h63
  have P63 := q63.1
  refine ab_iload_n X 2 d_MO_writeMore_66 rfl rfl ?_
  refine ab_bipush (v := 15) X d_MO_writeMore_67 (by decide) ?_
  refine ab_icmp_ne X 85 d_MO_writeMore_69 rfl (fun _ => ?_) (fun hb => absurd hb ((by decide)))
  refine ab_iload_n X 2 d_MO_writeMore_85 rfl rfl ?_
  refine ab_bipush (v := 16) X d_MO_writeMore_86 (by decide) ?_
  refine ab_icmp_ne X 104 d_MO_writeMore_88 rfl (fun _ => ?_) (fun hb => absurd hb ((by decide)))
  refine ab_iload_n X 2 d_MO_writeMore_104 rfl rfl ?_
  refine ab_bipush (v := 17) X d_MO_writeMore_105 (by decide) ?_
  refine ab_icmp_ne X 123 d_MO_writeMore_107 rfl (fun _ => ?_) (fun hb => absurd hb ((by decide)))
  refine ab_iconst (v := 0) X d_MO_writeMore_123 (by decide) ?_
  refine ab_istore5 X 0 1 2 3 4 d_MO_writeMore_124 (by decide) rfl rfl rfl rfl rfl rfl rfl rfl rfl rfl ?_
  refine ab_iload X 0 d_MO_writeMore_126 rfl ?_
  refine ab_aload_n X 1 d_MO_writeMore_128 rfl rfl ?_
  refine ab_gR X fl_MO_39 d_MO_writeMore_129 (by first | assumption | decide | (show _ < 124; omega) | (show _ < 61; omega) | (show _ < 20; omega)) (P63.1.mo9) ?_
  refine ab_iload_n X 2 d_MO_writeMore_132 rfl rfl ?_
  refine ab_iald X (p1) ⟨rfl, rfl⟩ d_MO_writeMore_133 (by first | assumption | decide | (show _ < 124; omega) | (show _ < 61; omega) | (show _ < 20; omega)) (rfl) (show p1 < 40 by omega) (ab_ln_lt _ _) ?_
  refine ab_icmp_ge X 197 d_MO_writeMore_134 rfl (fun h134 => ?_) (fun h134 => ?_)
  ·
    refine ab_iload_n X 3 d_MO_writeMore_197 rfl rfl ?_
    refine ab_bipush (v := 22) X d_MO_writeMore_198 (by decide) ?_
    refine ab_icmp_ne X 234 d_MO_writeMore_200 rfl (fun _ => ?_) (fun hb => absurd hb ((by decide)))
    refine ab_iload_n X 3 d_MO_writeMore_234 rfl rfl ?_
    refine ab_bipush (v := 23) X d_MO_writeMore_235 (by decide) ?_
    refine ab_icmp_ne X 253 d_MO_writeMore_237 rfl (fun _ => ?_) (fun hb => absurd hb ((by decide)))
    refine ab_iload_n X 3 d_MO_writeMore_253 rfl rfl ?_
    refine ab_bipush (v := 24) X d_MO_writeMore_254 (by decide) ?_
    refine ab_icmp_ne X 273 d_MO_writeMore_256 rfl (fun _ => ?_) (fun hb => absurd hb ((by decide)))
    exact ab_retv X hr0 hlk d_MO_writeMore_273 ⟨⟨_, q63.cast (by omega), (gy.2.2.2.1.app gx.1.2.1), (by simp only [List.nil_append, cas_app, cas_nil, cas_10, cas_1, cas_2, cas_3, cas_4, cas_5, cas_6, cas_7, cas_8, cas_9, cas_11, cas_12, cas_13, cas_14, cas_15, cas_16, cas_17]; omega)⟩, rfl⟩
  ·
    refine ab_iload_n X 3 d_MO_writeMore_137 rfl rfl ?_
    refine ab_bipush (v := 18) X d_MO_writeMore_138 (by decide) ?_
    refine ab_icmp_ne X 197 d_MO_writeMore_140 rfl (fun _ => ?_) (fun hb => absurd hb ((by decide)))
    refine ab_iload_n X 3 d_MO_writeMore_197 rfl rfl ?_
    refine ab_bipush (v := 22) X d_MO_writeMore_198 (by decide) ?_
    refine ab_icmp_ne X 234 d_MO_writeMore_200 rfl (fun _ => ?_) (fun hb => absurd hb ((by decide)))
    refine ab_iload_n X 3 d_MO_writeMore_234 rfl rfl ?_
    refine ab_bipush (v := 23) X d_MO_writeMore_235 (by decide) ?_
    refine ab_icmp_ne X 253 d_MO_writeMore_237 rfl (fun _ => ?_) (fun hb => absurd hb ((by decide)))
    refine ab_iload_n X 3 d_MO_writeMore_253 rfl rfl ?_
    refine ab_bipush (v := 24) X d_MO_writeMore_254 (by decide) ?_
    refine ab_icmp_ne X 273 d_MO_writeMore_256 rfl (fun _ => ?_) (fun hb => absurd hb ((by decide)))
    exact ab_retv X hr0 hlk d_MO_writeMore_273 ⟨⟨_, q63.cast (by omega), (gy.2.2.2.1.app gx.1.2.1), (by simp only [List.nil_append, cas_app, cas_nil, cas_10, cas_1, cas_2, cas_3, cas_4, cas_5, cas_6, cas_7, cas_8, cas_9, cas_11, cas_12, cas_13, cas_14, cas_15, cas_16, cas_17]; omega)⟩, rfl⟩
set_option maxRecDepth 100000 in
set_option maxHeartbeats 1000000 in
theorem s_MO_writeMore15 (u0 u : ab_S) (p1 j x y K0 : Nat) (lf : Nat → Nat) (hp : p1 < 19) (hj : j < 3) (hx : p1 < x) (hx2 : x < 19) (hy : p1 < y) (hy2 : y < 19) (lfx : lf x + lf y ≤ lf p1) (l1 : 1 ≤ lf x) (l2 : 1 ≤ lf y) (gx : fG u0 (3 * x) (lf x - 1) ∧ fG u0 (3 * x + 1) (lf x - 1) ∧ fG u0 (3 * x + 2) (lf x - 1)) (gy : fG u0 (3 * y) (lf y - 1) ∧ fG u0 (3 * y + 1) (lf y - 1) ∧ fG u0 (3 * y + 2) (lf y - 1)) (hK0 : K0 = wl u0 p1 2 (fun i => if i = 0 then x else y) 15) (hK : K0 ≤ 100) (h : wr u0 u (100 * (3 * p1 + j)) 0 []) : ab_C false l D ca y_MO_writeMore b_MO_writeMore 6 none 2 ab_nQ u [ab_O 17 0, ab_I (nI p1), ab_I (nI 15), ab_I (nI x), ab_I (nI y)] (fun u' v => (∃ L, wr u0 u' (100 * (3 * p1 + j)) K0 L ∧ bal L ∧ cas L ≤ lf p1 - 1) ∧ v = none) := by
  refine ab_C.of (by decide) (Nat.le_of_ble_eq_true rfl) ?_
  intro p e s m args below meth c ad X hZ hr0 hlk
  have P0 := h.1
  have bx := gx.1.2.2
  have bx1 := gx.2.1.2.2
  have bx2 := gx.2.2.2.2
  have by0 := gy.1.2.2
  have by1 := gy.2.1.2.2
  have by2 := gy.2.2.2.2
  have nx := gx.1.1.2
  have nx1 := gx.2.1.1.2
  have nx2 := gx.2.2.1.2
  have ny := gy.1.1.2
  have ny1 := gy.2.1.1.2
  have ny2 := gy.2.2.1.2
  simp [wl] at hK0
  refine ab_iload_n X 2 d_MO_writeMore_0 rfl rfl ?_
  refine ab_bipush (v := 13) X d_MO_writeMore_1 (by decide) ?_
  refine ab_icmp_eq X 12 d_MO_writeMore_3 rfl (fun hb => absurd hb ((by decide))) (fun _ => ?_)
  refine ab_iload_n X 2 d_MO_writeMore_6 rfl rfl ?_
  refine ab_bipush (v := 21) X d_MO_writeMore_7 (by decide) ?_
  refine ab_icmp_ne X 43 d_MO_writeMore_9 rfl (fun _ => ?_) (fun hb => absurd hb ((by decide)))
  refine ab_iload_n X 2 d_MO_writeMore_43 rfl rfl ?_
  refine ab_bipush (v := 14) X d_MO_writeMore_44 (by decide) ?_
  refine ab_icmp_ne X 66 d_MO_writeMore_46 rfl (fun _ => ?_) (fun hb => absurd hb ((by decide)))
  refine ab_iload_n X 2 d_MO_writeMore_66 rfl rfl ?_
  refine ab_bipush (v := 15) X d_MO_writeMore_67 (by decide) ?_
  refine ab_icmp_ne X 85 d_MO_writeMore_69 rfl (fun hb => absurd ((by decide)) hb) (fun _ => ?_)
  refine ab_aload_n X 0 d_MO_writeMore_72 rfl rfl ?_
  refine ab_iload_n X 3 d_MO_writeMore_73 rfl rfl ?_
  refine ab_callS (as := [ab_I (nI x)]) X (fun h => by cases h) (t_MO_d u x) ls_MO_195 d_MO_writeMore_74 rfl rfl ⟨by first | exact Nat.le_of_ble_eq_true rfl | (simp only [ab_rm]; omega), by first | exact Nat.le_of_ble_eq_true rfl | (simp only [ab_rm]; omega)⟩ ⟨by first | exact Nat.le_of_ble_eq_true rfl | (simp only [ab_rm]; omega), by first | exact Nat.le_of_ble_eq_true rfl | (simp only [ab_rm]; omega)⟩ (Nat.le_of_ble_eq_true rfl) (fun u74 r74 h74 => ?_)
  obtain ⟨e74, rfl⟩ := h74
  subst u74
  refine ab_iload X 4 d_MO_writeMore_77 rfl ?_
  refine ab_callS (as := [ab_I (nI y)]) X (fun h => by cases h) (t_MO_b u y) ls_MO_204 d_MO_writeMore_79 rfl rfl ⟨by first | exact Nat.le_of_ble_eq_true rfl | (simp only [ab_rm]; omega), by first | exact Nat.le_of_ble_eq_true rfl | (simp only [ab_rm]; omega)⟩ ⟨by first | exact Nat.le_of_ble_eq_true rfl | (simp only [ab_rm]; omega), by first | exact Nat.le_of_ble_eq_true rfl | (simp only [ab_rm]; omega)⟩ (Nat.le_of_ble_eq_true rfl) (fun u79 r79 h79 => ?_)
  obtain ⟨e79, rfl⟩ := h79
  subst u79
  refine ab_callV (as := [ab_I (nI (3 * x + 1)), ab_I (nI (3 * y))]) X (fun h => by cases h) (s_MO_sayTwice u0 u _ _ _ h (by omega) (3 * x + 1) (3 * y) (lnu u0 (3 * x + 1)) (lnu u0 (3 * y)) (by omega) gx.2.1.1.2.2 (by omega) gx.2.1.1.1 (by omega) gy.1.1.2.2 (by omega) gy.1.1.1 (by omega)) lk_MO_248 d_MO_writeMore_82 rfl rfl (by first | assumption | decide | (show _ < 124; omega) | (show _ < 61; omega) | (show _ < 20; omega)) ⟨by first | exact Nat.le_of_ble_eq_true rfl | (simp only [ab_rm]; omega), by first | exact Nat.le_of_ble_eq_true rfl | (simp only [ab_rm]; omega)⟩ ⟨by first | exact Nat.le_of_ble_eq_true rfl | (simp only [ab_rm]; omega), by first | exact Nat.le_of_ble_eq_true rfl | (simp only [ab_rm]; omega)⟩ (Nat.le_of_ble_eq_true rfl) (fun u82 r82 h82 => ?_)
  obtain ⟨q82, rfl⟩ := h82
  have P82 := q82.1
  refine ab_iload_n X 2 d_MO_writeMore_85 rfl rfl ?_
  refine ab_bipush (v := 16) X d_MO_writeMore_86 (by decide) ?_
  refine ab_icmp_ne X 104 d_MO_writeMore_88 rfl (fun _ => ?_) (fun hb => absurd hb ((by decide)))
  refine ab_iload_n X 2 d_MO_writeMore_104 rfl rfl ?_
  refine ab_bipush (v := 17) X d_MO_writeMore_105 (by decide) ?_
  refine ab_icmp_ne X 123 d_MO_writeMore_107 rfl (fun _ => ?_) (fun hb => absurd hb ((by decide)))
  refine ab_iconst (v := 0) X d_MO_writeMore_123 (by decide) ?_
  refine ab_istore5 X 0 1 2 3 4 d_MO_writeMore_124 (by decide) rfl rfl rfl rfl rfl rfl rfl rfl rfl rfl ?_
  refine ab_iload X 0 d_MO_writeMore_126 rfl ?_
  refine ab_aload_n X 1 d_MO_writeMore_128 rfl rfl ?_
  refine ab_gR X fl_MO_39 d_MO_writeMore_129 (by first | assumption | decide | (show _ < 124; omega) | (show _ < 61; omega) | (show _ < 20; omega)) (P82.1.mo9) ?_
  refine ab_iload_n X 2 d_MO_writeMore_132 rfl rfl ?_
  refine ab_iald X (p1) ⟨rfl, rfl⟩ d_MO_writeMore_133 (by first | assumption | decide | (show _ < 124; omega) | (show _ < 61; omega) | (show _ < 20; omega)) (rfl) (show p1 < 40 by omega) (ab_ln_lt _ _) ?_
  refine ab_icmp_ge X 197 d_MO_writeMore_134 rfl (fun h134 => ?_) (fun h134 => ?_)
  ·
    refine ab_iload_n X 3 d_MO_writeMore_197 rfl rfl ?_
    refine ab_bipush (v := 22) X d_MO_writeMore_198 (by decide) ?_
    refine ab_icmp_ne X 234 d_MO_writeMore_200 rfl (fun _ => ?_) (fun hb => absurd hb ((by decide)))
    refine ab_iload_n X 3 d_MO_writeMore_234 rfl rfl ?_
    refine ab_bipush (v := 23) X d_MO_writeMore_235 (by decide) ?_
    refine ab_icmp_ne X 253 d_MO_writeMore_237 rfl (fun _ => ?_) (fun hb => absurd hb ((by decide)))
    refine ab_iload_n X 3 d_MO_writeMore_253 rfl rfl ?_
    refine ab_bipush (v := 24) X d_MO_writeMore_254 (by decide) ?_
    refine ab_icmp_ne X 273 d_MO_writeMore_256 rfl (fun _ => ?_) (fun hb => absurd hb ((by decide)))
    exact ab_retv X hr0 hlk d_MO_writeMore_273 ⟨⟨_, q82.cast (by omega), (bal_twice gx.2.1.2.1 gy.1.2.1), (by simp only [List.nil_append, cas_app, cas_nil, cas_10, cas_1, cas_2, cas_3, cas_4, cas_5, cas_6, cas_7, cas_8, cas_9, cas_11, cas_12, cas_13, cas_14, cas_15, cas_16, cas_17]; omega)⟩, rfl⟩
  ·
    refine ab_iload_n X 3 d_MO_writeMore_137 rfl rfl ?_
    refine ab_bipush (v := 18) X d_MO_writeMore_138 (by decide) ?_
    refine ab_icmp_ne X 197 d_MO_writeMore_140 rfl (fun _ => ?_) (fun hb => absurd hb ((by decide)))
    refine ab_iload_n X 3 d_MO_writeMore_197 rfl rfl ?_
    refine ab_bipush (v := 22) X d_MO_writeMore_198 (by decide) ?_
    refine ab_icmp_ne X 234 d_MO_writeMore_200 rfl (fun _ => ?_) (fun hb => absurd hb ((by decide)))
    refine ab_iload_n X 3 d_MO_writeMore_234 rfl rfl ?_
    refine ab_bipush (v := 23) X d_MO_writeMore_235 (by decide) ?_
    refine ab_icmp_ne X 253 d_MO_writeMore_237 rfl (fun _ => ?_) (fun hb => absurd hb ((by decide)))
    refine ab_iload_n X 3 d_MO_writeMore_253 rfl rfl ?_
    refine ab_bipush (v := 24) X d_MO_writeMore_254 (by decide) ?_
    refine ab_icmp_ne X 273 d_MO_writeMore_256 rfl (fun _ => ?_) (fun hb => absurd hb ((by decide)))
    exact ab_retv X hr0 hlk d_MO_writeMore_273 ⟨⟨_, q82.cast (by omega), (bal_twice gx.2.1.2.1 gy.1.2.1), (by simp only [List.nil_append, cas_app, cas_nil, cas_10, cas_1, cas_2, cas_3, cas_4, cas_5, cas_6, cas_7, cas_8, cas_9, cas_11, cas_12, cas_13, cas_14, cas_15, cas_16, cas_17]; omega)⟩, rfl⟩
set_option maxRecDepth 100000 in
set_option maxHeartbeats 1000000 in
theorem s_MO_writeMore16 (u0 u : ab_S) (p1 j x y K0 : Nat) (lf : Nat → Nat) (hp : p1 < 19) (hj : j < 3) (hx : p1 < x) (hx2 : x < 19) (hy : p1 < y) (hy2 : y < 19) (lfx : lf x + lf y ≤ lf p1) (l1 : 1 ≤ lf x) (l2 : 1 ≤ lf y) (gx : fG u0 (3 * x) (lf x - 1) ∧ fG u0 (3 * x + 1) (lf x - 1) ∧ fG u0 (3 * x + 2) (lf x - 1)) (gy : fG u0 (3 * y) (lf y - 1) ∧ fG u0 (3 * y + 1) (lf y - 1) ∧ fG u0 (3 * y + 2) (lf y - 1)) (hK0 : K0 = wl u0 p1 2 (fun i => if i = 0 then x else y) 16) (hK : K0 ≤ 100) (h : wr u0 u (100 * (3 * p1 + j)) 0 []) : ab_C false l D ca y_MO_writeMore b_MO_writeMore 6 none 2 ab_nQ u [ab_O 17 0, ab_I (nI p1), ab_I (nI 16), ab_I (nI x), ab_I (nI y)] (fun u' v => (∃ L, wr u0 u' (100 * (3 * p1 + j)) K0 L ∧ bal L ∧ cas L ≤ lf p1 - 1) ∧ v = none) := by
  refine ab_C.of (by decide) (Nat.le_of_ble_eq_true rfl) ?_
  intro p e s m args below meth c ad X hZ hr0 hlk
  have P0 := h.1
  have bx := gx.1.2.2
  have bx1 := gx.2.1.2.2
  have bx2 := gx.2.2.2.2
  have by0 := gy.1.2.2
  have by1 := gy.2.1.2.2
  have by2 := gy.2.2.2.2
  have nx := gx.1.1.2
  have nx1 := gx.2.1.1.2
  have nx2 := gx.2.2.1.2
  have ny := gy.1.1.2
  have ny1 := gy.2.1.1.2
  have ny2 := gy.2.2.1.2
  simp [wl] at hK0
  refine ab_iload_n X 2 d_MO_writeMore_0 rfl rfl ?_
  refine ab_bipush (v := 13) X d_MO_writeMore_1 (by decide) ?_
  refine ab_icmp_eq X 12 d_MO_writeMore_3 rfl (fun hb => absurd hb ((by decide))) (fun _ => ?_)
  refine ab_iload_n X 2 d_MO_writeMore_6 rfl rfl ?_
  refine ab_bipush (v := 21) X d_MO_writeMore_7 (by decide) ?_
  refine ab_icmp_ne X 43 d_MO_writeMore_9 rfl (fun _ => ?_) (fun hb => absurd hb ((by decide)))
  refine ab_iload_n X 2 d_MO_writeMore_43 rfl rfl ?_
  refine ab_bipush (v := 14) X d_MO_writeMore_44 (by decide) ?_
  refine ab_icmp_ne X 66 d_MO_writeMore_46 rfl (fun _ => ?_) (fun hb => absurd hb ((by decide)))
  refine ab_iload_n X 2 d_MO_writeMore_66 rfl rfl ?_
  refine ab_bipush (v := 15) X d_MO_writeMore_67 (by decide) ?_
  refine ab_icmp_ne X 85 d_MO_writeMore_69 rfl (fun _ => ?_) (fun hb => absurd hb ((by decide)))
  refine ab_iload_n X 2 d_MO_writeMore_85 rfl rfl ?_
  refine ab_bipush (v := 16) X d_MO_writeMore_86 (by decide) ?_
  refine ab_icmp_ne X 104 d_MO_writeMore_88 rfl (fun hb => absurd ((by decide)) hb) (fun _ => ?_)
  refine ab_aload_n X 0 d_MO_writeMore_91 rfl rfl ?_
  refine ab_iload X 4 d_MO_writeMore_92 rfl ?_
  refine ab_callS (as := [ab_I (nI y)]) X (fun h => by cases h) (t_MO_d u y) ls_MO_195 d_MO_writeMore_94 rfl rfl ⟨by first | exact Nat.le_of_ble_eq_true rfl | (simp only [ab_rm]; omega), by first | exact Nat.le_of_ble_eq_true rfl | (simp only [ab_rm]; omega)⟩ ⟨by first | exact Nat.le_of_ble_eq_true rfl | (simp only [ab_rm]; omega), by first | exact Nat.le_of_ble_eq_true rfl | (simp only [ab_rm]; omega)⟩ (Nat.le_of_ble_eq_true rfl) (fun u94 r94 h94 => ?_)
  obtain ⟨e94, rfl⟩ := h94
  subst u94
  refine ab_iload_n X 3 d_MO_writeMore_97 rfl rfl ?_
  refine ab_callS (as := [ab_I (nI x)]) X (fun h => by cases h) (t_MO_b u x) ls_MO_204 d_MO_writeMore_98 rfl rfl ⟨by first | exact Nat.le_of_ble_eq_true rfl | (simp only [ab_rm]; omega), by first | exact Nat.le_of_ble_eq_true rfl | (simp only [ab_rm]; omega)⟩ ⟨by first | exact Nat.le_of_ble_eq_true rfl | (simp only [ab_rm]; omega), by first | exact Nat.le_of_ble_eq_true rfl | (simp only [ab_rm]; omega)⟩ (Nat.le_of_ble_eq_true rfl) (fun u98 r98 h98 => ?_)
  obtain ⟨e98, rfl⟩ := h98
  subst u98
  refine ab_callV (as := [ab_I (nI (3 * y + 1)), ab_I (nI (3 * x))]) X (fun h => by cases h) (s_MO_sayTwice u0 u _ _ _ h (by omega) (3 * y + 1) (3 * x) (lnu u0 (3 * y + 1)) (lnu u0 (3 * x)) (by omega) gy.2.1.1.2.2 (by omega) gy.2.1.1.1 (by omega) gx.1.1.2.2 (by omega) gx.1.1.1 (by omega)) lk_MO_248 d_MO_writeMore_101 rfl rfl (by first | assumption | decide | (show _ < 124; omega) | (show _ < 61; omega) | (show _ < 20; omega)) ⟨by first | exact Nat.le_of_ble_eq_true rfl | (simp only [ab_rm]; omega), by first | exact Nat.le_of_ble_eq_true rfl | (simp only [ab_rm]; omega)⟩ ⟨by first | exact Nat.le_of_ble_eq_true rfl | (simp only [ab_rm]; omega), by first | exact Nat.le_of_ble_eq_true rfl | (simp only [ab_rm]; omega)⟩ (Nat.le_of_ble_eq_true rfl) (fun u101 r101 h101 => ?_)
  obtain ⟨q101, rfl⟩ := h101
  have P101 := q101.1
  refine ab_iload_n X 2 d_MO_writeMore_104 rfl rfl ?_
  refine ab_bipush (v := 17) X d_MO_writeMore_105 (by decide) ?_
  refine ab_icmp_ne X 123 d_MO_writeMore_107 rfl (fun _ => ?_) (fun hb => absurd hb ((by decide)))
  refine ab_iconst (v := 0) X d_MO_writeMore_123 (by decide) ?_
  refine ab_istore5 X 0 1 2 3 4 d_MO_writeMore_124 (by decide) rfl rfl rfl rfl rfl rfl rfl rfl rfl rfl ?_
  refine ab_iload X 0 d_MO_writeMore_126 rfl ?_
  refine ab_aload_n X 1 d_MO_writeMore_128 rfl rfl ?_
  refine ab_gR X fl_MO_39 d_MO_writeMore_129 (by first | assumption | decide | (show _ < 124; omega) | (show _ < 61; omega) | (show _ < 20; omega)) (P101.1.mo9) ?_
  refine ab_iload_n X 2 d_MO_writeMore_132 rfl rfl ?_
  refine ab_iald X (p1) ⟨rfl, rfl⟩ d_MO_writeMore_133 (by first | assumption | decide | (show _ < 124; omega) | (show _ < 61; omega) | (show _ < 20; omega)) (rfl) (show p1 < 40 by omega) (ab_ln_lt _ _) ?_
  refine ab_icmp_ge X 197 d_MO_writeMore_134 rfl (fun h134 => ?_) (fun h134 => ?_)
  ·
    refine ab_iload_n X 3 d_MO_writeMore_197 rfl rfl ?_
    refine ab_bipush (v := 22) X d_MO_writeMore_198 (by decide) ?_
    refine ab_icmp_ne X 234 d_MO_writeMore_200 rfl (fun _ => ?_) (fun hb => absurd hb ((by decide)))
    refine ab_iload_n X 3 d_MO_writeMore_234 rfl rfl ?_
    refine ab_bipush (v := 23) X d_MO_writeMore_235 (by decide) ?_
    refine ab_icmp_ne X 253 d_MO_writeMore_237 rfl (fun _ => ?_) (fun hb => absurd hb ((by decide)))
    refine ab_iload_n X 3 d_MO_writeMore_253 rfl rfl ?_
    refine ab_bipush (v := 24) X d_MO_writeMore_254 (by decide) ?_
    refine ab_icmp_ne X 273 d_MO_writeMore_256 rfl (fun _ => ?_) (fun hb => absurd hb ((by decide)))
    exact ab_retv X hr0 hlk d_MO_writeMore_273 ⟨⟨_, q101.cast (by omega), (bal_twice gy.2.1.2.1 gx.1.2.1), (by simp only [List.nil_append, cas_app, cas_nil, cas_10, cas_1, cas_2, cas_3, cas_4, cas_5, cas_6, cas_7, cas_8, cas_9, cas_11, cas_12, cas_13, cas_14, cas_15, cas_16, cas_17]; omega)⟩, rfl⟩
  ·
    refine ab_iload_n X 3 d_MO_writeMore_137 rfl rfl ?_
    refine ab_bipush (v := 18) X d_MO_writeMore_138 (by decide) ?_
    refine ab_icmp_ne X 197 d_MO_writeMore_140 rfl (fun _ => ?_) (fun hb => absurd hb ((by decide)))
    refine ab_iload_n X 3 d_MO_writeMore_197 rfl rfl ?_
    refine ab_bipush (v := 22) X d_MO_writeMore_198 (by decide) ?_
    refine ab_icmp_ne X 234 d_MO_writeMore_200 rfl (fun _ => ?_) (fun hb => absurd hb ((by decide)))
    refine ab_iload_n X 3 d_MO_writeMore_234 rfl rfl ?_
    refine ab_bipush (v := 23) X d_MO_writeMore_235 (by decide) ?_
    refine ab_icmp_ne X 253 d_MO_writeMore_237 rfl (fun _ => ?_) (fun hb => absurd hb ((by decide)))
    refine ab_iload_n X 3 d_MO_writeMore_253 rfl rfl ?_
    refine ab_bipush (v := 24) X d_MO_writeMore_254 (by decide) ?_
    refine ab_icmp_ne X 273 d_MO_writeMore_256 rfl (fun _ => ?_) (fun hb => absurd hb ((by decide)))
    exact ab_retv X hr0 hlk d_MO_writeMore_273 ⟨⟨_, q101.cast (by omega), (bal_twice gy.2.1.2.1 gx.1.2.1), (by simp only [List.nil_append, cas_app, cas_nil, cas_10, cas_1, cas_2, cas_3, cas_4, cas_5, cas_6, cas_7, cas_8, cas_9, cas_11, cas_12, cas_13, cas_14, cas_15, cas_16, cas_17]; omega)⟩, rfl⟩
set_option maxRecDepth 100000 in
set_option maxHeartbeats 1000000 in
theorem s_MO_writeMore17 (u0 u : ab_S) (p1 j x y K0 : Nat) (lf : Nat → Nat) (hp : p1 < 19) (hj : j < 3) (hx : p1 < x) (hx2 : x < 19) (hy : p1 < y) (hy2 : y < 19) (lfx : lf x + lf y ≤ lf p1) (l1 : 1 ≤ lf x) (l2 : 1 ≤ lf y) (gx : fG u0 (3 * x) (lf x - 1) ∧ fG u0 (3 * x + 1) (lf x - 1) ∧ fG u0 (3 * x + 2) (lf x - 1)) (gy : fG u0 (3 * y) (lf y - 1) ∧ fG u0 (3 * y + 1) (lf y - 1) ∧ fG u0 (3 * y + 2) (lf y - 1)) (hK0 : K0 = wl u0 p1 2 (fun i => if i = 0 then x else y) 17) (hK : K0 ≤ 100) (h : wr u0 u (100 * (3 * p1 + j)) 0 []) : ab_C false l D ca y_MO_writeMore b_MO_writeMore 6 none 2 ab_nQ u [ab_O 17 0, ab_I (nI p1), ab_I (nI 17), ab_I (nI x), ab_I (nI y)] (fun u' v => (∃ L, wr u0 u' (100 * (3 * p1 + j)) K0 L ∧ bal L ∧ cas L ≤ lf p1 - 1) ∧ v = none) := by
  refine ab_C.of (by decide) (Nat.le_of_ble_eq_true rfl) ?_
  intro p e s m args below meth c ad X hZ hr0 hlk
  have P0 := h.1
  have bx := gx.1.2.2
  have bx1 := gx.2.1.2.2
  have bx2 := gx.2.2.2.2
  have by0 := gy.1.2.2
  have by1 := gy.2.1.2.2
  have by2 := gy.2.2.2.2
  have nx := gx.1.1.2
  have nx1 := gx.2.1.1.2
  have nx2 := gx.2.2.1.2
  have ny := gy.1.1.2
  have ny1 := gy.2.1.1.2
  have ny2 := gy.2.2.1.2
  simp [wl] at hK0
  refine ab_iload_n X 2 d_MO_writeMore_0 rfl rfl ?_
  refine ab_bipush (v := 13) X d_MO_writeMore_1 (by decide) ?_
  refine ab_icmp_eq X 12 d_MO_writeMore_3 rfl (fun hb => absurd hb ((by decide))) (fun _ => ?_)
  refine ab_iload_n X 2 d_MO_writeMore_6 rfl rfl ?_
  refine ab_bipush (v := 21) X d_MO_writeMore_7 (by decide) ?_
  refine ab_icmp_ne X 43 d_MO_writeMore_9 rfl (fun _ => ?_) (fun hb => absurd hb ((by decide)))
  refine ab_iload_n X 2 d_MO_writeMore_43 rfl rfl ?_
  refine ab_bipush (v := 14) X d_MO_writeMore_44 (by decide) ?_
  refine ab_icmp_ne X 66 d_MO_writeMore_46 rfl (fun _ => ?_) (fun hb => absurd hb ((by decide)))
  refine ab_iload_n X 2 d_MO_writeMore_66 rfl rfl ?_
  refine ab_bipush (v := 15) X d_MO_writeMore_67 (by decide) ?_
  refine ab_icmp_ne X 85 d_MO_writeMore_69 rfl (fun _ => ?_) (fun hb => absurd hb ((by decide)))
  refine ab_iload_n X 2 d_MO_writeMore_85 rfl rfl ?_
  refine ab_bipush (v := 16) X d_MO_writeMore_86 (by decide) ?_
  refine ab_icmp_ne X 104 d_MO_writeMore_88 rfl (fun _ => ?_) (fun hb => absurd hb ((by decide)))
  refine ab_iload_n X 2 d_MO_writeMore_104 rfl rfl ?_
  refine ab_bipush (v := 17) X d_MO_writeMore_105 (by decide) ?_
  refine ab_icmp_ne X 123 d_MO_writeMore_107 rfl (fun hb => absurd ((by decide)) hb) (fun _ => ?_)
  refine ab_aload_n X 0 d_MO_writeMore_110 rfl rfl ?_
  refine ab_iload_n X 3 d_MO_writeMore_111 rfl rfl ?_
  refine ab_callS (as := [ab_I (nI x)]) X (fun h => by cases h) (t_MO_b u x) ls_MO_204 d_MO_writeMore_112 rfl rfl ⟨by first | exact Nat.le_of_ble_eq_true rfl | (simp only [ab_rm]; omega), by first | exact Nat.le_of_ble_eq_true rfl | (simp only [ab_rm]; omega)⟩ ⟨by first | exact Nat.le_of_ble_eq_true rfl | (simp only [ab_rm]; omega), by first | exact Nat.le_of_ble_eq_true rfl | (simp only [ab_rm]; omega)⟩ (Nat.le_of_ble_eq_true rfl) (fun u112 r112 h112 => ?_)
  obtain ⟨e112, rfl⟩ := h112
  subst u112
  refine ab_iload X 4 d_MO_writeMore_115 rfl ?_
  refine ab_callS (as := [ab_I (nI y)]) X (fun h => by cases h) (t_MO_b u y) ls_MO_204 d_MO_writeMore_117 rfl rfl ⟨by first | exact Nat.le_of_ble_eq_true rfl | (simp only [ab_rm]; omega), by first | exact Nat.le_of_ble_eq_true rfl | (simp only [ab_rm]; omega)⟩ ⟨by first | exact Nat.le_of_ble_eq_true rfl | (simp only [ab_rm]; omega), by first | exact Nat.le_of_ble_eq_true rfl | (simp only [ab_rm]; omega)⟩ (Nat.le_of_ble_eq_true rfl) (fun u117 r117 h117 => ?_)
  obtain ⟨e117, rfl⟩ := h117
  subst u117
  refine ab_callV (as := [ab_I (nI (3 * x)), ab_I (nI (3 * y))]) X (fun h => by cases h) (s_MO_sayIf u0 u _ _ _ h (by omega) (3 * x) (3 * y) (lnu u0 (3 * x)) (lnu u0 (3 * y)) (by omega) gx.1.1.2.2 (by omega) gx.1.1.1 (by omega) gy.1.1.2.2 (by omega) gy.1.1.1 (by omega)) lk_MO_251 d_MO_writeMore_120 rfl rfl (by first | assumption | decide | (show _ < 124; omega) | (show _ < 61; omega) | (show _ < 20; omega)) ⟨by first | exact Nat.le_of_ble_eq_true rfl | (simp only [ab_rm]; omega), by first | exact Nat.le_of_ble_eq_true rfl | (simp only [ab_rm]; omega)⟩ ⟨by first | exact Nat.le_of_ble_eq_true rfl | (simp only [ab_rm]; omega), by first | exact Nat.le_of_ble_eq_true rfl | (simp only [ab_rm]; omega)⟩ (Nat.le_of_ble_eq_true rfl) (fun u120 r120 h120 => ?_)
  obtain ⟨q120, rfl⟩ := h120
  have P120 := q120.1
  refine ab_iconst (v := 0) X d_MO_writeMore_123 (by decide) ?_
  refine ab_istore5 X 0 1 2 3 4 d_MO_writeMore_124 (by decide) rfl rfl rfl rfl rfl rfl rfl rfl rfl rfl ?_
  refine ab_iload X 0 d_MO_writeMore_126 rfl ?_
  refine ab_aload_n X 1 d_MO_writeMore_128 rfl rfl ?_
  refine ab_gR X fl_MO_39 d_MO_writeMore_129 (by first | assumption | decide | (show _ < 124; omega) | (show _ < 61; omega) | (show _ < 20; omega)) (P120.1.mo9) ?_
  refine ab_iload_n X 2 d_MO_writeMore_132 rfl rfl ?_
  refine ab_iald X (p1) ⟨rfl, rfl⟩ d_MO_writeMore_133 (by first | assumption | decide | (show _ < 124; omega) | (show _ < 61; omega) | (show _ < 20; omega)) (rfl) (show p1 < 40 by omega) (ab_ln_lt _ _) ?_
  refine ab_icmp_ge X 197 d_MO_writeMore_134 rfl (fun h134 => ?_) (fun h134 => ?_)
  ·
    refine ab_iload_n X 3 d_MO_writeMore_197 rfl rfl ?_
    refine ab_bipush (v := 22) X d_MO_writeMore_198 (by decide) ?_
    refine ab_icmp_ne X 234 d_MO_writeMore_200 rfl (fun _ => ?_) (fun hb => absurd hb ((by decide)))
    refine ab_iload_n X 3 d_MO_writeMore_234 rfl rfl ?_
    refine ab_bipush (v := 23) X d_MO_writeMore_235 (by decide) ?_
    refine ab_icmp_ne X 253 d_MO_writeMore_237 rfl (fun _ => ?_) (fun hb => absurd hb ((by decide)))
    refine ab_iload_n X 3 d_MO_writeMore_253 rfl rfl ?_
    refine ab_bipush (v := 24) X d_MO_writeMore_254 (by decide) ?_
    refine ab_icmp_ne X 273 d_MO_writeMore_256 rfl (fun _ => ?_) (fun hb => absurd hb ((by decide)))
    exact ab_retv X hr0 hlk d_MO_writeMore_273 ⟨⟨_, q120.cast (by omega), (bal_if gx.1.2.1 gy.1.2.1), (by simp only [List.nil_append, cas_app, cas_nil, cas_10, cas_1, cas_2, cas_3, cas_4, cas_5, cas_6, cas_7, cas_8, cas_9, cas_11, cas_12, cas_13, cas_14, cas_15, cas_16, cas_17]; omega)⟩, rfl⟩
  ·
    refine ab_iload_n X 3 d_MO_writeMore_137 rfl rfl ?_
    refine ab_bipush (v := 18) X d_MO_writeMore_138 (by decide) ?_
    refine ab_icmp_ne X 197 d_MO_writeMore_140 rfl (fun _ => ?_) (fun hb => absurd hb ((by decide)))
    refine ab_iload_n X 3 d_MO_writeMore_197 rfl rfl ?_
    refine ab_bipush (v := 22) X d_MO_writeMore_198 (by decide) ?_
    refine ab_icmp_ne X 234 d_MO_writeMore_200 rfl (fun _ => ?_) (fun hb => absurd hb ((by decide)))
    refine ab_iload_n X 3 d_MO_writeMore_234 rfl rfl ?_
    refine ab_bipush (v := 23) X d_MO_writeMore_235 (by decide) ?_
    refine ab_icmp_ne X 253 d_MO_writeMore_237 rfl (fun _ => ?_) (fun hb => absurd hb ((by decide)))
    refine ab_iload_n X 3 d_MO_writeMore_253 rfl rfl ?_
    refine ab_bipush (v := 24) X d_MO_writeMore_254 (by decide) ?_
    refine ab_icmp_ne X 273 d_MO_writeMore_256 rfl (fun _ => ?_) (fun hb => absurd hb ((by decide)))
    exact ab_retv X hr0 hlk d_MO_writeMore_273 ⟨⟨_, q120.cast (by omega), (bal_if gx.1.2.1 gy.1.2.1), (by simp only [List.nil_append, cas_app, cas_nil, cas_10, cas_1, cas_2, cas_3, cas_4, cas_5, cas_6, cas_7, cas_8, cas_9, cas_11, cas_12, cas_13, cas_14, cas_15, cas_16, cas_17]; omega)⟩, rfl⟩
set_option maxRecDepth 100000 in
set_option maxHeartbeats 1000000 in
theorem s_MO_writeMore21 (u0 u : ab_S) (p1 j x y K0 : Nat) (lf : Nat → Nat) (hp : p1 < 19) (hj : j < 3) (hx : p1 < x) (hx2 : x < 19) (hy : p1 < y) (hy2 : y < 19) (lfx : lf x + lf y ≤ lf p1) (l1 : 1 ≤ lf x) (l2 : 1 ≤ lf y) (gx : fG u0 (3 * x) (lf x - 1) ∧ fG u0 (3 * x + 1) (lf x - 1) ∧ fG u0 (3 * x + 2) (lf x - 1)) (gy : fG u0 (3 * y) (lf y - 1) ∧ fG u0 (3 * y + 1) (lf y - 1) ∧ fG u0 (3 * y + 2) (lf y - 1)) (hK0 : K0 = wl u0 p1 2 (fun i => if i = 0 then x else y) 21) (hK : K0 ≤ 100) (h : wr u0 u (100 * (3 * p1 + j)) 0 []) : ab_C false l D ca y_MO_writeMore b_MO_writeMore 6 none 2 ab_nQ u [ab_O 17 0, ab_I (nI p1), ab_I (nI 21), ab_I (nI x), ab_I (nI y)] (fun u' v => (∃ L, wr u0 u' (100 * (3 * p1 + j)) K0 L ∧ bal L ∧ cas L ≤ lf p1 - 1) ∧ v = none) := by
  refine ab_C.of (by decide) (Nat.le_of_ble_eq_true rfl) ?_
  intro p e s m args below meth c ad X hZ hr0 hlk
  have P0 := h.1
  have bx := gx.1.2.2
  have bx1 := gx.2.1.2.2
  have bx2 := gx.2.2.2.2
  have by0 := gy.1.2.2
  have by1 := gy.2.1.2.2
  have by2 := gy.2.2.2.2
  have nx := gx.1.1.2
  have nx1 := gx.2.1.1.2
  have nx2 := gx.2.2.1.2
  have ny := gy.1.1.2
  have ny1 := gy.2.1.1.2
  have ny2 := gy.2.2.1.2
  simp [wl] at hK0
  refine ab_iload_n X 2 d_MO_writeMore_0 rfl rfl ?_
  refine ab_bipush (v := 13) X d_MO_writeMore_1 (by decide) ?_
  refine ab_icmp_eq X 12 d_MO_writeMore_3 rfl (fun hb => absurd hb ((by decide))) (fun _ => ?_)
  refine ab_iload_n X 2 d_MO_writeMore_6 rfl rfl ?_
  refine ab_bipush (v := 21) X d_MO_writeMore_7 (by decide) ?_
  refine ab_icmp_ne X 43 d_MO_writeMore_9 rfl (fun hb => absurd ((by decide)) hb) (fun _ => ?_)
  refine ab_aload_n X 0 d_MO_writeMore_12 rfl rfl ?_
  refine ab_iload_n X 3 d_MO_writeMore_13 rfl rfl ?_
  refine ab_callS (as := [ab_I (nI x)]) X (fun h => by cases h) (t_MO_v u x) ls_MO_201 d_MO_writeMore_14 rfl rfl ⟨by first | exact Nat.le_of_ble_eq_true rfl | (simp only [ab_rm]; omega), by first | exact Nat.le_of_ble_eq_true rfl | (simp only [ab_rm]; omega)⟩ ⟨by first | exact Nat.le_of_ble_eq_true rfl | (simp only [ab_rm]; omega), by first | exact Nat.le_of_ble_eq_true rfl | (simp only [ab_rm]; omega)⟩ (Nat.le_of_ble_eq_true rfl) (fun u14 r14 h14 => ?_)
  obtain ⟨e14, rfl⟩ := h14
  subst u14
  refine ab_callV (as := [ab_I (nI (3 * x + 2))]) X (fun h => by cases h) (s_MO_sayForm u0 u _ _ _ h (by omega) (3 * x + 2) (lnu u0 (3 * x + 2)) (by omega) gx.2.2.1.2.2 (by omega) gx.2.2.1.1 (by omega)) lk_MO_239 d_MO_writeMore_17 rfl rfl (by first | assumption | decide | (show _ < 124; omega) | (show _ < 61; omega) | (show _ < 20; omega)) ⟨by first | exact Nat.le_of_ble_eq_true rfl | (simp only [ab_rm]; omega), by first | exact Nat.le_of_ble_eq_true rfl | (simp only [ab_rm]; omega)⟩ ⟨by first | exact Nat.le_of_ble_eq_true rfl | (simp only [ab_rm]; omega), by first | exact Nat.le_of_ble_eq_true rfl | (simp only [ab_rm]; omega)⟩ (Nat.le_of_ble_eq_true rfl) (fun u17 r17 h17 => ?_)
  obtain ⟨q17, rfl⟩ := h17
  have P17 := q17.1
  refine ab_aload_n X 0 d_MO_writeMore_20 rfl rfl ?_
  refine ab_iload_n X 2 d_MO_writeMore_21 rfl rfl ?_
  refine ab_bipush (v := 13) X d_MO_writeMore_22 (by decide) ?_
  refine ab_icmp_ne X 35 d_MO_writeMore_24 rfl (fun _ => ?_) (fun hb => absurd hb ((by decide)))
  refine ab_iload X 4 d_MO_writeMore_35 rfl ?_
  refine ab_callS (as := [ab_I (nI y)]) X (fun h => by cases h) (t_MO_v u17 y) ls_MO_201 d_MO_writeMore_37 rfl rfl ⟨by first | exact Nat.le_of_ble_eq_true rfl | (simp only [ab_rm]; omega), by first | exact Nat.le_of_ble_eq_true rfl | (simp only [ab_rm]; omega)⟩ ⟨by first | exact Nat.le_of_ble_eq_true rfl | (simp only [ab_rm]; omega), by first | exact Nat.le_of_ble_eq_true rfl | (simp only [ab_rm]; omega)⟩ (Nat.le_of_ble_eq_true rfl) (fun u37 r37 h37 => ?_)
  obtain ⟨e37, rfl⟩ := h37
  subst u37
  refine ab_callV (as := [ab_I (nI (3 * y + 2))]) X (fun h => by cases h) (s_MO_sayForm u0 u17 _ _ _ q17 (by omega) (3 * y + 2) (lnu u0 (3 * y + 2)) (by omega) gy.2.2.1.2.2 (by omega) gy.2.2.1.1 (by omega)) lk_MO_239 d_MO_writeMore_40 rfl rfl (by first | assumption | decide | (show _ < 124; omega) | (show _ < 61; omega) | (show _ < 20; omega)) ⟨by first | exact Nat.le_of_ble_eq_true rfl | (simp only [ab_rm]; omega), by first | exact Nat.le_of_ble_eq_true rfl | (simp only [ab_rm]; omega)⟩ ⟨by first | exact Nat.le_of_ble_eq_true rfl | (simp only [ab_rm]; omega), by first | exact Nat.le_of_ble_eq_true rfl | (simp only [ab_rm]; omega)⟩ (Nat.le_of_ble_eq_true rfl) (fun u40 r40 h40 => ?_)
  obtain ⟨q40, rfl⟩ := h40
  have P40 := q40.1
  refine ab_iload_n X 2 d_MO_writeMore_43 rfl rfl ?_
  refine ab_bipush (v := 14) X d_MO_writeMore_44 (by decide) ?_
  refine ab_icmp_ne X 66 d_MO_writeMore_46 rfl (fun _ => ?_) (fun hb => absurd hb ((by decide)))
  refine ab_iload_n X 2 d_MO_writeMore_66 rfl rfl ?_
  refine ab_bipush (v := 15) X d_MO_writeMore_67 (by decide) ?_
  refine ab_icmp_ne X 85 d_MO_writeMore_69 rfl (fun _ => ?_) (fun hb => absurd hb ((by decide)))
  refine ab_iload_n X 2 d_MO_writeMore_85 rfl rfl ?_
  refine ab_bipush (v := 16) X d_MO_writeMore_86 (by decide) ?_
  refine ab_icmp_ne X 104 d_MO_writeMore_88 rfl (fun _ => ?_) (fun hb => absurd hb ((by decide)))
  refine ab_iload_n X 2 d_MO_writeMore_104 rfl rfl ?_
  refine ab_bipush (v := 17) X d_MO_writeMore_105 (by decide) ?_
  refine ab_icmp_ne X 123 d_MO_writeMore_107 rfl (fun _ => ?_) (fun hb => absurd hb ((by decide)))
  refine ab_iconst (v := 0) X d_MO_writeMore_123 (by decide) ?_
  refine ab_istore5 X 0 1 2 3 4 d_MO_writeMore_124 (by decide) rfl rfl rfl rfl rfl rfl rfl rfl rfl rfl ?_
  refine ab_iload X 0 d_MO_writeMore_126 rfl ?_
  refine ab_aload_n X 1 d_MO_writeMore_128 rfl rfl ?_
  refine ab_gR X fl_MO_39 d_MO_writeMore_129 (by first | assumption | decide | (show _ < 124; omega) | (show _ < 61; omega) | (show _ < 20; omega)) (P40.1.mo9) ?_
  refine ab_iload_n X 2 d_MO_writeMore_132 rfl rfl ?_
  refine ab_iald X (p1) ⟨rfl, rfl⟩ d_MO_writeMore_133 (by first | assumption | decide | (show _ < 124; omega) | (show _ < 61; omega) | (show _ < 20; omega)) (rfl) (show p1 < 40 by omega) (ab_ln_lt _ _) ?_
  refine ab_icmp_ge X 197 d_MO_writeMore_134 rfl (fun h134 => ?_) (fun h134 => ?_)
  ·
    refine ab_iload_n X 3 d_MO_writeMore_197 rfl rfl ?_
    refine ab_bipush (v := 22) X d_MO_writeMore_198 (by decide) ?_
    refine ab_icmp_ne X 234 d_MO_writeMore_200 rfl (fun _ => ?_) (fun hb => absurd hb ((by decide)))
    refine ab_iload_n X 3 d_MO_writeMore_234 rfl rfl ?_
    refine ab_bipush (v := 23) X d_MO_writeMore_235 (by decide) ?_
    refine ab_icmp_ne X 253 d_MO_writeMore_237 rfl (fun _ => ?_) (fun hb => absurd hb ((by decide)))
    refine ab_iload_n X 3 d_MO_writeMore_253 rfl rfl ?_
    refine ab_bipush (v := 24) X d_MO_writeMore_254 (by decide) ?_
    refine ab_icmp_ne X 273 d_MO_writeMore_256 rfl (fun _ => ?_) (fun hb => absurd hb ((by decide)))
    exact ab_retv X hr0 hlk d_MO_writeMore_273 ⟨⟨_, q40.cast (by omega), (gx.2.2.2.1.app gy.2.2.2.1), (by simp only [List.nil_append, cas_app, cas_nil, cas_10, cas_1, cas_2, cas_3, cas_4, cas_5, cas_6, cas_7, cas_8, cas_9, cas_11, cas_12, cas_13, cas_14, cas_15, cas_16, cas_17]; omega)⟩, rfl⟩
  ·
    refine ab_iload_n X 3 d_MO_writeMore_137 rfl rfl ?_
    refine ab_bipush (v := 18) X d_MO_writeMore_138 (by decide) ?_
    refine ab_icmp_ne X 197 d_MO_writeMore_140 rfl (fun _ => ?_) (fun hb => absurd hb ((by decide)))
    refine ab_iload_n X 3 d_MO_writeMore_197 rfl rfl ?_
    refine ab_bipush (v := 22) X d_MO_writeMore_198 (by decide) ?_
    refine ab_icmp_ne X 234 d_MO_writeMore_200 rfl (fun _ => ?_) (fun hb => absurd hb ((by decide)))
    refine ab_iload_n X 3 d_MO_writeMore_234 rfl rfl ?_
    refine ab_bipush (v := 23) X d_MO_writeMore_235 (by decide) ?_
    refine ab_icmp_ne X 253 d_MO_writeMore_237 rfl (fun _ => ?_) (fun hb => absurd hb ((by decide)))
    refine ab_iload_n X 3 d_MO_writeMore_253 rfl rfl ?_
    refine ab_bipush (v := 24) X d_MO_writeMore_254 (by decide) ?_
    refine ab_icmp_ne X 273 d_MO_writeMore_256 rfl (fun _ => ?_) (fun hb => absurd hb ((by decide)))
    exact ab_retv X hr0 hlk d_MO_writeMore_273 ⟨⟨_, q40.cast (by omega), (gx.2.2.2.1.app gy.2.2.2.1), (by simp only [List.nil_append, cas_app, cas_nil, cas_10, cas_1, cas_2, cas_3, cas_4, cas_5, cas_6, cas_7, cas_8, cas_9, cas_11, cas_12, cas_13, cas_14, cas_15, cas_16, cas_17]; omega)⟩, rfl⟩
set_option maxRecDepth 100000 in
set_option maxHeartbeats 1000000 in
theorem s_MO_writeMore22 (u0 u : ab_S) (p1 j x y K0 : Nat) (lf : Nat → Nat) (hp : p1 < 19) (hj : j < 3) (hx : p1 < x) (hx2 : x < 19) (hy : p1 < y) (hy2 : y < 19) (lfx : lf x + lf y ≤ lf p1) (l1 : 1 ≤ lf x) (l2 : 1 ≤ lf y) (gx : fG u0 (3 * x) (lf x - 1) ∧ fG u0 (3 * x + 1) (lf x - 1) ∧ fG u0 (3 * x + 2) (lf x - 1)) (gy : fG u0 (3 * y) (lf y - 1) ∧ fG u0 (3 * y + 1) (lf y - 1) ∧ fG u0 (3 * y + 2) (lf y - 1)) (hK0 : K0 = wl u0 p1 2 (fun i => if i = 0 then x else y) 22) (hK : K0 ≤ 100) (h : wr u0 u (100 * (3 * p1 + j)) 0 []) : ab_C false l D ca y_MO_writeMore b_MO_writeMore 6 none 2 ab_nQ u [ab_O 17 0, ab_I (nI p1), ab_I (nI 22), ab_I (nI x), ab_I (nI y)] (fun u' v => (∃ L, wr u0 u' (100 * (3 * p1 + j)) K0 L ∧ bal L ∧ cas L ≤ lf p1 - 1) ∧ v = none) := by
  refine ab_C.of (by decide) (Nat.le_of_ble_eq_true rfl) ?_
  intro p e s m args below meth c ad X hZ hr0 hlk
  have P0 := h.1
  have bx := gx.1.2.2
  have bx1 := gx.2.1.2.2
  have bx2 := gx.2.2.2.2
  have by0 := gy.1.2.2
  have by1 := gy.2.1.2.2
  have by2 := gy.2.2.2.2
  have nx := gx.1.1.2
  have nx1 := gx.2.1.1.2
  have nx2 := gx.2.2.1.2
  have ny := gy.1.1.2
  have ny1 := gy.2.1.1.2
  have ny2 := gy.2.2.1.2
  simp [wl] at hK0
  refine ab_iload_n X 2 d_MO_writeMore_0 rfl rfl ?_
  refine ab_bipush (v := 13) X d_MO_writeMore_1 (by decide) ?_
  refine ab_icmp_eq X 12 d_MO_writeMore_3 rfl (fun hb => absurd hb ((by decide))) (fun _ => ?_)
  refine ab_iload_n X 2 d_MO_writeMore_6 rfl rfl ?_
  refine ab_bipush (v := 21) X d_MO_writeMore_7 (by decide) ?_
  refine ab_icmp_ne X 43 d_MO_writeMore_9 rfl (fun _ => ?_) (fun hb => absurd hb ((by decide)))
  refine ab_iload_n X 2 d_MO_writeMore_43 rfl rfl ?_
  refine ab_bipush (v := 14) X d_MO_writeMore_44 (by decide) ?_
  refine ab_icmp_ne X 66 d_MO_writeMore_46 rfl (fun _ => ?_) (fun hb => absurd hb ((by decide)))
  refine ab_iload_n X 2 d_MO_writeMore_66 rfl rfl ?_
  refine ab_bipush (v := 15) X d_MO_writeMore_67 (by decide) ?_
  refine ab_icmp_ne X 85 d_MO_writeMore_69 rfl (fun _ => ?_) (fun hb => absurd hb ((by decide)))
  refine ab_iload_n X 2 d_MO_writeMore_85 rfl rfl ?_
  refine ab_bipush (v := 16) X d_MO_writeMore_86 (by decide) ?_
  refine ab_icmp_ne X 104 d_MO_writeMore_88 rfl (fun _ => ?_) (fun hb => absurd hb ((by decide)))
  refine ab_iload_n X 2 d_MO_writeMore_104 rfl rfl ?_
  refine ab_bipush (v := 17) X d_MO_writeMore_105 (by decide) ?_
  refine ab_icmp_ne X 123 d_MO_writeMore_107 rfl (fun _ => ?_) (fun hb => absurd hb ((by decide)))
  refine ab_iconst (v := 0) X d_MO_writeMore_123 (by decide) ?_
  refine ab_istore5 X 0 1 2 3 4 d_MO_writeMore_124 (by decide) rfl rfl rfl rfl rfl rfl rfl rfl rfl rfl ?_
  refine ab_iload X 0 d_MO_writeMore_126 rfl ?_
  refine ab_aload_n X 1 d_MO_writeMore_128 rfl rfl ?_
  refine ab_gR X fl_MO_39 d_MO_writeMore_129 (by first | assumption | decide | (show _ < 124; omega) | (show _ < 61; omega) | (show _ < 20; omega)) (P0.1.mo9) ?_
  refine ab_iload_n X 2 d_MO_writeMore_132 rfl rfl ?_
  refine ab_iald X (p1) ⟨rfl, rfl⟩ d_MO_writeMore_133 (by first | assumption | decide | (show _ < 124; omega) | (show _ < 61; omega) | (show _ < 20; omega)) (rfl) (show p1 < 40 by omega) (ab_ln_lt _ _) ?_
  refine ab_icmp_ge X 197 d_MO_writeMore_134 rfl (fun h134 => ?_) (fun h134 => ?_)
  ·
    refine ab_iload_n X 3 d_MO_writeMore_197 rfl rfl ?_
    refine ab_bipush (v := 22) X d_MO_writeMore_198 (by decide) ?_
    refine ab_icmp_ne X 234 d_MO_writeMore_200 rfl (fun hb => absurd ((by decide)) hb) (fun _ => ?_)
    refine ab_aload_n X 1 d_MO_writeMore_203 rfl rfl ?_
    refine ab_iload_n X 4 d_MO_writeMore_204 rfl rfl ?_
    refine ab_callS (as := [ab_I (nI x)]) X (fun h => by cases h) (t_MO_d u x) ls_MO_195 d_MO_writeMore_205 rfl rfl ⟨by first | exact Nat.le_of_ble_eq_true rfl | (simp only [ab_rm]; omega), by first | exact Nat.le_of_ble_eq_true rfl | (simp only [ab_rm]; omega)⟩ ⟨by first | exact Nat.le_of_ble_eq_true rfl | (simp only [ab_rm]; omega), by first | exact Nat.le_of_ble_eq_true rfl | (simp only [ab_rm]; omega)⟩ (Nat.le_of_ble_eq_true rfl) (fun u205 r205 h205 => ?_)
    obtain ⟨e205, rfl⟩ := h205
    subst u205
    refine ab_callV (as := [ab_I (nI (3 * x + 1))]) X (fun h => by cases h) (s_MO_sayForm u0 u _ _ _ h (by omega) (3 * x + 1) (lnu u0 (3 * x + 1)) (by omega) gx.2.1.1.2.2 (by omega) gx.2.1.1.1 (by omega)) lk_MO_239 d_MO_writeMore_208 rfl rfl (by first | assumption | decide | (show _ < 124; omega) | (show _ < 61; omega) | (show _ < 20; omega)) ⟨by first | exact Nat.le_of_ble_eq_true rfl | (simp only [ab_rm]; omega), by first | exact Nat.le_of_ble_eq_true rfl | (simp only [ab_rm]; omega)⟩ ⟨by first | exact Nat.le_of_ble_eq_true rfl | (simp only [ab_rm]; omega), by first | exact Nat.le_of_ble_eq_true rfl | (simp only [ab_rm]; omega)⟩ (Nat.le_of_ble_eq_true rfl) (fun u208 r208 h208 => ?_)
    obtain ⟨q208, rfl⟩ := h208
    have P208 := q208.1
    refine ab_aload_n X 1 d_MO_writeMore_211 rfl rfl ?_
    refine ab_bipush (v := 15) X d_MO_writeMore_212 (by decide) ?_
    refine ab_iconst (v := 0) X d_MO_writeMore_214 (by decide) ?_
    refine ab_callV (as := [ab_I (nI 15), ab_I (nI 0)]) X (fun h => by cases h) (s_MO_say u0 u208 _ _ _ q208 (by omega) (by omega) 15 0 (by decide) (by decide)) lk_MO_242 d_MO_writeMore_215 rfl rfl (by first | assumption | decide | (show _ < 124; omega) | (show _ < 61; omega) | (show _ < 20; omega)) ⟨by first | exact Nat.le_of_ble_eq_true rfl | (simp only [ab_rm]; omega), by first | exact Nat.le_of_ble_eq_true rfl | (simp only [ab_rm]; omega)⟩ ⟨by first | exact Nat.le_of_ble_eq_true rfl | (simp only [ab_rm]; omega), by first | exact Nat.le_of_ble_eq_true rfl | (simp only [ab_rm]; omega)⟩ (Nat.le_of_ble_eq_true rfl) (fun u215 r215 h215 => ?_)
    obtain ⟨q215, rfl⟩ := h215
    have P215 := q215.1
    refine ab_aload_n X 1 d_MO_writeMore_218 rfl rfl ?_
    refine ab_iload X 5 d_MO_writeMore_219 rfl ?_
    refine ab_callS (as := [ab_I (nI y)]) X (fun h => by cases h) (t_MO_v u215 y) ls_MO_201 d_MO_writeMore_221 rfl rfl ⟨by first | exact Nat.le_of_ble_eq_true rfl | (simp only [ab_rm]; omega), by first | exact Nat.le_of_ble_eq_true rfl | (simp only [ab_rm]; omega)⟩ ⟨by first | exact Nat.le_of_ble_eq_true rfl | (simp only [ab_rm]; omega), by first | exact Nat.le_of_ble_eq_true rfl | (simp only [ab_rm]; omega)⟩ (Nat.le_of_ble_eq_true rfl) (fun u221 r221 h221 => ?_)
    obtain ⟨e221, rfl⟩ := h221
    subst u221
    refine ab_callV (as := [ab_I (nI (3 * y + 2))]) X (fun h => by cases h) (s_MO_sayForm u0 u215 _ _ _ q215 (by omega) (3 * y + 2) (lnu u0 (3 * y + 2)) (by omega) gy.2.2.1.2.2 (by omega) gy.2.2.1.1 (by omega)) lk_MO_239 d_MO_writeMore_224 rfl rfl (by first | assumption | decide | (show _ < 124; omega) | (show _ < 61; omega) | (show _ < 20; omega)) ⟨by first | exact Nat.le_of_ble_eq_true rfl | (simp only [ab_rm]; omega), by first | exact Nat.le_of_ble_eq_true rfl | (simp only [ab_rm]; omega)⟩ ⟨by first | exact Nat.le_of_ble_eq_true rfl | (simp only [ab_rm]; omega), by first | exact Nat.le_of_ble_eq_true rfl | (simp only [ab_rm]; omega)⟩ (Nat.le_of_ble_eq_true rfl) (fun u224 r224 h224 => ?_)
    obtain ⟨q224, rfl⟩ := h224
    have P224 := q224.1
    refine ab_aload_n X 1 d_MO_writeMore_227 rfl rfl ?_
    refine ab_bipush (v := 14) X d_MO_writeMore_228 (by decide) ?_
    refine ab_iconst (v := 0) X d_MO_writeMore_230 (by decide) ?_
    refine ab_callV (as := [ab_I (nI 14), ab_I (nI 0)]) X (fun h => by cases h) (s_MO_say u0 u224 _ _ _ q224 (by omega) (by omega) 14 0 (by decide) (by decide)) lk_MO_242 d_MO_writeMore_231 rfl rfl (by first | assumption | decide | (show _ < 124; omega) | (show _ < 61; omega) | (show _ < 20; omega)) ⟨by first | exact Nat.le_of_ble_eq_true rfl | (simp only [ab_rm]; omega), by first | exact Nat.le_of_ble_eq_true rfl | (simp only [ab_rm]; omega)⟩ ⟨by first | exact Nat.le_of_ble_eq_true rfl | (simp only [ab_rm]; omega), by first | exact Nat.le_of_ble_eq_true rfl | (simp only [ab_rm]; omega)⟩ (Nat.le_of_ble_eq_true rfl) (fun u231 r231 h231 => ?_)
    obtain ⟨q231, rfl⟩ := h231
    have P231 := q231.1
    refine ab_iload_n X 3 d_MO_writeMore_234 rfl rfl ?_
    refine ab_bipush (v := 23) X d_MO_writeMore_235 (by decide) ?_
    refine ab_icmp_ne X 253 d_MO_writeMore_237 rfl (fun _ => ?_) (fun hb => absurd hb ((by decide)))
    refine ab_iload_n X 3 d_MO_writeMore_253 rfl rfl ?_
    refine ab_bipush (v := 24) X d_MO_writeMore_254 (by decide) ?_
    refine ab_icmp_ne X 273 d_MO_writeMore_256 rfl (fun _ => ?_) (fun hb => absurd hb ((by decide)))
    exact ab_retv X hr0 hlk d_MO_writeMore_273 ⟨⟨_, q231.cast (by omega), (bal_un gx.2.1.2.1 gy.2.2.2.1), (by simp only [List.nil_append, cas_app, cas_nil, cas_10, cas_1, cas_2, cas_3, cas_4, cas_5, cas_6, cas_7, cas_8, cas_9, cas_11, cas_12, cas_13, cas_14, cas_15, cas_16, cas_17]; omega)⟩, rfl⟩
  ·
    refine ab_iload_n X 3 d_MO_writeMore_137 rfl rfl ?_
    refine ab_bipush (v := 18) X d_MO_writeMore_138 (by decide) ?_
    refine ab_icmp_ne X 197 d_MO_writeMore_140 rfl (fun _ => ?_) (fun hb => absurd hb ((by decide)))
    refine ab_iload_n X 3 d_MO_writeMore_197 rfl rfl ?_
    refine ab_bipush (v := 22) X d_MO_writeMore_198 (by decide) ?_
    refine ab_icmp_ne X 234 d_MO_writeMore_200 rfl (fun hb => absurd ((by decide)) hb) (fun _ => ?_)
    refine ab_aload_n X 1 d_MO_writeMore_203 rfl rfl ?_
    refine ab_iload_n X 4 d_MO_writeMore_204 rfl rfl ?_
    refine ab_callS (as := [ab_I (nI x)]) X (fun h => by cases h) (t_MO_d u x) ls_MO_195 d_MO_writeMore_205 rfl rfl ⟨by first | exact Nat.le_of_ble_eq_true rfl | (simp only [ab_rm]; omega), by first | exact Nat.le_of_ble_eq_true rfl | (simp only [ab_rm]; omega)⟩ ⟨by first | exact Nat.le_of_ble_eq_true rfl | (simp only [ab_rm]; omega), by first | exact Nat.le_of_ble_eq_true rfl | (simp only [ab_rm]; omega)⟩ (Nat.le_of_ble_eq_true rfl) (fun u205 r205 h205 => ?_)
    obtain ⟨e205, rfl⟩ := h205
    subst u205
    refine ab_callV (as := [ab_I (nI (3 * x + 1))]) X (fun h => by cases h) (s_MO_sayForm u0 u _ _ _ h (by omega) (3 * x + 1) (lnu u0 (3 * x + 1)) (by omega) gx.2.1.1.2.2 (by omega) gx.2.1.1.1 (by omega)) lk_MO_239 d_MO_writeMore_208 rfl rfl (by first | assumption | decide | (show _ < 124; omega) | (show _ < 61; omega) | (show _ < 20; omega)) ⟨by first | exact Nat.le_of_ble_eq_true rfl | (simp only [ab_rm]; omega), by first | exact Nat.le_of_ble_eq_true rfl | (simp only [ab_rm]; omega)⟩ ⟨by first | exact Nat.le_of_ble_eq_true rfl | (simp only [ab_rm]; omega), by first | exact Nat.le_of_ble_eq_true rfl | (simp only [ab_rm]; omega)⟩ (Nat.le_of_ble_eq_true rfl) (fun u208 r208 h208 => ?_)
    obtain ⟨q208, rfl⟩ := h208
    have P208 := q208.1
    refine ab_aload_n X 1 d_MO_writeMore_211 rfl rfl ?_
    refine ab_bipush (v := 15) X d_MO_writeMore_212 (by decide) ?_
    refine ab_iconst (v := 0) X d_MO_writeMore_214 (by decide) ?_
    refine ab_callV (as := [ab_I (nI 15), ab_I (nI 0)]) X (fun h => by cases h) (s_MO_say u0 u208 _ _ _ q208 (by omega) (by omega) 15 0 (by decide) (by decide)) lk_MO_242 d_MO_writeMore_215 rfl rfl (by first | assumption | decide | (show _ < 124; omega) | (show _ < 61; omega) | (show _ < 20; omega)) ⟨by first | exact Nat.le_of_ble_eq_true rfl | (simp only [ab_rm]; omega), by first | exact Nat.le_of_ble_eq_true rfl | (simp only [ab_rm]; omega)⟩ ⟨by first | exact Nat.le_of_ble_eq_true rfl | (simp only [ab_rm]; omega), by first | exact Nat.le_of_ble_eq_true rfl | (simp only [ab_rm]; omega)⟩ (Nat.le_of_ble_eq_true rfl) (fun u215 r215 h215 => ?_)
    obtain ⟨q215, rfl⟩ := h215
    have P215 := q215.1
    refine ab_aload_n X 1 d_MO_writeMore_218 rfl rfl ?_
    refine ab_iload X 5 d_MO_writeMore_219 rfl ?_
    refine ab_callS (as := [ab_I (nI y)]) X (fun h => by cases h) (t_MO_v u215 y) ls_MO_201 d_MO_writeMore_221 rfl rfl ⟨by first | exact Nat.le_of_ble_eq_true rfl | (simp only [ab_rm]; omega), by first | exact Nat.le_of_ble_eq_true rfl | (simp only [ab_rm]; omega)⟩ ⟨by first | exact Nat.le_of_ble_eq_true rfl | (simp only [ab_rm]; omega), by first | exact Nat.le_of_ble_eq_true rfl | (simp only [ab_rm]; omega)⟩ (Nat.le_of_ble_eq_true rfl) (fun u221 r221 h221 => ?_)
    obtain ⟨e221, rfl⟩ := h221
    subst u221
    refine ab_callV (as := [ab_I (nI (3 * y + 2))]) X (fun h => by cases h) (s_MO_sayForm u0 u215 _ _ _ q215 (by omega) (3 * y + 2) (lnu u0 (3 * y + 2)) (by omega) gy.2.2.1.2.2 (by omega) gy.2.2.1.1 (by omega)) lk_MO_239 d_MO_writeMore_224 rfl rfl (by first | assumption | decide | (show _ < 124; omega) | (show _ < 61; omega) | (show _ < 20; omega)) ⟨by first | exact Nat.le_of_ble_eq_true rfl | (simp only [ab_rm]; omega), by first | exact Nat.le_of_ble_eq_true rfl | (simp only [ab_rm]; omega)⟩ ⟨by first | exact Nat.le_of_ble_eq_true rfl | (simp only [ab_rm]; omega), by first | exact Nat.le_of_ble_eq_true rfl | (simp only [ab_rm]; omega)⟩ (Nat.le_of_ble_eq_true rfl) (fun u224 r224 h224 => ?_)
    obtain ⟨q224, rfl⟩ := h224
    have P224 := q224.1
    refine ab_aload_n X 1 d_MO_writeMore_227 rfl rfl ?_
    refine ab_bipush (v := 14) X d_MO_writeMore_228 (by decide) ?_
    refine ab_iconst (v := 0) X d_MO_writeMore_230 (by decide) ?_
    refine ab_callV (as := [ab_I (nI 14), ab_I (nI 0)]) X (fun h => by cases h) (s_MO_say u0 u224 _ _ _ q224 (by omega) (by omega) 14 0 (by decide) (by decide)) lk_MO_242 d_MO_writeMore_231 rfl rfl (by first | assumption | decide | (show _ < 124; omega) | (show _ < 61; omega) | (show _ < 20; omega)) ⟨by first | exact Nat.le_of_ble_eq_true rfl | (simp only [ab_rm]; omega), by first | exact Nat.le_of_ble_eq_true rfl | (simp only [ab_rm]; omega)⟩ ⟨by first | exact Nat.le_of_ble_eq_true rfl | (simp only [ab_rm]; omega), by first | exact Nat.le_of_ble_eq_true rfl | (simp only [ab_rm]; omega)⟩ (Nat.le_of_ble_eq_true rfl) (fun u231 r231 h231 => ?_)
    obtain ⟨q231, rfl⟩ := h231
    have P231 := q231.1
    refine ab_iload_n X 3 d_MO_writeMore_234 rfl rfl ?_
    refine ab_bipush (v := 23) X d_MO_writeMore_235 (by decide) ?_
    refine ab_icmp_ne X 253 d_MO_writeMore_237 rfl (fun _ => ?_) (fun hb => absurd hb ((by decide)))
    refine ab_iload_n X 3 d_MO_writeMore_253 rfl rfl ?_
    refine ab_bipush (v := 24) X d_MO_writeMore_254 (by decide) ?_
    refine ab_icmp_ne X 273 d_MO_writeMore_256 rfl (fun _ => ?_) (fun hb => absurd hb ((by decide)))
    exact ab_retv X hr0 hlk d_MO_writeMore_273 ⟨⟨_, q231.cast (by omega), (bal_un gx.2.1.2.1 gy.2.2.2.1), (by simp only [List.nil_append, cas_app, cas_nil, cas_10, cas_1, cas_2, cas_3, cas_4, cas_5, cas_6, cas_7, cas_8, cas_9, cas_11, cas_12, cas_13, cas_14, cas_15, cas_16, cas_17]; omega)⟩, rfl⟩
set_option maxRecDepth 100000 in
set_option maxHeartbeats 1000000 in
theorem s_MO_writeMore23 (u0 u : ab_S) (p1 j x y K0 : Nat) (lf : Nat → Nat) (hp : p1 < 19) (hj : j < 3) (hx : p1 < x) (hx2 : x < 19) (hy : p1 < y) (hy2 : y < 19) (lfx : lf x + lf y ≤ lf p1) (l1 : 1 ≤ lf x) (l2 : 1 ≤ lf y) (gx : fG u0 (3 * x) (lf x - 1) ∧ fG u0 (3 * x + 1) (lf x - 1) ∧ fG u0 (3 * x + 2) (lf x - 1)) (gy : fG u0 (3 * y) (lf y - 1) ∧ fG u0 (3 * y + 1) (lf y - 1) ∧ fG u0 (3 * y + 2) (lf y - 1)) (hK0 : K0 = wl u0 p1 2 (fun i => if i = 0 then x else y) 23) (hK : K0 ≤ 100) (h : wr u0 u (100 * (3 * p1 + j)) 0 []) : ab_C false l D ca y_MO_writeMore b_MO_writeMore 6 none 2 ab_nQ u [ab_O 17 0, ab_I (nI p1), ab_I (nI 23), ab_I (nI x), ab_I (nI y)] (fun u' v => (∃ L, wr u0 u' (100 * (3 * p1 + j)) K0 L ∧ bal L ∧ cas L ≤ lf p1 - 1) ∧ v = none) := by
  refine ab_C.of (by decide) (Nat.le_of_ble_eq_true rfl) ?_
  intro p e s m args below meth c ad X hZ hr0 hlk
  have P0 := h.1
  have bx := gx.1.2.2
  have bx1 := gx.2.1.2.2
  have bx2 := gx.2.2.2.2
  have by0 := gy.1.2.2
  have by1 := gy.2.1.2.2
  have by2 := gy.2.2.2.2
  have nx := gx.1.1.2
  have nx1 := gx.2.1.1.2
  have nx2 := gx.2.2.1.2
  have ny := gy.1.1.2
  have ny1 := gy.2.1.1.2
  have ny2 := gy.2.2.1.2
  simp [wl] at hK0
  refine ab_iload_n X 2 d_MO_writeMore_0 rfl rfl ?_
  refine ab_bipush (v := 13) X d_MO_writeMore_1 (by decide) ?_
  refine ab_icmp_eq X 12 d_MO_writeMore_3 rfl (fun hb => absurd hb ((by decide))) (fun _ => ?_)
  refine ab_iload_n X 2 d_MO_writeMore_6 rfl rfl ?_
  refine ab_bipush (v := 21) X d_MO_writeMore_7 (by decide) ?_
  refine ab_icmp_ne X 43 d_MO_writeMore_9 rfl (fun _ => ?_) (fun hb => absurd hb ((by decide)))
  refine ab_iload_n X 2 d_MO_writeMore_43 rfl rfl ?_
  refine ab_bipush (v := 14) X d_MO_writeMore_44 (by decide) ?_
  refine ab_icmp_ne X 66 d_MO_writeMore_46 rfl (fun _ => ?_) (fun hb => absurd hb ((by decide)))
  refine ab_iload_n X 2 d_MO_writeMore_66 rfl rfl ?_
  refine ab_bipush (v := 15) X d_MO_writeMore_67 (by decide) ?_
  refine ab_icmp_ne X 85 d_MO_writeMore_69 rfl (fun _ => ?_) (fun hb => absurd hb ((by decide)))
  refine ab_iload_n X 2 d_MO_writeMore_85 rfl rfl ?_
  refine ab_bipush (v := 16) X d_MO_writeMore_86 (by decide) ?_
  refine ab_icmp_ne X 104 d_MO_writeMore_88 rfl (fun _ => ?_) (fun hb => absurd hb ((by decide)))
  refine ab_iload_n X 2 d_MO_writeMore_104 rfl rfl ?_
  refine ab_bipush (v := 17) X d_MO_writeMore_105 (by decide) ?_
  refine ab_icmp_ne X 123 d_MO_writeMore_107 rfl (fun _ => ?_) (fun hb => absurd hb ((by decide)))
  refine ab_iconst (v := 0) X d_MO_writeMore_123 (by decide) ?_
  refine ab_istore5 X 0 1 2 3 4 d_MO_writeMore_124 (by decide) rfl rfl rfl rfl rfl rfl rfl rfl rfl rfl ?_
  refine ab_iload X 0 d_MO_writeMore_126 rfl ?_
  refine ab_aload_n X 1 d_MO_writeMore_128 rfl rfl ?_
  refine ab_gR X fl_MO_39 d_MO_writeMore_129 (by first | assumption | decide | (show _ < 124; omega) | (show _ < 61; omega) | (show _ < 20; omega)) (P0.1.mo9) ?_
  refine ab_iload_n X 2 d_MO_writeMore_132 rfl rfl ?_
  refine ab_iald X (p1) ⟨rfl, rfl⟩ d_MO_writeMore_133 (by first | assumption | decide | (show _ < 124; omega) | (show _ < 61; omega) | (show _ < 20; omega)) (rfl) (show p1 < 40 by omega) (ab_ln_lt _ _) ?_
  refine ab_icmp_ge X 197 d_MO_writeMore_134 rfl (fun h134 => ?_) (fun h134 => ?_)
  ·
    refine ab_iload_n X 3 d_MO_writeMore_197 rfl rfl ?_
    refine ab_bipush (v := 22) X d_MO_writeMore_198 (by decide) ?_
    refine ab_icmp_ne X 234 d_MO_writeMore_200 rfl (fun _ => ?_) (fun hb => absurd hb ((by decide)))
    refine ab_iload_n X 3 d_MO_writeMore_234 rfl rfl ?_
    refine ab_bipush (v := 23) X d_MO_writeMore_235 (by decide) ?_
    refine ab_icmp_ne X 253 d_MO_writeMore_237 rfl (fun hb => absurd ((by decide)) hb) (fun _ => ?_)
    refine ab_aload_n X 1 d_MO_writeMore_240 rfl rfl ?_
    refine ab_iload_n X 4 d_MO_writeMore_241 rfl rfl ?_
    refine ab_callS (as := [ab_I (nI x)]) X (fun h => by cases h) (t_MO_v u x) ls_MO_201 d_MO_writeMore_242 rfl rfl ⟨by first | exact Nat.le_of_ble_eq_true rfl | (simp only [ab_rm]; omega), by first | exact Nat.le_of_ble_eq_true rfl | (simp only [ab_rm]; omega)⟩ ⟨by first | exact Nat.le_of_ble_eq_true rfl | (simp only [ab_rm]; omega), by first | exact Nat.le_of_ble_eq_true rfl | (simp only [ab_rm]; omega)⟩ (Nat.le_of_ble_eq_true rfl) (fun u242 r242 h242 => ?_)
    obtain ⟨e242, rfl⟩ := h242
    subst u242
    refine ab_iload X 5 d_MO_writeMore_245 rfl ?_
    refine ab_callS (as := [ab_I (nI y)]) X (fun h => by cases h) (t_MO_v u y) ls_MO_201 d_MO_writeMore_247 rfl rfl ⟨by first | exact Nat.le_of_ble_eq_true rfl | (simp only [ab_rm]; omega), by first | exact Nat.le_of_ble_eq_true rfl | (simp only [ab_rm]; omega)⟩ ⟨by first | exact Nat.le_of_ble_eq_true rfl | (simp only [ab_rm]; omega), by first | exact Nat.le_of_ble_eq_true rfl | (simp only [ab_rm]; omega)⟩ (Nat.le_of_ble_eq_true rfl) (fun u247 r247 h247 => ?_)
    obtain ⟨e247, rfl⟩ := h247
    subst u247
    refine ab_callV (as := [ab_I (nI (3 * x + 2)), ab_I (nI (3 * y + 2))]) X (fun h => by cases h) (s_MO_sayIf u0 u _ _ _ h (by omega) (3 * x + 2) (3 * y + 2) (lnu u0 (3 * x + 2)) (lnu u0 (3 * y + 2)) (by omega) gx.2.2.1.2.2 (by omega) gx.2.2.1.1 (by omega) gy.2.2.1.2.2 (by omega) gy.2.2.1.1 (by omega)) lk_MO_251 d_MO_writeMore_250 rfl rfl (by first | assumption | decide | (show _ < 124; omega) | (show _ < 61; omega) | (show _ < 20; omega)) ⟨by first | exact Nat.le_of_ble_eq_true rfl | (simp only [ab_rm]; omega), by first | exact Nat.le_of_ble_eq_true rfl | (simp only [ab_rm]; omega)⟩ ⟨by first | exact Nat.le_of_ble_eq_true rfl | (simp only [ab_rm]; omega), by first | exact Nat.le_of_ble_eq_true rfl | (simp only [ab_rm]; omega)⟩ (Nat.le_of_ble_eq_true rfl) (fun u250 r250 h250 => ?_)
    obtain ⟨q250, rfl⟩ := h250
    have P250 := q250.1
    refine ab_iload_n X 3 d_MO_writeMore_253 rfl rfl ?_
    refine ab_bipush (v := 24) X d_MO_writeMore_254 (by decide) ?_
    refine ab_icmp_ne X 273 d_MO_writeMore_256 rfl (fun _ => ?_) (fun hb => absurd hb ((by decide)))
    exact ab_retv X hr0 hlk d_MO_writeMore_273 ⟨⟨_, q250.cast (by omega), (bal_if gx.2.2.2.1 gy.2.2.2.1), (by simp only [List.nil_append, cas_app, cas_nil, cas_10, cas_1, cas_2, cas_3, cas_4, cas_5, cas_6, cas_7, cas_8, cas_9, cas_11, cas_12, cas_13, cas_14, cas_15, cas_16, cas_17]; omega)⟩, rfl⟩
  ·
    refine ab_iload_n X 3 d_MO_writeMore_137 rfl rfl ?_
    refine ab_bipush (v := 18) X d_MO_writeMore_138 (by decide) ?_
    refine ab_icmp_ne X 197 d_MO_writeMore_140 rfl (fun _ => ?_) (fun hb => absurd hb ((by decide)))
    refine ab_iload_n X 3 d_MO_writeMore_197 rfl rfl ?_
    refine ab_bipush (v := 22) X d_MO_writeMore_198 (by decide) ?_
    refine ab_icmp_ne X 234 d_MO_writeMore_200 rfl (fun _ => ?_) (fun hb => absurd hb ((by decide)))
    refine ab_iload_n X 3 d_MO_writeMore_234 rfl rfl ?_
    refine ab_bipush (v := 23) X d_MO_writeMore_235 (by decide) ?_
    refine ab_icmp_ne X 253 d_MO_writeMore_237 rfl (fun hb => absurd ((by decide)) hb) (fun _ => ?_)
    refine ab_aload_n X 1 d_MO_writeMore_240 rfl rfl ?_
    refine ab_iload_n X 4 d_MO_writeMore_241 rfl rfl ?_
    refine ab_callS (as := [ab_I (nI x)]) X (fun h => by cases h) (t_MO_v u x) ls_MO_201 d_MO_writeMore_242 rfl rfl ⟨by first | exact Nat.le_of_ble_eq_true rfl | (simp only [ab_rm]; omega), by first | exact Nat.le_of_ble_eq_true rfl | (simp only [ab_rm]; omega)⟩ ⟨by first | exact Nat.le_of_ble_eq_true rfl | (simp only [ab_rm]; omega), by first | exact Nat.le_of_ble_eq_true rfl | (simp only [ab_rm]; omega)⟩ (Nat.le_of_ble_eq_true rfl) (fun u242 r242 h242 => ?_)
    obtain ⟨e242, rfl⟩ := h242
    subst u242
    refine ab_iload X 5 d_MO_writeMore_245 rfl ?_
    refine ab_callS (as := [ab_I (nI y)]) X (fun h => by cases h) (t_MO_v u y) ls_MO_201 d_MO_writeMore_247 rfl rfl ⟨by first | exact Nat.le_of_ble_eq_true rfl | (simp only [ab_rm]; omega), by first | exact Nat.le_of_ble_eq_true rfl | (simp only [ab_rm]; omega)⟩ ⟨by first | exact Nat.le_of_ble_eq_true rfl | (simp only [ab_rm]; omega), by first | exact Nat.le_of_ble_eq_true rfl | (simp only [ab_rm]; omega)⟩ (Nat.le_of_ble_eq_true rfl) (fun u247 r247 h247 => ?_)
    obtain ⟨e247, rfl⟩ := h247
    subst u247
    refine ab_callV (as := [ab_I (nI (3 * x + 2)), ab_I (nI (3 * y + 2))]) X (fun h => by cases h) (s_MO_sayIf u0 u _ _ _ h (by omega) (3 * x + 2) (3 * y + 2) (lnu u0 (3 * x + 2)) (lnu u0 (3 * y + 2)) (by omega) gx.2.2.1.2.2 (by omega) gx.2.2.1.1 (by omega) gy.2.2.1.2.2 (by omega) gy.2.2.1.1 (by omega)) lk_MO_251 d_MO_writeMore_250 rfl rfl (by first | assumption | decide | (show _ < 124; omega) | (show _ < 61; omega) | (show _ < 20; omega)) ⟨by first | exact Nat.le_of_ble_eq_true rfl | (simp only [ab_rm]; omega), by first | exact Nat.le_of_ble_eq_true rfl | (simp only [ab_rm]; omega)⟩ ⟨by first | exact Nat.le_of_ble_eq_true rfl | (simp only [ab_rm]; omega), by first | exact Nat.le_of_ble_eq_true rfl | (simp only [ab_rm]; omega)⟩ (Nat.le_of_ble_eq_true rfl) (fun u250 r250 h250 => ?_)
    obtain ⟨q250, rfl⟩ := h250
    have P250 := q250.1
    refine ab_iload_n X 3 d_MO_writeMore_253 rfl rfl ?_
    refine ab_bipush (v := 24) X d_MO_writeMore_254 (by decide) ?_
    refine ab_icmp_ne X 273 d_MO_writeMore_256 rfl (fun _ => ?_) (fun hb => absurd hb ((by decide)))
    exact ab_retv X hr0 hlk d_MO_writeMore_273 ⟨⟨_, q250.cast (by omega), (bal_if gx.2.2.2.1 gy.2.2.2.1), (by simp only [List.nil_append, cas_app, cas_nil, cas_10, cas_1, cas_2, cas_3, cas_4, cas_5, cas_6, cas_7, cas_8, cas_9, cas_11, cas_12, cas_13, cas_14, cas_15, cas_16, cas_17]; omega)⟩, rfl⟩
end SaMWrite

