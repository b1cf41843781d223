/-! The reference's trial of a way. -/
def pcn (k : Nat) : Nat := k % 2 + k / 2 % 2 + k / 4 % 2 + k / 8 % 2
theorem th_bit : ∀ k, k < 16 → ∀ i, i < 4 → (nI k >>> (nI i &&& 31)) &&& 1 = nI (k / 2 ^ i % 2) := by decide +kernel
theorem th_or : ∀ k, k < 16 → ∀ i, i < 4 → k / 2 ^ i % 2 = 0 → (nI k ||| ((1 : Int32) <<< (nI i &&& 31))) = nI (k + 2 ^ i) := by decide +kernel
theorem th_full : ∀ n, n < 5 → ∀ k, k < 16 → (∀ q, q < n → k / 2 ^ q % 2 = 1) → k < 2 ^ n → pcn k = n := by decide +kernel
theorem th_add1 : ∀ n, n < 5 → ∀ k, k < 16 → ∀ q, q < 4 → (q < n ∧ k < 2 ^ n ∧ k / 2 ^ q % 2 = 0) → k + 2 ^ q < 2 ^ n := by decide +kernel
theorem th_add2 : ∀ k, k < 16 → ∀ q, q < 4 → k / 2 ^ q % 2 = 0 → pcn (k + 2 ^ q) = pcn k + 1 := by decide +kernel
theorem th_lt : ∀ n, n < 5 → ∀ k, k < 2 ^ n → k < 16 := by
  intro n hn k hk
  have : 2 ^ n ≤ 2 ^ 4 := Nat.pow_le_pow_right (by decide) (by omega)
  omega
section SaMTry
variable {l : Launch} {D : va_G} {ca : Nat → ClassId}
abbrev b_MO_threshold : ByteArray := prog_10_method_19_code
def y_MO_threshold : MethodName := ⟨"PolicyForgeModel", "threshold", "(I)V"⟩
theorem d_MO_threshold_0 : decode b_MO_threshold 0 = .ok (.iconst 1, 1) := by decide +kernel
theorem d_MO_threshold_1 : decode b_MO_threshold 1 = .ok (.istore_n 2, 1) := by decide +kernel
theorem d_MO_threshold_2 : decode b_MO_threshold 2 = .ok (.iconst 0, 1) := by decide +kernel
theorem d_MO_threshold_3 : decode b_MO_threshold 3 = .ok (.istore_n 3, 1) := by decide +kernel
theorem d_MO_threshold_4 : decode b_MO_threshold 4 = .ok (.iconst 0, 1) := by decide +kernel
theorem d_MO_threshold_5 : decode b_MO_threshold 5 = .ok (.istore 4, 2) := by decide +kernel
theorem d_MO_threshold_7 : decode b_MO_threshold 7 = .ok (.iconst 0, 1) := by decide +kernel
theorem d_MO_threshold_8 : decode b_MO_threshold 8 = .ok (.istore 5, 2) := by decide +kernel
theorem d_MO_threshold_10 : decode b_MO_threshold 10 = .ok (.iload 5, 2) := by decide +kernel
theorem d_MO_threshold_12 : decode b_MO_threshold 12 = .ok (.aload_n 0, 1) := by decide +kernel
theorem d_MO_threshold_13 : decode b_MO_threshold 13 = .ok (.getfield 39, 3) := by decide +kernel
theorem d_MO_threshold_16 : decode b_MO_threshold 16 = .ok (.iload_n 1, 1) := by decide +kernel
theorem d_MO_threshold_17 : decode b_MO_threshold 17 = .ok (.iaload, 1) := by decide +kernel
theorem d_MO_threshold_18 : decode b_MO_threshold 18 = .ok (.if_icmp .ge 61, 3) := by decide +kernel
theorem d_MO_threshold_21 : decode b_MO_threshold 21 = .ok (.iload_n 2, 1) := by decide +kernel
theorem d_MO_threshold_22 : decode b_MO_threshold 22 = .ok (.aload_n 0, 1) := by decide +kernel
theorem d_MO_threshold_23 : decode b_MO_threshold 23 = .ok (.getfield 48, 3) := by decide +kernel
theorem d_MO_threshold_26 : decode b_MO_threshold 26 = .ok (.aload_n 0, 1) := by decide +kernel
theorem d_MO_threshold_27 : decode b_MO_threshold 27 = .ok (.getfield 42, 3) := by decide +kernel
theorem d_MO_threshold_30 : decode b_MO_threshold 30 = .ok (.iconst 4, 1) := by decide +kernel
theorem d_MO_threshold_31 : decode b_MO_threshold 31 = .ok (.iload_n 1, 1) := by decide +kernel
theorem d_MO_threshold_32 : decode b_MO_threshold 32 = .ok (.imul, 1) := by decide +kernel
theorem d_MO_threshold_33 : decode b_MO_threshold 33 = .ok (.iload 5, 2) := by decide +kernel
theorem d_MO_threshold_35 : decode b_MO_threshold 35 = .ok (.iadd, 1) := by decide +kernel
theorem d_MO_threshold_36 : decode b_MO_threshold 36 = .ok (.iaload, 1) := by decide +kernel
theorem d_MO_threshold_37 : decode b_MO_threshold 37 = .ok (.invokestatic 195, 3) := by decide +kernel
theorem d_MO_threshold_40 : decode b_MO_threshold 40 = .ok (.iaload, 1) := by decide +kernel
theorem d_MO_threshold_41 : decode b_MO_threshold 41 = .ok (.iload 5, 2) := by decide +kernel
theorem d_MO_threshold_43 : decode b_MO_threshold 43 = .ok (.ifCond .le 7, 3) := by decide +kernel
theorem d_MO_threshold_46 : decode b_MO_threshold 46 = .ok (.iconst 3, 1) := by decide +kernel
theorem d_MO_threshold_47 : decode b_MO_threshold 47 = .ok (.goto 4, 3) := by decide +kernel
theorem d_MO_threshold_50 : decode b_MO_threshold 50 = .ok (.iconst 0, 1) := by decide +kernel
theorem d_MO_threshold_51 : decode b_MO_threshold 51 = .ok (.iadd, 1) := by decide +kernel
theorem d_MO_threshold_52 : decode b_MO_threshold 52 = .ok (.iadd, 1) := by decide +kernel
theorem d_MO_threshold_53 : decode b_MO_threshold 53 = .ok (.istore_n 2, 1) := by decide +kernel
theorem d_MO_threshold_54 : decode b_MO_threshold 54 = .ok (.iload_n 3, 1) := by decide +kernel
theorem d_MO_threshold_55 : decode b_MO_threshold 55 = .ok (.aload_n 0, 1) := by decide +kernel
theorem d_MO_threshold_56 : decode b_MO_threshold 56 = .ok (.getfield 54, 3) := by decide +kernel
theorem d_MO_threshold_59 : decode b_MO_threshold 59 = .ok (.aload_n 0, 1) := by decide +kernel
theorem d_MO_threshold_60 : decode b_MO_threshold 60 = .ok (.getfield 42, 3) := by decide +kernel
theorem d_MO_threshold_63 : decode b_MO_threshold 63 = .ok (.iconst 4, 1) := by decide +kernel
theorem d_MO_threshold_64 : decode b_MO_threshold 64 = .ok (.iload_n 1, 1) := by decide +kernel
theorem d_MO_threshold_65 : decode b_MO_threshold 65 = .ok (.imul, 1) := by decide +kernel
theorem d_MO_threshold_66 : decode b_MO_threshold 66 = .ok (.iload 5, 2) := by decide +kernel
theorem d_MO_threshold_68 : decode b_MO_threshold 68 = .ok (.iadd, 1) := by decide +kernel
theorem d_MO_threshold_69 : decode b_MO_threshold 69 = .ok (.iaload, 1) := by decide +kernel
theorem d_MO_threshold_70 : decode b_MO_threshold 70 = .ok (.iaload, 1) := by decide +kernel
theorem d_MO_threshold_71 : decode b_MO_threshold 71 = .ok (.iadd, 1) := by decide +kernel
theorem d_MO_threshold_72 : decode b_MO_threshold 72 = .ok (.istore_n 3, 1) := by decide +kernel
theorem d_MO_threshold_73 : decode b_MO_threshold 73 = .ok (.iinc 5 1, 3) := by decide +kernel
theorem d_MO_threshold_76 : decode b_MO_threshold 76 = .ok (.goto (-66), 3) := by decide +kernel
theorem d_MO_threshold_79 : decode b_MO_threshold 79 = .ok (.iconst 0, 1) := by decide +kernel
theorem d_MO_threshold_80 : decode b_MO_threshold 80 = .ok (.istore 5, 2) := by decide +kernel
theorem d_MO_threshold_82 : decode b_MO_threshold 82 = .ok (.iload 5, 2) := by decide +kernel
theorem d_MO_threshold_84 : decode b_MO_threshold 84 = .ok (.aload_n 0, 1) := by decide +kernel
theorem d_MO_threshold_85 : decode b_MO_threshold 85 = .ok (.getfield 36, 3) := by decide +kernel
theorem d_MO_threshold_88 : decode b_MO_threshold 88 = .ok (.iload_n 1, 1) := by decide +kernel
theorem d_MO_threshold_89 : decode b_MO_threshold 89 = .ok (.iaload, 1) := by decide +kernel
theorem d_MO_threshold_90 : decode b_MO_threshold 90 = .ok (.if_icmp .ge 87, 3) := by decide +kernel
theorem d_MO_threshold_93 : decode b_MO_threshold 93 = .ok (.iconst (-1), 1) := by decide +kernel
theorem d_MO_threshold_94 : decode b_MO_threshold 94 = .ok (.istore 6, 2) := by decide +kernel
theorem d_MO_threshold_96 : decode b_MO_threshold 96 = .ok (.iconst 0, 1) := by decide +kernel
theorem d_MO_threshold_97 : decode b_MO_threshold 97 = .ok (.istore 7, 2) := by decide +kernel
theorem d_MO_threshold_99 : decode b_MO_threshold 99 = .ok (.iload 7, 2) := by decide +kernel
theorem d_MO_threshold_101 : decode b_MO_threshold 101 = .ok (.aload_n 0, 1) := by decide +kernel
theorem d_MO_threshold_102 : decode b_MO_threshold 102 = .ok (.getfield 39, 3) := by decide +kernel
theorem d_MO_threshold_105 : decode b_MO_threshold 105 = .ok (.iload_n 1, 1) := by decide +kernel
theorem d_MO_threshold_106 : decode b_MO_threshold 106 = .ok (.iaload, 1) := by decide +kernel
theorem d_MO_threshold_107 : decode b_MO_threshold 107 = .ok (.if_icmp .ge 45, 3) := by decide +kernel
theorem d_MO_threshold_110 : decode b_MO_threshold 110 = .ok (.iload 4, 2) := by decide +kernel
theorem d_MO_threshold_112 : decode b_MO_threshold 112 = .ok (.iload 7, 2) := by decide +kernel
theorem d_MO_threshold_114 : decode b_MO_threshold 114 = .ok (.ishr, 1) := by decide +kernel
theorem d_MO_threshold_115 : decode b_MO_threshold 115 = .ok (.iconst 1, 1) := by decide +kernel
theorem d_MO_threshold_116 : decode b_MO_threshold 116 = .ok (.iand, 1) := by decide +kernel
theorem d_MO_threshold_117 : decode b_MO_threshold 117 = .ok (.ifCond .ne 29, 3) := by decide +kernel
theorem d_MO_threshold_120 : decode b_MO_threshold 120 = .ok (.iload 6, 2) := by decide +kernel
theorem d_MO_threshold_122 : decode b_MO_threshold 122 = .ok (.ifCond .lt 20, 3) := by decide +kernel
theorem d_MO_threshold_125 : decode b_MO_threshold 125 = .ok (.aload_n 0, 1) := by decide +kernel
theorem d_MO_threshold_126 : decode b_MO_threshold 126 = .ok (.iload_n 1, 1) := by decide +kernel
theorem d_MO_threshold_127 : decode b_MO_threshold 127 = .ok (.iload 7, 2) := by decide +kernel
theorem d_MO_threshold_129 : decode b_MO_threshold 129 = .ok (.invokevirtual 198, 3) := by decide +kernel
theorem d_MO_threshold_132 : decode b_MO_threshold 132 = .ok (.aload_n 0, 1) := by decide +kernel
theorem d_MO_threshold_133 : decode b_MO_threshold 133 = .ok (.iload_n 1, 1) := by decide +kernel
theorem d_MO_threshold_134 : decode b_MO_threshold 134 = .ok (.iload 6, 2) := by decide +kernel
theorem d_MO_threshold_136 : decode b_MO_threshold 136 = .ok (.invokevirtual 198, 3) := by decide +kernel
theorem d_MO_threshold_139 : decode b_MO_threshold 139 = .ok (.if_icmp .le 7, 3) := by decide +kernel
theorem d_MO_threshold_142 : decode b_MO_threshold 142 = .ok (.iload 7, 2) := by decide +kernel
theorem d_MO_threshold_144 : decode b_MO_threshold 144 = .ok (.istore 6, 2) := by decide +kernel
theorem d_MO_threshold_146 : decode b_MO_threshold 146 = .ok (.iinc 7 1, 3) := by decide +kernel
theorem d_MO_threshold_149 : decode b_MO_threshold 149 = .ok (.goto (-50), 3) := by decide +kernel
theorem d_MO_threshold_152 : decode b_MO_threshold 152 = .ok (.iload 4, 2) := by decide +kernel
theorem d_MO_threshold_154 : decode b_MO_threshold 154 = .ok (.iconst 1, 1) := by decide +kernel
theorem d_MO_threshold_155 : decode b_MO_threshold 155 = .ok (.iload 6, 2) := by decide +kernel
theorem d_MO_threshold_157 : decode b_MO_threshold 157 = .ok (.ishl, 1) := by decide +kernel
theorem d_MO_threshold_158 : decode b_MO_threshold 158 = .ok (.ior, 1) := by decide +kernel
theorem d_MO_threshold_159 : decode b_MO_threshold 159 = .ok (.istore 4, 2) := by decide +kernel
theorem d_MO_threshold_161 : decode b_MO_threshold 161 = .ok (.iload_n 3, 1) := by decide +kernel
theorem d_MO_threshold_162 : decode b_MO_threshold 162 = .ok (.aload_n 0, 1) := by decide +kernel
theorem d_MO_threshold_163 : decode b_MO_threshold 163 = .ok (.iload_n 1, 1) := by decide +kernel
theorem d_MO_threshold_164 : decode b_MO_threshold 164 = .ok (.iload 6, 2) := by decide +kernel
theorem d_MO_threshold_166 : decode b_MO_threshold 166 = .ok (.invokevirtual 198, 3) := by decide +kernel
theorem d_MO_threshold_169 : decode b_MO_threshold 169 = .ok (.iadd, 1) := by decide +kernel
theorem d_MO_threshold_170 : decode b_MO_threshold 170 = .ok (.istore_n 3, 1) := by decide +kernel
theorem d_MO_threshold_171 : decode b_MO_threshold 171 = .ok (.iinc 5 1, 3) := by decide +kernel
theorem d_MO_threshold_174 : decode b_MO_threshold 174 = .ok (.goto (-92), 3) := by decide +kernel
theorem d_MO_threshold_177 : decode b_MO_threshold 177 = .ok (.aload_n 0, 1) := by decide +kernel
theorem d_MO_threshold_178 : decode b_MO_threshold 178 = .ok (.iload_n 2, 1) := by decide +kernel
theorem d_MO_threshold_179 : decode b_MO_threshold 179 = .ok (.iload_n 3, 1) := by decide +kernel
theorem d_MO_threshold_180 : decode b_MO_threshold 180 = .ok (.invokevirtual 188, 3) := by decide +kernel
theorem d_MO_threshold_183 : decode b_MO_threshold 183 = .ok (.return_, 1) := by decide +kernel
theorem lk_MO_198 : ab_lk "PolicyForgeModel" 198 y_MO_gain b_MO_gain 4 (some FieldType.int) 2 17 := ⟨⟨rfl, T_MO, 44, rfl⟩, List.forall_mem_cons.mpr ⟨(ab_in 1150 (by decide +kernel) (by decide +kernel)), List.forall_mem_cons.mpr ⟨(ab_in 1152 (by decide +kernel) (by decide +kernel)), List.forall_mem_cons.mpr ⟨(ab_in 60 (by decide +kernel) (by decide +kernel)), List.forall_mem_cons.mpr ⟨(ab_in 100 (by decide +kernel) (by decide +kernel)), List.forall_mem_cons.mpr ⟨(ab_in 1153 (by decide +kernel) (by decide +kernel)), fun _ h => absurd h List.not_mem_nil⟩⟩⟩⟩⟩, ⟨by decide +kernel, by decide +kernel, by decide +kernel⟩, by decide⟩
set_option maxRecDepth 100000 in
set_option maxHeartbeats 1000000 in
theorem s_MO_threshold (u : ab_S) (P : Nat) (kd ar cn lf : Nat → Nat) (ch : Nat → Nat → Nat) (W : tW P kd ar cn lf ch) (T : tR P kd ar cn ch u) (p1 : Nat) (h : mR u.2.1) (hp : p1 < P) (hk : kd p1 = 7) (hl : ∀ c, p1 < c → c < P → lk u (3 * c) ∧ lk u (3 * c + 1) ∧ lk u (3 * c + 2)) : ab_C false l D ca y_MO_threshold b_MO_threshold 8 none 2 ab_nQ u [ab_O 17 0, ab_I (nI p1)] (fun u' v => (gP [18, 19] u u' ∧ u'.1 17 0 18 = nI  (wl u p1 (cn p1) (ch p1) 7)) ∧ v = none) := by
  refine ab_C.of (by decide) (Nat.le_of_ble_eq_true rfl) ?_
  intro p e s m args below meth c ad X hZ hr0 hlk
  have P0 : gP [18, 19] u u := gP.rf h
  obtain ⟨w1, w2, w3⟩ := W
  obtain ⟨n2, n4, -, hka, b5, b6⟩ := (w3 p1 hp).2.2 (by omega)
  obtain ⟨a1, a2⟩ := hka hk
  obtain ⟨-, ea, ec, ech⟩ := T.2 p1 hp
  have out2 : ∀ (k t g : Nat) (y : Int32), k + t = ar p1 → g < 2 ^ cn p1 → pcn g = t → ab_J p l e (ab_rm 2 0 0) s m args below meth c (MQ below (ab_Q D ca ad ab_nQ s.heap.size (fun u' v => (gP [18, 19] u u' ∧ u'.1 17 0 18 = nI  (wl u p1 (cn p1) (ch p1) 7)) ∧ v = none)) args s 0 0 (ab_A ad ab_nQ s.heap.size)) D ca (ab_A ad ab_nQ s.heap.size) s.heap 8 0 0 ad ab_nQ u 82 [(5, ab_I (nI t)), (4, ab_I (nI g)), (3, ab_I y), (2, ab_I (nI (1 + sm (fun i => lnu u (3 * ch p1 i + 1) + (if 0 < i then 3 else 0)) (cn p1)))), (0, ab_O 17 0), (1, ab_I (nI p1))] [] := by
    intro k
    induction k with
    | zero =>
      intro t g y ht hg hc
      refine ab_iload X 0 d_MO_threshold_82 rfl ?_
      refine ab_aload_n X 4 d_MO_threshold_84 rfl rfl ?_
      refine ab_gR X fl_MO_36 d_MO_threshold_85 (by first | assumption | decide | (show _ < 124; omega) | (show _ < 61; omega) | (show _ < 20; omega)) (P0.1.mo8) ?_
      refine ab_iload_n X 5 d_MO_threshold_88 rfl rfl ?_
      refine ab_iald X (p1) ⟨rfl, rfl⟩ d_MO_threshold_89 (by first | assumption | decide | (show _ < 124; omega) | (show _ < 61; omega) | (show _ < 20; omega)) (rfl) (show p1 < 40 by omega) (ab_ln_lt _ _) ?_
      refine ab_top ea ?_
      refine ab_icmp_ge X 177 d_MO_threshold_90 rfl (fun _ => ?_) (fun hb => absurd ((nI_le (by omega) (by omega))) hb)
      refine ab_aload_n X 4 d_MO_threshold_177 rfl rfl ?_
      refine ab_iload_n X 3 d_MO_threshold_178 rfl rfl ?_
      refine ab_iload_n X 2 d_MO_threshold_179 rfl rfl ?_
      refine ab_callV (as := [ab_I _, ab_I _]) X (fun h => by cases h) (s_MO_is u _ _ h) lk_MO_188 d_MO_threshold_180 rfl rfl (by first | assumption | decide | (show _ < 124; omega) | (show _ < 61; omega) | (show _ < 20; omega)) ⟨by first | exact Nat.le_of_ble_eq_true rfl | (simp only [ab_rm]; omega), by first | exact Nat.le_of_ble_eq_true rfl | (simp only [ab_rm]; omega)⟩ ⟨by first | exact Nat.le_of_ble_eq_true rfl | (simp only [ab_rm]; omega), by first | exact Nat.le_of_ble_eq_true rfl | (simp only [ab_rm]; omega)⟩ (Nat.le_of_ble_eq_true rfl) (fun u180 r180 h180 => ?_)
      obtain ⟨⟨q180, a180⟩, rfl⟩ := h180
      have P180 := P0.trans q180 (by decide)
      exact ab_retv X hr0 hlk d_MO_threshold_183 ⟨⟨P180, a180⟩, rfl⟩
    | succ k ih =>
      intro t g y ht hg hc
      have g16 := th_lt (cn p1) (by omega) g hg
      have inn : ∀ (k i : Nat) (mo : Int32), k + i = cn p1 → ((mo = -1 ∧ ∀ q, q < i → g / 2 ^ q % 2 = 1) ∨ ∃ q, q < i ∧ mo = nI q ∧ g / 2 ^ q % 2 = 0) → ab_J p l e (ab_rm 2 0 0) s m args below meth c (MQ below (ab_Q D ca ad ab_nQ s.heap.size (fun u' v => (gP [18, 19] u u' ∧ u'.1 17 0 18 = nI  (wl u p1 (cn p1) (ch p1) 7)) ∧ v = none)) args s 0 0 (ab_A ad ab_nQ s.heap.size)) D ca (ab_A ad ab_nQ s.heap.size) s.heap 8 0 0 ad ab_nQ u 99 [(7, ab_I (nI i)), (6, ab_I mo), (5, ab_I (nI t)), (4, ab_I (nI g)), (3, ab_I y), (2, ab_I (nI (1 + sm (fun i => lnu u (3 * ch p1 i + 1) + (if 0 < i then 3 else 0)) (cn p1)))), (0, ab_O 17 0), (1, ab_I (nI p1))] [] := by
        intro k
        induction k with
        | zero =>
          intro i mo hi hm
          obtain rfl : i = cn p1 := by omega
          obtain ⟨q, hq, rfl, hb⟩ : ∃ q, q < cn p1 ∧ mo = nI q ∧ g / 2 ^ q % 2 = 0 := by
            rcases hm with ⟨-, hm⟩ | hm
            · have := th_full (cn p1) (by omega) g g16 hm hg
              omega
            · exact hm
          have z1 := th_add1 (cn p1) (by omega) g g16 q (by omega) ⟨hq, hg, hb⟩
          have z2 := th_add2 g g16 q (by omega) hb
          obtain ⟨c1, c2⟩ := b5 q hq
          refine ab_iload X 0 d_MO_threshold_99 rfl ?_
          refine ab_aload_n X 6 d_MO_threshold_101 rfl rfl ?_
          refine ab_gR X fl_MO_39 d_MO_threshold_102 (by first | assumption | decide | (show _ < 124; omega) | (show _ < 61; omega) | (show _ < 20; omega)) (P0.1.mo9) ?_
          refine ab_iload_n X 7 d_MO_threshold_105 rfl rfl ?_
          refine ab_iald X (p1) ⟨rfl, rfl⟩ d_MO_threshold_106 (by first | assumption | decide | (show _ < 124; omega) | (show _ < 61; omega) | (show _ < 20; omega)) (rfl) (show p1 < 40 by omega) (ab_ln_lt _ _) ?_
          refine ab_top ec ?_
          refine ab_icmp_ge X 152 d_MO_threshold_107 rfl (fun _ => ?_) (fun hb => absurd ((nI_le (Nat.le_refl _) (by omega))) hb)
          refine ab_iload X 3 d_MO_threshold_152 rfl ?_
          refine ab_iconst (v := 1) X d_MO_threshold_154 (by decide) ?_
          refine ab_iload X 1 d_MO_threshold_155 rfl ?_
          refine ab_ishl X d_MO_threshold_157 ?_
          refine ab_ior X d_MO_threshold_158 ?_
          refine ab_top (th_or g g16 q (by omega) hb) ?_
          refine ab_istore7 X 0 1 2 4 5 6 7 d_MO_threshold_159 (by decide) rfl rfl rfl rfl rfl rfl rfl rfl rfl rfl rfl rfl rfl rfl ?_
          refine ab_iload_n X 4 d_MO_threshold_161 rfl rfl ?_
          refine ab_aload_n X 6 d_MO_threshold_162 rfl rfl ?_
          refine ab_iload_n X 7 d_MO_threshold_163 rfl rfl ?_
          refine ab_iload X 2 d_MO_threshold_164 rfl ?_
          refine ab_callV (as := [ab_I (nI p1), ab_I (nI q)]) X (fun h => by cases h) (t_MO_gain u p1 q (ch p1 q) h (by omega) (by omega) (ech q hq)) lk_MO_198 d_MO_threshold_166 rfl rfl (by first | assumption | decide | (show _ < 124; omega) | (show _ < 61; omega) | (show _ < 20; omega)) ⟨by first | exact Nat.le_of_ble_eq_true rfl | (simp only [ab_rm]; omega), by first | exact Nat.le_of_ble_eq_true rfl | (simp only [ab_rm]; omega)⟩ ⟨by first | exact Nat.le_of_ble_eq_true rfl | (simp only [ab_rm]; omega), by first | exact Nat.le_of_ble_eq_true rfl | (simp only [ab_rm]; omega)⟩ (Nat.le_of_ble_eq_true rfl) (fun u166 r166 h166 => ?_)
          obtain ⟨e166, x166, rfl⟩ := h166
          subst u166
          refine ab_iadd X d_MO_threshold_169 ?_
          refine ab_istore_n7 X 0 1 2 3 5 6 7 d_MO_threshold_170 rfl (by decide) rfl rfl rfl rfl rfl rfl rfl rfl rfl rfl rfl rfl rfl rfl ?_
          refine ab_iinc7 X 4 0 1 2 3 5 6 7 d_MO_threshold_171 rfl (by decide) rfl rfl rfl rfl rfl rfl rfl rfl rfl rfl rfl rfl rfl rfl ?_
          refine ab_goto X 82 d_MO_threshold_174 rfl ?_
          refine ab_lv (List.forall_mem_cons.mpr ⟨List.mem_of_getElem? (i := 0) rfl, List.forall_mem_cons.mpr ⟨List.mem_of_getElem? (i := 2) rfl, List.forall_mem_cons.mpr ⟨List.mem_of_getElem? (i := 1) rfl, List.forall_mem_cons.mpr ⟨List.mem_of_getElem? (i := 5) rfl, List.forall_mem_cons.mpr ⟨List.mem_of_getElem? (i := 6) rfl, List.forall_mem_cons.mpr ⟨List.mem_of_getElem? (i := 7) rfl, fun _ h => absurd h List.not_mem_nil⟩⟩⟩⟩⟩⟩) ?_
          rw [show nI t + Int32.ofInt 1 = nI (t + 1) from nI_1 t]
          exact ih (t + 1) _ _ (by omega) z1 (by omega)
        | succ k ih2 =>
          intro i mo hi hm
          have hbit := th_bit g g16 i (by omega)
          obtain ⟨c1, c2⟩ := b5 i (by omega)
          have hb2 : g / 2 ^ i % 2 = 0 ∨ g / 2 ^ i % 2 = 1 := by omega
          rcases hm with ⟨rfl, hm⟩ | ⟨q, hq, rfl, hb⟩
          · rcases hb2 with hbi | hbi
            ·
              refine ab_iload X 0 d_MO_threshold_99 rfl ?_
              refine ab_aload_n X 6 d_MO_threshold_101 rfl rfl ?_
              refine ab_gR X fl_MO_39 d_MO_threshold_102 (by first | assumption | decide | (show _ < 124; omega) | (show _ < 61; omega) | (show _ < 20; omega)) (P0.1.mo9) ?_
              refine ab_iload_n X 7 d_MO_threshold_105 rfl rfl ?_
              refine ab_iald X (p1) ⟨rfl, rfl⟩ d_MO_threshold_106 (by first | assumption | decide | (show _ < 124; omega) | (show _ < 61; omega) | (show _ < 20; omega)) (rfl) (show p1 < 40 by omega) (ab_ln_lt _ _) ?_
              refine ab_top ec ?_
              refine ab_icmp_ge X 152 d_MO_threshold_107 rfl (fun hb => absurd hb ((nI_ge (by omega) (by omega)))) (fun _ => ?_)
              refine ab_iload X 3 d_MO_threshold_110 rfl ?_
              refine ab_iload X 0 d_MO_threshold_112 rfl ?_
              refine ab_ishr X d_MO_threshold_114 ?_
              refine ab_iconst (v := 1) X d_MO_threshold_115 (by decide) ?_
              refine ab_iand X d_MO_threshold_116 ?_
              refine ab_top hbit ?_
              refine ab_if_ne X 146 d_MO_threshold_117 rfl (fun hb => absurd ((by rw [hbi]; rfl)) hb) (fun _ => ?_)
              refine ab_iload X 1 d_MO_threshold_120 rfl ?_
              refine ab_if_lt X 142 d_MO_threshold_122 rfl (fun _ => ?_) (fun hb => absurd ((by decide)) hb)
              refine ab_iload X 0 d_MO_threshold_142 rfl ?_
              refine ab_istore7 X 0 2 3 4 5 6 7 d_MO_threshold_144 (by decide) rfl rfl rfl rfl rfl rfl rfl rfl rfl rfl rfl rfl rfl rfl ?_
              refine ab_iinc7 X 1 0 2 3 4 5 6 7 d_MO_threshold_146 rfl (by decide) rfl rfl rfl rfl rfl rfl rfl rfl rfl rfl rfl rfl rfl rfl ?_
              refine ab_goto X 99 d_MO_threshold_149 rfl ?_
              rw [show nI i + Int32.ofInt 1 = nI (i + 1) from nI_1 i]
              exact ih2 (i + 1) _ (by omega) (Or.inr ⟨i, by omega, rfl, hbi⟩)
            ·
              refine ab_iload X 0 d_MO_threshold_99 rfl ?_
              refine ab_aload_n X 6 d_MO_threshold_101 rfl rfl ?_
              refine ab_gR X fl_MO_39 d_MO_threshold_102 (by first | assumption | decide | (show _ < 124; omega) | (show _ < 61; omega) | (show _ < 20; omega)) (P0.1.mo9) ?_
              refine ab_iload_n X 7 d_MO_threshold_105 rfl rfl ?_
              refine ab_iald X (p1) ⟨rfl, rfl⟩ d_MO_threshold_106 (by first | assumption | decide | (show _ < 124; omega) | (show _ < 61; omega) | (show _ < 20; omega)) (rfl) (show p1 < 40 by omega) (ab_ln_lt _ _) ?_
              refine ab_top ec ?_
              refine ab_icmp_ge X 152 d_MO_threshold_107 rfl (fun hb => absurd hb ((nI_ge (by omega) (by omega)))) (fun _ => ?_)
              refine ab_iload X 3 d_MO_threshold_110 rfl ?_
              refine ab_iload X 0 d_MO_threshold_112 rfl ?_
              refine ab_ishr X d_MO_threshold_114 ?_
              refine ab_iconst (v := 1) X d_MO_threshold_115 (by decide) ?_
              refine ab_iand X d_MO_threshold_116 ?_
              refine ab_top hbit ?_
              refine ab_if_ne X 146 d_MO_threshold_117 rfl (fun _ => ?_) (fun hb => absurd hb ((by rw [hbi]; decide)))
              refine ab_iinc7 X 0 1 2 3 4 5 6 7 d_MO_threshold_146 rfl (by decide) rfl rfl rfl rfl rfl rfl rfl rfl rfl rfl rfl rfl rfl rfl ?_
              refine ab_goto X 99 d_MO_threshold_149 rfl ?_
              rw [show nI i + Int32.ofInt 1 = nI (i + 1) from nI_1 i]
              exact ih2 (i + 1) _ (by omega) (Or.inl ⟨rfl, fun q' hq' => by by_cases z : q' = i; (rw [z]; exact hbi); exact hm q' (by omega)⟩)
          · obtain ⟨d1, d2⟩ := b5 q (by omega)
            rcases hb2 with hbi | hbi
            ·
              refine ab_iload X 0 d_MO_threshold_99 rfl ?_
              refine ab_aload_n X 6 d_MO_threshold_101 rfl rfl ?_
              refine ab_gR X fl_MO_39 d_MO_threshold_102 (by first | assumption | decide | (show _ < 124; omega) | (show _ < 61; omega) | (show _ < 20; omega)) (P0.1.mo9) ?_
              refine ab_iload_n X 7 d_MO_threshold_105 rfl rfl ?_
              refine ab_iald X (p1) ⟨rfl, rfl⟩ d_MO_threshold_106 (by first | assumption | decide | (show _ < 124; omega) | (show _ < 61; omega) | (show _ < 20; omega)) (rfl) (show p1 < 40 by omega) (ab_ln_lt _ _) ?_
              refine ab_top ec ?_
              refine ab_icmp_ge X 152 d_MO_threshold_107 rfl (fun hb => absurd hb ((nI_ge (by omega) (by omega)))) (fun _ => ?_)
              refine ab_iload X 3 d_MO_threshold_110 rfl ?_
              refine ab_iload X 0 d_MO_threshold_112 rfl ?_
              refine ab_ishr X d_MO_threshold_114 ?_
              refine ab_iconst (v := 1) X d_MO_threshold_115 (by decide) ?_
              refine ab_iand X d_MO_threshold_116 ?_
              refine ab_top hbit ?_
              refine ab_if_ne X 146 d_MO_threshold_117 rfl (fun hb => absurd ((by rw [hbi]; rfl)) hb) (fun _ => ?_)
              refine ab_iload X 1 d_MO_threshold_120 rfl ?_
              refine ab_if_lt X 142 d_MO_threshold_122 rfl (fun hb => absurd hb ((nI_pos (by omega)))) (fun _ => ?_)
              refine ab_aload_n X 6 d_MO_threshold_125 rfl rfl ?_
              refine ab_iload_n X 7 d_MO_threshold_126 rfl rfl ?_
              refine ab_iload X 0 d_MO_threshold_127 rfl ?_
              refine ab_callV (as := [ab_I (nI p1), ab_I (nI i)]) X (fun h => by cases h) (t_MO_gain u p1 i (ch p1 i) h (by omega) (by omega) (ech i (by omega))) lk_MO_198 d_MO_threshold_129 rfl rfl (by first | assumption | decide | (show _ < 124; omega) | (show _ < 61; omega) | (show _ < 20; omega)) ⟨by first | exact Nat.le_of_ble_eq_true rfl | (simp only [ab_rm]; omega), by first | exact Nat.le_of_ble_eq_true rfl | (simp only [ab_rm]; omega)⟩ ⟨by first | exact Nat.le_of_ble_eq_true rfl | (simp only [ab_rm]; omega), by first | exact Nat.le_of_ble_eq_true rfl | (simp only [ab_rm]; omega)⟩ (Nat.le_of_ble_eq_true rfl) (fun u129 r129 h129 => ?_)
              obtain ⟨e129, x129, rfl⟩ := h129
              subst u129
              refine ab_aload_n X 6 d_MO_threshold_132 rfl rfl ?_
              refine ab_iload_n X 7 d_MO_threshold_133 rfl rfl ?_
              refine ab_iload X 1 d_MO_threshold_134 rfl ?_
              refine ab_callV (as := [ab_I (nI p1), ab_I (nI q)]) X (fun h => by cases h) (t_MO_gain u p1 q (ch p1 q) h (by omega) (by omega) (ech q (by omega))) lk_MO_198 d_MO_threshold_136 rfl rfl (by first | assumption | decide | (show _ < 124; omega) | (show _ < 61; omega) | (show _ < 20; omega)) ⟨by first | exact Nat.le_of_ble_eq_true rfl | (simp only [ab_rm]; omega), by first | exact Nat.le_of_ble_eq_true rfl | (simp only [ab_rm]; omega)⟩ ⟨by first | exact Nat.le_of_ble_eq_true rfl | (simp only [ab_rm]; omega), by first | exact Nat.le_of_ble_eq_true rfl | (simp only [ab_rm]; omega)⟩ (Nat.le_of_ble_eq_true rfl) (fun u136 r136 h136 => ?_)
              obtain ⟨e136, x136, rfl⟩ := h136
              subst u136
              refine ab_icmp_le X 146 d_MO_threshold_139 rfl (fun h139 => ?_) (fun h139 => ?_)
              ·
                refine ab_iinc7 X 0 1 2 3 4 5 6 7 d_MO_threshold_146 rfl (by decide) rfl rfl rfl rfl rfl rfl rfl rfl rfl rfl rfl rfl rfl rfl ?_
                refine ab_goto X 99 d_MO_threshold_149 rfl ?_
                rw [show nI i + Int32.ofInt 1 = nI (i + 1) from nI_1 i]
                first | exact ih2 (i + 1) (nI q) (by omega) (Or.inr ⟨q, by omega, rfl, hb⟩) | exact ih2 (i + 1) (nI i) (by omega) (Or.inr ⟨i, by omega, rfl, hbi⟩)
              ·
                refine ab_iload X 0 d_MO_threshold_142 rfl ?_
                refine ab_istore7 X 0 2 3 4 5 6 7 d_MO_threshold_144 (by decide) rfl rfl rfl rfl rfl rfl rfl rfl rfl rfl rfl rfl rfl rfl ?_
                refine ab_iinc7 X 1 0 2 3 4 5 6 7 d_MO_threshold_146 rfl (by decide) rfl rfl rfl rfl rfl rfl rfl rfl rfl rfl rfl rfl rfl rfl ?_
                refine ab_goto X 99 d_MO_threshold_149 rfl ?_
                rw [show nI i + Int32.ofInt 1 = nI (i + 1) from nI_1 i]
                first | exact ih2 (i + 1) (nI q) (by omega) (Or.inr ⟨q, by omega, rfl, hb⟩) | exact ih2 (i + 1) (nI i) (by omega) (Or.inr ⟨i, by omega, rfl, hbi⟩)
            ·
              refine ab_iload X 0 d_MO_threshold_99 rfl ?_
              refine ab_aload_n X 6 d_MO_threshold_101 rfl rfl ?_
              refine ab_gR X fl_MO_39 d_MO_threshold_102 (by first | assumption | decide | (show _ < 124; omega) | (show _ < 61; omega) | (show _ < 20; omega)) (P0.1.mo9) ?_
              refine ab_iload_n X 7 d_MO_threshold_105 rfl rfl ?_
              refine ab_iald X (p1) ⟨rfl, rfl⟩ d_MO_threshold_106 (by first | assumption | decide | (show _ < 124; omega) | (show _ < 61; omega) | (show _ < 20; omega)) (rfl) (show p1 < 40 by omega) (ab_ln_lt _ _) ?_
              refine ab_top ec ?_
              refine ab_icmp_ge X 152 d_MO_threshold_107 rfl (fun hb => absurd hb ((nI_ge (by omega) (by omega)))) (fun _ => ?_)
              refine ab_iload X 3 d_MO_threshold_110 rfl ?_
              refine ab_iload X 0 d_MO_threshold_112 rfl ?_
              refine ab_ishr X d_MO_threshold_114 ?_
              refine ab_iconst (v := 1) X d_MO_threshold_115 (by decide) ?_
              refine ab_iand X d_MO_threshold_116 ?_
              refine ab_top hbit ?_
              refine ab_if_ne X 146 d_MO_threshold_117 rfl (fun _ => ?_) (fun hb => absurd hb ((by rw [hbi]; decide)))
              refine ab_iinc7 X 0 1 2 3 4 5 6 7 d_MO_threshold_146 rfl (by decide) rfl rfl rfl rfl rfl rfl rfl rfl rfl rfl rfl rfl rfl rfl ?_
              refine ab_goto X 99 d_MO_threshold_149 rfl ?_
              rw [show nI i + Int32.ofInt 1 = nI (i + 1) from nI_1 i]
              exact ih2 (i + 1) _ (by omega) (Or.inr ⟨q, by omega, rfl, hb⟩)
      refine ab_iload X 0 d_MO_threshold_82 rfl ?_
      refine ab_aload_n X 4 d_MO_threshold_84 rfl rfl ?_
      refine ab_gR X fl_MO_36 d_MO_threshold_85 (by first | assumption | decide | (show _ < 124; omega) | (show _ < 61; omega) | (show _ < 20; omega)) (P0.1.mo8) ?_
      refine ab_iload_n X 5 d_MO_threshold_88 rfl rfl ?_
      refine ab_iald X (p1) ⟨rfl, rfl⟩ d_MO_threshold_89 (by first | assumption | decide | (show _ < 124; omega) | (show _ < 61; omega) | (show _ < 20; omega)) (rfl) (show p1 < 40 by omega) (ab_ln_lt _ _) ?_
      refine ab_top ea ?_
      refine ab_icmp_ge X 177 d_MO_threshold_90 rfl (fun hb => absurd hb ((nI_ge (by omega) (by omega)))) (fun _ => ?_)
      refine ab_iconst (v := (-1)) X d_MO_threshold_93 (by decide) ?_
      refine ab_istore6 X 0 1 2 3 4 5 d_MO_threshold_94 (by decide) rfl rfl rfl rfl rfl rfl rfl rfl rfl rfl rfl rfl ?_
      refine ab_iconst (v := 0) X d_MO_threshold_96 (by decide) ?_
      refine ab_istore7 X 0 1 2 3 4 5 6 d_MO_threshold_97 (by decide) rfl rfl rfl rfl rfl rfl rfl rfl rfl rfl rfl rfl rfl rfl ?_
      exact inn (cn p1) 0 _ (by omega) (Or.inl ⟨rfl, fun q hq => absurd hq (by omega)⟩)
  have out1 : ∀ (k j : Nat) (y : Int32), k + j = cn p1 → ab_J p l e (ab_rm 2 0 0) s m args below meth c (MQ below (ab_Q D ca ad ab_nQ s.heap.size (fun u' v => (gP [18, 19] u u' ∧ u'.1 17 0 18 = nI  (wl u p1 (cn p1) (ch p1) 7)) ∧ v = none)) args s 0 0 (ab_A ad ab_nQ s.heap.size)) D ca (ab_A ad ab_nQ s.heap.size) s.heap 8 0 0 ad ab_nQ u 10 [(5, ab_I (nI j)), (4, ab_I (nI 0)), (3, ab_I y), (2, ab_I (nI (1 + sm (fun i => lnu u (3 * ch p1 i + 1) + (if 0 < i then 3 else 0)) j))), (0, ab_O 17 0), (1, ab_I (nI p1))] [] := by
    intro k
    induction k with
    | zero =>
      intro j y hj
      obtain rfl : j = cn p1 := by omega
      refine ab_iload X 0 d_MO_threshold_10 rfl ?_
      refine ab_aload_n X 4 d_MO_threshold_12 rfl rfl ?_
      refine ab_gR X fl_MO_39 d_MO_threshold_13 (by first | assumption | decide | (show _ < 124; omega) | (show _ < 61; omega) | (show _ < 20; omega)) (P0.1.mo9) ?_
      refine ab_iload_n X 5 d_MO_threshold_16 rfl rfl ?_
      refine ab_iald X (p1) ⟨rfl, rfl⟩ d_MO_threshold_17 (by first | assumption | decide | (show _ < 124; omega) | (show _ < 61; omega) | (show _ < 20; omega)) (rfl) (show p1 < 40 by omega) (ab_ln_lt _ _) ?_
      refine ab_top ec ?_
      refine ab_icmp_ge X 79 d_MO_threshold_18 rfl (fun _ => ?_) (fun hb => absurd ((nI_le (Nat.le_refl _) (by omega))) hb)
      refine ab_iconst (v := 0) X d_MO_threshold_79 (by decide) ?_
      refine ab_istore5 X 1 2 3 4 5 d_MO_threshold_80 (by decide) rfl rfl rfl rfl rfl rfl rfl rfl rfl rfl ?_
      exact out2 (ar p1) 0 0 _ (by omega) (Nat.pow_pos (by decide)) rfl
    | succ k ih =>
      intro j y hj
      obtain ⟨c1', c2⟩ := b5 j (by omega)
      obtain ⟨l1, l2, l3⟩ := hl (ch p1 j) c1' c2
      refine ab_iload X 0 d_MO_threshold_10 rfl ?_
      refine ab_aload_n X 4 d_MO_threshold_12 rfl rfl ?_
      refine ab_gR X fl_MO_39 d_MO_threshold_13 (by first | assumption | decide | (show _ < 124; omega) | (show _ < 61; omega) | (show _ < 20; omega)) (P0.1.mo9) ?_
      refine ab_iload_n X 5 d_MO_threshold_16 rfl rfl ?_
      refine ab_iald X (p1) ⟨rfl, rfl⟩ d_MO_threshold_17 (by first | assumption | decide | (show _ < 124; omega) | (show _ < 61; omega) | (show _ < 20; omega)) (rfl) (show p1 < 40 by omega) (ab_ln_lt _ _) ?_
      refine ab_top ec ?_
      refine ab_icmp_ge X 79 d_MO_threshold_18 rfl (fun hb => absurd hb ((nI_ge (by omega) (by omega)))) (fun _ => ?_)
      refine ab_iload_n X 3 d_MO_threshold_21 rfl rfl ?_
      refine ab_aload_n X 4 d_MO_threshold_22 rfl rfl ?_
      refine ab_gR X fl_MO_48 d_MO_threshold_23 (by first | assumption | decide | (show _ < 124; omega) | (show _ < 61; omega) | (show _ < 20; omega)) (P0.1.mo12) ?_
      refine ab_aload_n X 4 d_MO_threshold_26 rfl rfl ?_
      refine ab_gR X fl_MO_42 d_MO_threshold_27 (by first | assumption | decide | (show _ < 124; omega) | (show _ < 61; omega) | (show _ < 20; omega)) (P0.1.mo10) ?_
      refine ab_iconst (v := 4) X d_MO_threshold_30 (by decide) ?_
      refine ab_iload_n X 5 d_MO_threshold_31 rfl rfl ?_
      refine ab_imul X d_MO_threshold_32 ?_
      refine ab_iload X 0 d_MO_threshold_33 rfl ?_
      refine ab_iadd X d_MO_threshold_35 ?_
      refine ab_iald X (4 * p1 + j) ⟨rfl, rfl⟩ d_MO_threshold_36 (by first | assumption | decide | (show _ < 124; omega) | (show _ < 61; omega) | (show _ < 20; omega)) (nI_4a p1 j) (show 4 * p1 + j < 160 by omega) (ab_ln_lt _ _) ?_
      refine ab_top (ech j (by omega)) ?_
      refine ab_callS (as := [ab_I (nI (ch p1 j))]) X (fun h => by cases h) (t_MO_d u (ch p1 j)) ls_MO_195 d_MO_threshold_37 rfl rfl ⟨by first | exact Nat.le_of_ble_eq_true rfl | (simp only [ab_rm]; omega), by first | exact Nat.le_of_ble_eq_true rfl | (simp only [ab_rm]; omega)⟩ ⟨by first | exact Nat.le_of_ble_eq_true rfl | (simp only [ab_rm]; omega), by first | exact Nat.le_of_ble_eq_true rfl | (simp only [ab_rm]; omega)⟩ (Nat.le_of_ble_eq_true rfl) (fun u37 r37 h37 => ?_)
      obtain ⟨e37, rfl⟩ := h37
      subst u37
      refine ab_iald X (3 * ch p1 j + 1) ⟨rfl, rfl⟩ d_MO_threshold_40 (by first | assumption | decide | (show _ < 124; omega) | (show _ < 61; omega) | (show _ < 20; omega)) (rfl) (show 3 * ch p1 j + 1 < 72 by omega) (ab_ln_lt _ _) ?_
      refine ab_top l2.1 ?_
      refine ab_iload X 0 d_MO_threshold_41 rfl ?_
      refine ab_if_le X 50 d_MO_threshold_43 rfl (fun h43 => ?_) (fun h43 => ?_)
      ·
        have hj0 : ¬ 0 < j := fun z => absurd h43 (nI_nle z (by omega))
        refine ab_iconst (v := 0) X d_MO_threshold_50 (by decide) ?_
        refine ab_iadd X d_MO_threshold_51 ?_
        refine ab_top (show _ = nI (lnu u (3 * ch p1 j + 1) + (if 0 < j then 3 else 0)) by first | (rw [if_pos hj0]; exact nI_add _ 3) | (rw [if_neg hj0]; exact nI_add _ 0)) ?_
        refine ab_iadd X d_MO_threshold_52 ?_
        refine ab_top (show _ = nI (1 + sm (fun i => lnu u (3 * ch p1 i + 1) + (if 0 < i then 3 else 0)) (j + 1)) from (nI_add _ _).trans (congrArg nI (Nat.add_assoc _ _ _))) ?_
        refine ab_istore_n5 X 0 1 2 4 5 d_MO_threshold_53 rfl (by decide) rfl rfl rfl rfl rfl rfl rfl rfl rfl rfl ?_
        refine ab_iload_n X 3 d_MO_threshold_54 rfl rfl ?_
        refine ab_aload_n X 4 d_MO_threshold_55 rfl rfl ?_
        refine ab_gR X fl_MO_54 d_MO_threshold_56 (by first | assumption | decide | (show _ < 124; omega) | (show _ < 61; omega) | (show _ < 20; omega)) (P0.1.mo14) ?_
        refine ab_aload_n X 4 d_MO_threshold_59 rfl rfl ?_
        refine ab_gR X fl_MO_42 d_MO_threshold_60 (by first | assumption | decide | (show _ < 124; omega) | (show _ < 61; omega) | (show _ < 20; omega)) (P0.1.mo10) ?_
        refine ab_iconst (v := 4) X d_MO_threshold_63 (by decide) ?_
        refine ab_iload_n X 5 d_MO_threshold_64 rfl rfl ?_
        refine ab_imul X d_MO_threshold_65 ?_
        refine ab_iload X 1 d_MO_threshold_66 rfl ?_
        refine ab_iadd X d_MO_threshold_68 ?_
        refine ab_iald X (4 * p1 + j) ⟨rfl, rfl⟩ d_MO_threshold_69 (by first | assumption | decide | (show _ < 124; omega) | (show _ < 61; omega) | (show _ < 20; omega)) (nI_4a p1 j) (show 4 * p1 + j < 160 by omega) (ab_ln_lt _ _) ?_
        refine ab_top (ech j (by omega)) ?_
        refine ab_iald X (ch p1 j) ⟨rfl, rfl⟩ d_MO_threshold_70 (by first | assumption | decide | (show _ < 124; omega) | (show _ < 61; omega) | (show _ < 20; omega)) (rfl) (show ch p1 j < 24 by omega) (ab_ln_lt _ _) ?_
        refine ab_iadd X d_MO_threshold_71 ?_
        refine ab_istore_n5 X 0 1 2 4 5 d_MO_threshold_72 rfl (by decide) rfl rfl rfl rfl rfl rfl rfl rfl rfl rfl ?_
        refine ab_iinc5 X 2 0 1 3 4 5 d_MO_threshold_73 rfl (by decide) rfl rfl rfl rfl rfl rfl rfl rfl rfl rfl ?_
        refine ab_goto X 10 d_MO_threshold_76 rfl ?_
        refine ab_lv (List.forall_mem_cons.mpr ⟨List.mem_of_getElem? (i := 0) rfl, List.forall_mem_cons.mpr ⟨List.mem_of_getElem? (i := 3) rfl, List.forall_mem_cons.mpr ⟨List.mem_of_getElem? (i := 1) rfl, List.forall_mem_cons.mpr ⟨List.mem_of_getElem? (i := 2) rfl, List.forall_mem_cons.mpr ⟨List.mem_of_getElem? (i := 4) rfl, List.forall_mem_cons.mpr ⟨List.mem_of_getElem? (i := 5) rfl, fun _ h => absurd h List.not_mem_nil⟩⟩⟩⟩⟩⟩) ?_
        rw [show nI j + Int32.ofInt 1 = nI (j + 1) from nI_1 j]
        exact ih (j + 1) _ (by omega)
      ·
        have hj0 : 0 < j := Nat.pos_of_ne_zero (fun z => h43 (by rw [z]; decide))
        refine ab_iconst (v := 3) X d_MO_threshold_46 (by decide) ?_
        refine ab_goto X 51 d_MO_threshold_47 rfl ?_
        refine ab_iadd X d_MO_threshold_51 ?_
        refine ab_top (show _ = nI (lnu u (3 * ch p1 j + 1) + (if 0 < j then 3 else 0)) by first | (rw [if_pos hj0]; exact nI_add _ 3) | (rw [if_neg hj0]; exact nI_add _ 0)) ?_
        refine ab_iadd X d_MO_threshold_52 ?_
        refine ab_top (show _ = nI (1 + sm (fun i => lnu u (3 * ch p1 i + 1) + (if 0 < i then 3 else 0)) (j + 1)) from (nI_add _ _).trans (congrArg nI (Nat.add_assoc _ _ _))) ?_
        refine ab_istore_n5 X 0 1 2 4 5 d_MO_threshold_53 rfl (by decide) rfl rfl rfl rfl rfl rfl rfl rfl rfl rfl ?_
        refine ab_iload_n X 3 d_MO_threshold_54 rfl rfl ?_
        refine ab_aload_n X 4 d_MO_threshold_55 rfl rfl ?_
        refine ab_gR X fl_MO_54 d_MO_threshold_56 (by first | assumption | decide | (show _ < 124; omega) | (show _ < 61; omega) | (show _ < 20; omega)) (P0.1.mo14) ?_
        refine ab_aload_n X 4 d_MO_threshold_59 rfl rfl ?_
        refine ab_gR X fl_MO_42 d_MO_threshold_60 (by first | assumption | decide | (show _ < 124; omega) | (show _ < 61; omega) | (show _ < 20; omega)) (P0.1.mo10) ?_
        refine ab_iconst (v := 4) X d_MO_threshold_63 (by decide) ?_
        refine ab_iload_n X 5 d_MO_threshold_64 rfl rfl ?_
        refine ab_imul X d_MO_threshold_65 ?_
        refine ab_iload X 1 d_MO_threshold_66 rfl ?_
        refine ab_iadd X d_MO_threshold_68 ?_
        refine ab_iald X (4 * p1 + j) ⟨rfl, rfl⟩ d_MO_threshold_69 (by first | assumption | decide | (show _ < 124; omega) | (show _ < 61; omega) | (show _ < 20; omega)) (nI_4a p1 j) (show 4 * p1 + j < 160 by omega) (ab_ln_lt _ _) ?_
        refine ab_top (ech j (by omega)) ?_
        refine ab_iald X (ch p1 j) ⟨rfl, rfl⟩ d_MO_threshold_70 (by first | assumption | decide | (show _ < 124; omega) | (show _ < 61; omega) | (show _ < 20; omega)) (rfl) (show ch p1 j < 24 by omega) (ab_ln_lt _ _) ?_
        refine ab_iadd X d_MO_threshold_71 ?_
        refine ab_istore_n5 X 0 1 2 4 5 d_MO_threshold_72 rfl (by decide) rfl rfl rfl rfl rfl rfl rfl rfl rfl rfl ?_
        refine ab_iinc5 X 2 0 1 3 4 5 d_MO_threshold_73 rfl (by decide) rfl rfl rfl rfl rfl rfl rfl rfl rfl rfl ?_
        refine ab_goto X 10 d_MO_threshold_76 rfl ?_
        refine ab_lv (List.forall_mem_cons.mpr ⟨List.mem_of_getElem? (i := 0) rfl, List.forall_mem_cons.mpr ⟨List.mem_of_getElem? (i := 3) rfl, List.forall_mem_cons.mpr ⟨List.mem_of_getElem? (i := 1) rfl, List.forall_mem_cons.mpr ⟨List.mem_of_getElem? (i := 2) rfl, List.forall_mem_cons.mpr ⟨List.mem_of_getElem? (i := 4) rfl, List.forall_mem_cons.mpr ⟨List.mem_of_getElem? (i := 5) rfl, fun _ h => absurd h List.not_mem_nil⟩⟩⟩⟩⟩⟩) ?_
        rw [show nI j + Int32.ofInt 1 = nI (j + 1) from nI_1 j]
        exact ih (j + 1) _ (by omega)
  refine ab_iconst (v := 1) X d_MO_threshold_0 (by decide) ?_
  refine ab_istore_n2 X 0 1 d_MO_threshold_1 rfl (by decide) rfl rfl rfl rfl ?_
  refine ab_iconst (v := 0) X d_MO_threshold_2 (by decide) ?_
  refine ab_istore_n3 X 0 1 2 d_MO_threshold_3 rfl (by decide) rfl rfl rfl rfl rfl rfl ?_
  refine ab_iconst (v := 0) X d_MO_threshold_4 (by decide) ?_
  refine ab_istore4 X 0 1 2 3 d_MO_threshold_5 (by decide) rfl rfl rfl rfl rfl rfl rfl rfl ?_
  refine ab_iconst (v := 0) X d_MO_threshold_7 (by decide) ?_
  refine ab_istore5 X 0 1 2 3 4 d_MO_threshold_8 (by decide) rfl rfl rfl rfl rfl rfl rfl rfl rfl rfl ?_
  exact out1 (cn p1) 0 _ (by omega)
theorem wl_pos {u : ab_S} {p1 n w : Nat} {cs : Nat → Nat} (h : 1 ≤ wl u p1 n cs w) (hb : wl u p1 n cs w < 2 ^ 31) : ¬ nI (wl u p1 n cs w) ≤ 0 := nI_nle (by omega) hb
theorem sm_le {B C : Nat → Nat} : ∀ (n : Nat), (∀ i, i < n → B i ≤ C i) → sm B n ≤ sm C n := by
  intro n
  induction n with
  | zero => intro _; exact Nat.le_refl _
  | succ n ih => intro h; exact Nat.add_le_add (ih (fun i hi => h i (by omega))) (h n (by omega))
theorem sm_const (k : Nat) : ∀ n : Nat, sm (fun _ => k) n = k * n := by
  intro n
  induction n with
  | zero => rfl
  | succ n ih => show sm (fun _ => k) n + k = k * (n + 1); rw [ih, Nat.mul_succ]
/-- lengths are positive and small -/
theorem wl_range {u : ab_S} {P : Nat} {kd ar cn lf : Nat → Nat} {ch : Nat → Nat → Nat} (W : tW P kd ar cn lf ch) {p1 w : Nat} (hp : p1 < P) (hl : ∀ c, p1 < c → c < P → lk u (3 * c) ∧ lk u (3 * c + 1) ∧ lk u (3 * c + 2)) (hB : w = 8 ∨ w = 24 → lk u (3 * p1)) (hw : ways w) (ha : app (kd p1) (ar p1) (cn p1) w) : 1 ≤ wl u p1 (cn p1) (ch p1) w ∧ wl u p1 (cn p1) (ch p1) w ≤ 1000 := by
  have w3 := (W.2.2 p1 hp).2.2
  by_cases h7 : w = 7 ∨ w = 18
  · have hk : kd p1 = 7 := by unfold app at ha; omega
    obtain ⟨n2, n4, -, -, b5, -⟩ := w3 (by omega)
    have c0 := b5 0 (by omega)
    have l0 := hl _ c0.1 c0.2
    have l0a := l0.1.2.1
    have l0b := l0.2.2.2.1
    rcases h7 with rfl | rfl
    · unfold wl
      rw [if_neg (by omega), if_neg (by omega), if_neg (by omega), if_neg (by omega), if_pos rfl]
      have : sm (fun i => lnu u (3 * ch p1 i + 1) + (if 0 < i then 3 else 0)) (cn p1) ≤ sm (fun _ => 103) (cn p1) := sm_le _ (fun i hi => by
        have c1 := b5 i hi
        have := (hl _ c1.1 c1.2).2.1.2.2
        show lnu u (3 * ch p1 i + 1) + (if 0 < i then 3 else 0) ≤ 103
        split <;> omega)
      rw [sm_const] at this
      omega
    · unfold wl
      rw [if_neg (by omega), if_neg (by omega), if_neg (by omega), if_neg (by omega), if_neg (by omega), if_neg (by omega), if_neg (by omega), if_neg (by omega), if_neg (by omega), if_neg (by omega), if_neg (by omega), if_pos rfl]
      have : sm (fun i => if i + 1 < cn p1 then lnu u (3 * ch p1 i + 2) else lnu u (3 * ch p1 i)) (cn p1) ≤ sm (fun _ => 100) (cn p1) := sm_le _ (fun i hi => by
        have c1 := b5 i hi
        have z1 := (hl _ c1.1 c1.2).1.2.2
        have z2 := (hl _ c1.1 c1.2).2.2.2.2
        show (if i + 1 < cn p1 then lnu u (3 * ch p1 i + 2) else lnu u (3 * ch p1 i)) ≤ 100
        split <;> omega)
      rw [sm_const] at this
      have h1 := sm_mono (fun i => if i + 1 < cn p1 then lnu u (3 * ch p1 i + 2) else lnu u (3 * ch p1 i)) (show 1 ≤ cn p1 by omega)
      have h2 : sm (fun i => if i + 1 < cn p1 then lnu u (3 * ch p1 i + 2) else lnu u (3 * ch p1 i)) 1 = (if 0 + 1 < cn p1 then lnu u (3 * ch p1 0 + 2) else lnu u (3 * ch p1 0)) := Nat.zero_add _
      rw [h2, if_pos (by omega)] at h1
      omega
  · by_cases h8 : w = 8 ∨ w = 24
    · have z := hB h8
      have z1 := z.2.1
      have z2 := z.2.2
      rcases h8 with rfl | rfl
      · show 1 ≤ lnu u (3 * p1) + 4 ∧ lnu u (3 * p1) + 4 ≤ 1000
        omega
      · show 1 ≤ lnu u (3 * p1) + 1 ∧ lnu u (3 * p1) + 1 ≤ 1000
        omega
    · by_cases h1 : w = 1 ∨ w = 11 ∨ w = 12
      · unfold wl; rw [if_pos h1]; omega
      · have hk : kd p1 = 5 ∨ kd p1 = 6 := by unfold app at ha; omega
        obtain ⟨n2, n4, n5, -, b5, -⟩ := w3 (by omega)
        have c0 := b5 0 (by omega)
        have c1 := b5 1 (by omega)
        have l0 := hl _ c0.1 c0.2
        have l1 := hl _ c1.1 c1.2
        have l0a := l0.1.2
        have l0b := l0.2.1.2
        have l0c := l0.2.2.2
        have l1a := l1.1.2
        have l1b := l1.2.1.2
        have l1c := l1.2.2.2
        have hw' : w = 2 ∨ w = 3 ∨ w = 4 ∨ w = 5 ∨ w = 6 ∨ w = 13 ∨ w = 14 ∨ w = 15 ∨ w = 16 ∨ w = 17 ∨ w = 21 ∨ w = 22 ∨ w = 23 := by unfold app at ha; omega
        rcases hw' with rfl | rfl | rfl | rfl | rfl | rfl | rfl | rfl | rfl | rfl | rfl | rfl | rfl <;> refine ⟨?_, ?_⟩ <;> simp [wl] <;> omega
abbrev b_MO_tries : ByteArray := prog_10_method_22_code
def y_MO_tries : MethodName := ⟨"PolicyForgeModel", "tries", "(II)Z"⟩
theorem d_MO_tries_0 : decode b_MO_tries 0 = .ok (.aload_n 0, 1) := by decide +kernel
theorem d_MO_tries_1 : decode b_MO_tries 1 = .ok (.getfield 33, 3) := by decide +kernel
theorem d_MO_tries_4 : decode b_MO_tries 4 = .ok (.iload_n 1, 1) := by decide +kernel
theorem d_MO_tries_5 : decode b_MO_tries 5 = .ok (.iaload, 1) := by decide +kernel
theorem d_MO_tries_6 : decode b_MO_tries 6 = .ok (.istore_n 3, 1) := by decide +kernel
theorem d_MO_tries_7 : decode b_MO_tries 7 = .ok (.aload_n 0, 1) := by decide +kernel
theorem d_MO_tries_8 : decode b_MO_tries 8 = .ok (.getfield 42, 3) := by decide +kernel
theorem d_MO_tries_11 : decode b_MO_tries 11 = .ok (.iconst 4, 1) := by decide +kernel
theorem d_MO_tries_12 : decode b_MO_tries 12 = .ok (.iload_n 1, 1) := by decide +kernel
theorem d_MO_tries_13 : decode b_MO_tries 13 = .ok (.imul, 1) := by decide +kernel
theorem d_MO_tries_14 : decode b_MO_tries 14 = .ok (.iaload, 1) := by decide +kernel
theorem d_MO_tries_15 : decode b_MO_tries 15 = .ok (.istore 4, 2) := by decide +kernel
theorem d_MO_tries_17 : decode b_MO_tries 17 = .ok (.aload_n 0, 1) := by decide +kernel
theorem d_MO_tries_18 : decode b_MO_tries 18 = .ok (.getfield 42, 3) := by decide +kernel
theorem d_MO_tries_21 : decode b_MO_tries 21 = .ok (.iconst 4, 1) := by decide +kernel
theorem d_MO_tries_22 : decode b_MO_tries 22 = .ok (.iload_n 1, 1) := by decide +kernel
theorem d_MO_tries_23 : decode b_MO_tries 23 = .ok (.imul, 1) := by decide +kernel
theorem d_MO_tries_24 : decode b_MO_tries 24 = .ok (.iconst 1, 1) := by decide +kernel
theorem d_MO_tries_25 : decode b_MO_tries 25 = .ok (.iadd, 1) := by decide +kernel
theorem d_MO_tries_26 : decode b_MO_tries 26 = .ok (.iaload, 1) := by decide +kernel
theorem d_MO_tries_27 : decode b_MO_tries 27 = .ok (.istore 5, 2) := by decide +kernel
theorem d_MO_tries_29 : decode b_MO_tries 29 = .ok (.aload_n 0, 1) := by decide +kernel
theorem d_MO_tries_30 : decode b_MO_tries 30 = .ok (.iconst 0, 1) := by decide +kernel
theorem d_MO_tries_31 : decode b_MO_tries 31 = .ok (.putfield 66, 3) := by decide +kernel
theorem d_MO_tries_34 : decode b_MO_tries 34 = .ok (.iload_n 2, 1) := by decide +kernel
theorem d_MO_tries_35 : decode b_MO_tries 35 = .ok (.iconst 1, 1) := by decide +kernel
theorem d_MO_tries_36 : decode b_MO_tries 36 = .ok (.if_icmp .ne 15, 3) := by decide +kernel
theorem d_MO_tries_39 : decode b_MO_tries 39 = .ok (.iload_n 3, 1) := by decide +kernel
theorem d_MO_tries_40 : decode b_MO_tries 40 = .ok (.iconst 1, 1) := by decide +kernel
theorem d_MO_tries_41 : decode b_MO_tries 41 = .ok (.if_icmp .ne 10, 3) := by decide +kernel
theorem d_MO_tries_44 : decode b_MO_tries 44 = .ok (.aload_n 0, 1) := by decide +kernel
theorem d_MO_tries_45 : decode b_MO_tries 45 = .ok (.iconst 1, 1) := by decide +kernel
theorem d_MO_tries_46 : decode b_MO_tries 46 = .ok (.bipush 9, 2) := by decide +kernel
theorem d_MO_tries_48 : decode b_MO_tries 48 = .ok (.invokevirtual 188, 3) := by decide +kernel
theorem d_MO_tries_51 : decode b_MO_tries 51 = .ok (.iload_n 2, 1) := by decide +kernel
theorem d_MO_tries_52 : decode b_MO_tries 52 = .ok (.iconst 2, 1) := by decide +kernel
theorem d_MO_tries_53 : decode b_MO_tries 53 = .ok (.if_icmp .ne 23, 3) := by decide +kernel
theorem d_MO_tries_56 : decode b_MO_tries 56 = .ok (.iload_n 3, 1) := by decide +kernel
theorem d_MO_tries_57 : decode b_MO_tries 57 = .ok (.iconst 5, 1) := by decide +kernel
theorem d_MO_tries_58 : decode b_MO_tries 58 = .ok (.if_icmp .ne 18, 3) := by decide +kernel
theorem d_MO_tries_61 : decode b_MO_tries 61 = .ok (.aload_n 0, 1) := by decide +kernel
theorem d_MO_tries_62 : decode b_MO_tries 62 = .ok (.iload 4, 2) := by decide +kernel
theorem d_MO_tries_64 : decode b_MO_tries 64 = .ok (.invokestatic 195, 3) := by decide +kernel
theorem d_MO_tries_67 : decode b_MO_tries 67 = .ok (.iload 5, 2) := by decide +kernel
theorem d_MO_tries_69 : decode b_MO_tries 69 = .ok (.invokestatic 195, 3) := by decide +kernel
theorem d_MO_tries_72 : decode b_MO_tries 72 = .ok (.iconst 3, 1) := by decide +kernel
theorem d_MO_tries_73 : decode b_MO_tries 73 = .ok (.invokevirtual 207, 3) := by decide +kernel
theorem d_MO_tries_76 : decode b_MO_tries 76 = .ok (.iload_n 2, 1) := by decide +kernel
theorem d_MO_tries_77 : decode b_MO_tries 77 = .ok (.bipush 8, 2) := by decide +kernel
theorem d_MO_tries_79 : decode b_MO_tries 79 = .ok (.if_icmp .ne 29, 3) := by decide +kernel
theorem d_MO_tries_82 : decode b_MO_tries 82 = .ok (.aload_n 0, 1) := by decide +kernel
theorem d_MO_tries_83 : decode b_MO_tries 83 = .ok (.aload_n 0, 1) := by decide +kernel
theorem d_MO_tries_84 : decode b_MO_tries 84 = .ok (.getfield 48, 3) := by decide +kernel
theorem d_MO_tries_87 : decode b_MO_tries 87 = .ok (.iload_n 1, 1) := by decide +kernel
theorem d_MO_tries_88 : decode b_MO_tries 88 = .ok (.invokestatic 204, 3) := by decide +kernel
theorem d_MO_tries_91 : decode b_MO_tries 91 = .ok (.iaload, 1) := by decide +kernel
theorem d_MO_tries_92 : decode b_MO_tries 92 = .ok (.iconst 4, 1) := by decide +kernel
theorem d_MO_tries_93 : decode b_MO_tries 93 = .ok (.iadd, 1) := by decide +kernel
theorem d_MO_tries_94 : decode b_MO_tries 94 = .ok (.aload_n 0, 1) := by decide +kernel
theorem d_MO_tries_95 : decode b_MO_tries 95 = .ok (.getfield 51, 3) := by decide +kernel
theorem d_MO_tries_98 : decode b_MO_tries 98 = .ok (.iload_n 1, 1) := by decide +kernel
theorem d_MO_tries_99 : decode b_MO_tries 99 = .ok (.invokestatic 204, 3) := by decide +kernel
theorem d_MO_tries_102 : decode b_MO_tries 102 = .ok (.iaload, 1) := by decide +kernel
theorem d_MO_tries_103 : decode b_MO_tries 103 = .ok (.iconst 1, 1) := by decide +kernel
theorem d_MO_tries_104 : decode b_MO_tries 104 = .ok (.iadd, 1) := by decide +kernel
theorem d_MO_tries_105 : decode b_MO_tries 105 = .ok (.invokevirtual 188, 3) := by decide +kernel
theorem d_MO_tries_108 : decode b_MO_tries 108 = .ok (.iload_n 2, 1) := by decide +kernel
theorem d_MO_tries_109 : decode b_MO_tries 109 = .ok (.bipush 11, 2) := by decide +kernel
theorem d_MO_tries_111 : decode b_MO_tries 111 = .ok (.if_icmp .ne 14, 3) := by decide +kernel
theorem d_MO_tries_114 : decode b_MO_tries 114 = .ok (.iload_n 3, 1) := by decide +kernel
theorem d_MO_tries_115 : decode b_MO_tries 115 = .ok (.iconst 2, 1) := by decide +kernel
theorem d_MO_tries_116 : decode b_MO_tries 116 = .ok (.if_icmp .ne 9, 3) := by decide +kernel
theorem d_MO_tries_119 : decode b_MO_tries 119 = .ok (.aload_n 0, 1) := by decide +kernel
theorem d_MO_tries_120 : decode b_MO_tries 120 = .ok (.iconst 1, 1) := by decide +kernel
theorem d_MO_tries_121 : decode b_MO_tries 121 = .ok (.iconst 5, 1) := by decide +kernel
theorem d_MO_tries_122 : decode b_MO_tries 122 = .ok (.invokevirtual 188, 3) := by decide +kernel
theorem d_MO_tries_125 : decode b_MO_tries 125 = .ok (.iload_n 2, 1) := by decide +kernel
theorem d_MO_tries_126 : decode b_MO_tries 126 = .ok (.bipush 12, 2) := by decide +kernel
theorem d_MO_tries_128 : decode b_MO_tries 128 = .ok (.if_icmp .ne 19, 3) := by decide +kernel
theorem d_MO_tries_131 : decode b_MO_tries 131 = .ok (.iload_n 3, 1) := by decide +kernel
theorem d_MO_tries_132 : decode b_MO_tries 132 = .ok (.iconst 3, 1) := by decide +kernel
theorem d_MO_tries_133 : decode b_MO_tries 133 = .ok (.if_icmp .eq 8, 3) := by decide +kernel
theorem d_MO_tries_136 : decode b_MO_tries 136 = .ok (.iload_n 3, 1) := by decide +kernel
theorem d_MO_tries_137 : decode b_MO_tries 137 = .ok (.iconst 4, 1) := by decide +kernel
theorem d_MO_tries_138 : decode b_MO_tries 138 = .ok (.if_icmp .ne 9, 3) := by decide +kernel
theorem d_MO_tries_141 : decode b_MO_tries 141 = .ok (.aload_n 0, 1) := by decide +kernel
theorem d_MO_tries_142 : decode b_MO_tries 142 = .ok (.iconst 1, 1) := by decide +kernel
theorem d_MO_tries_143 : decode b_MO_tries 143 = .ok (.iconst 0, 1) := by decide +kernel
theorem d_MO_tries_144 : decode b_MO_tries 144 = .ok (.invokevirtual 188, 3) := by decide +kernel
theorem d_MO_tries_147 : decode b_MO_tries 147 = .ok (.iload_n 2, 1) := by decide +kernel
theorem d_MO_tries_148 : decode b_MO_tries 148 = .ok (.bipush 13, 2) := by decide +kernel
theorem d_MO_tries_150 : decode b_MO_tries 150 = .ok (.if_icmp .ne 23, 3) := by decide +kernel
theorem d_MO_tries_153 : decode b_MO_tries 153 = .ok (.iload_n 3, 1) := by decide +kernel
theorem d_MO_tries_154 : decode b_MO_tries 154 = .ok (.iconst 5, 1) := by decide +kernel
theorem d_MO_tries_155 : decode b_MO_tries 155 = .ok (.if_icmp .ne 18, 3) := by decide +kernel
theorem d_MO_tries_158 : decode b_MO_tries 158 = .ok (.aload_n 0, 1) := by decide +kernel
theorem d_MO_tries_159 : decode b_MO_tries 159 = .ok (.iload 4, 2) := by decide +kernel
theorem d_MO_tries_161 : decode b_MO_tries 161 = .ok (.invokestatic 201, 3) := by decide +kernel
theorem d_MO_tries_164 : decode b_MO_tries 164 = .ok (.iload 5, 2) := by decide +kernel
theorem d_MO_tries_166 : decode b_MO_tries 166 = .ok (.invokestatic 204, 3) := by decide +kernel
theorem d_MO_tries_169 : decode b_MO_tries 169 = .ok (.iconst 0, 1) := by decide +kernel
theorem d_MO_tries_170 : decode b_MO_tries 170 = .ok (.invokevirtual 207, 3) := by decide +kernel
theorem d_MO_tries_173 : decode b_MO_tries 173 = .ok (.iload_n 2, 1) := by decide +kernel
theorem d_MO_tries_174 : decode b_MO_tries 174 = .ok (.bipush 14, 2) := by decide +kernel
theorem d_MO_tries_176 : decode b_MO_tries 176 = .ok (.if_icmp .ne 23, 3) := by decide +kernel
theorem d_MO_tries_179 : decode b_MO_tries 179 = .ok (.iload_n 3, 1) := by decide +kernel
theorem d_MO_tries_180 : decode b_MO_tries 180 = .ok (.iconst 5, 1) := by decide +kernel
theorem d_MO_tries_181 : decode b_MO_tries 181 = .ok (.if_icmp .ne 18, 3) := by decide +kernel
theorem d_MO_tries_184 : decode b_MO_tries 184 = .ok (.aload_n 0, 1) := by decide +kernel
theorem d_MO_tries_185 : decode b_MO_tries 185 = .ok (.iload 5, 2) := by decide +kernel
theorem d_MO_tries_187 : decode b_MO_tries 187 = .ok (.invokestatic 201, 3) := by decide +kernel
theorem d_MO_tries_190 : decode b_MO_tries 190 = .ok (.iload 4, 2) := by decide +kernel
theorem d_MO_tries_192 : decode b_MO_tries 192 = .ok (.invokestatic 204, 3) := by decide +kernel
theorem d_MO_tries_195 : decode b_MO_tries 195 = .ok (.iconst 0, 1) := by decide +kernel
theorem d_MO_tries_196 : decode b_MO_tries 196 = .ok (.invokevirtual 207, 3) := by decide +kernel
theorem d_MO_tries_199 : decode b_MO_tries 199 = .ok (.iload_n 2, 1) := by decide +kernel
theorem d_MO_tries_200 : decode b_MO_tries 200 = .ok (.bipush 18, 2) := by decide +kernel
theorem d_MO_tries_202 : decode b_MO_tries 202 = .ok (.if_icmp .ne 29, 3) := by decide +kernel
theorem d_MO_tries_205 : decode b_MO_tries 205 = .ok (.iload_n 3, 1) := by decide +kernel
theorem d_MO_tries_206 : decode b_MO_tries 206 = .ok (.bipush 7, 2) := by decide +kernel
theorem d_MO_tries_208 : decode b_MO_tries 208 = .ok (.if_icmp .ne 23, 3) := by decide +kernel
theorem d_MO_tries_211 : decode b_MO_tries 211 = .ok (.aload_n 0, 1) := by decide +kernel
theorem d_MO_tries_212 : decode b_MO_tries 212 = .ok (.getfield 36, 3) := by decide +kernel
theorem d_MO_tries_215 : decode b_MO_tries 215 = .ok (.iload_n 1, 1) := by decide +kernel
theorem d_MO_tries_216 : decode b_MO_tries 216 = .ok (.iaload, 1) := by decide +kernel
theorem d_MO_tries_217 : decode b_MO_tries 217 = .ok (.aload_n 0, 1) := by decide +kernel
theorem d_MO_tries_218 : decode b_MO_tries 218 = .ok (.getfield 39, 3) := by decide +kernel
theorem d_MO_tries_221 : decode b_MO_tries 221 = .ok (.iload_n 1, 1) := by decide +kernel
theorem d_MO_tries_222 : decode b_MO_tries 222 = .ok (.iaload, 1) := by decide +kernel
theorem d_MO_tries_223 : decode b_MO_tries 223 = .ok (.if_icmp .ne 8, 3) := by decide +kernel
theorem d_MO_tries_226 : decode b_MO_tries 226 = .ok (.aload_n 0, 1) := by decide +kernel
theorem d_MO_tries_227 : decode b_MO_tries 227 = .ok (.iload_n 1, 1) := by decide +kernel
theorem d_MO_tries_228 : decode b_MO_tries 228 = .ok (.invokevirtual 211, 3) := by decide +kernel
theorem d_MO_tries_231 : decode b_MO_tries 231 = .ok (.iload_n 2, 1) := by decide +kernel
theorem d_MO_tries_232 : decode b_MO_tries 232 = .ok (.bipush 7, 2) := by decide +kernel
theorem d_MO_tries_234 : decode b_MO_tries 234 = .ok (.if_icmp .ne 14, 3) := by decide +kernel
theorem d_MO_tries_237 : decode b_MO_tries 237 = .ok (.iload_n 3, 1) := by decide +kernel
theorem d_MO_tries_238 : decode b_MO_tries 238 = .ok (.bipush 7, 2) := by decide +kernel
theorem d_MO_tries_240 : decode b_MO_tries 240 = .ok (.if_icmp .ne 8, 3) := by decide +kernel
theorem d_MO_tries_243 : decode b_MO_tries 243 = .ok (.aload_n 0, 1) := by decide +kernel
theorem d_MO_tries_244 : decode b_MO_tries 244 = .ok (.iload_n 1, 1) := by decide +kernel
theorem d_MO_tries_245 : decode b_MO_tries 245 = .ok (.invokevirtual 215, 3) := by decide +kernel
theorem d_MO_tries_248 : decode b_MO_tries 248 = .ok (.iload_n 2, 1) := by decide +kernel
theorem d_MO_tries_249 : decode b_MO_tries 249 = .ok (.bipush 21, 2) := by decide +kernel
theorem d_MO_tries_251 : decode b_MO_tries 251 = .ok (.if_icmp .ne 23, 3) := by decide +kernel
theorem d_MO_tries_254 : decode b_MO_tries 254 = .ok (.iload_n 3, 1) := by decide +kernel
theorem d_MO_tries_255 : decode b_MO_tries 255 = .ok (.iconst 5, 1) := by decide +kernel
theorem d_MO_tries_256 : decode b_MO_tries 256 = .ok (.if_icmp .ne 18, 3) := by decide +kernel
theorem d_MO_tries_259 : decode b_MO_tries 259 = .ok (.aload_n 0, 1) := by decide +kernel
theorem d_MO_tries_260 : decode b_MO_tries 260 = .ok (.iload 4, 2) := by decide +kernel
theorem d_MO_tries_262 : decode b_MO_tries 262 = .ok (.invokestatic 201, 3) := by decide +kernel
theorem d_MO_tries_265 : decode b_MO_tries 265 = .ok (.iload 5, 2) := by decide +kernel
theorem d_MO_tries_267 : decode b_MO_tries 267 = .ok (.invokestatic 201, 3) := by decide +kernel
theorem d_MO_tries_270 : decode b_MO_tries 270 = .ok (.iconst 0, 1) := by decide +kernel
theorem d_MO_tries_271 : decode b_MO_tries 271 = .ok (.invokevirtual 207, 3) := by decide +kernel
theorem d_MO_tries_274 : decode b_MO_tries 274 = .ok (.iload_n 2, 1) := by decide +kernel
theorem d_MO_tries_275 : decode b_MO_tries 275 = .ok (.bipush 24, 2) := by decide +kernel
theorem d_MO_tries_277 : decode b_MO_tries 277 = .ok (.if_icmp .ne 27, 3) := by decide +kernel
theorem d_MO_tries_280 : decode b_MO_tries 280 = .ok (.aload_n 0, 1) := by decide +kernel
theorem d_MO_tries_281 : decode b_MO_tries 281 = .ok (.aload_n 0, 1) := by decide +kernel
theorem d_MO_tries_282 : decode b_MO_tries 282 = .ok (.getfield 48, 3) := by decide +kernel
theorem d_MO_tries_285 : decode b_MO_tries 285 = .ok (.iload_n 1, 1) := by decide +kernel
theorem d_MO_tries_286 : decode b_MO_tries 286 = .ok (.invokestatic 204, 3) := by decide +kernel
theorem d_MO_tries_289 : decode b_MO_tries 289 = .ok (.iaload, 1) := by decide +kernel
theorem d_MO_tries_290 : decode b_MO_tries 290 = .ok (.iconst 1, 1) := by decide +kernel
theorem d_MO_tries_291 : decode b_MO_tries 291 = .ok (.iadd, 1) := by decide +kernel
theorem d_MO_tries_292 : decode b_MO_tries 292 = .ok (.aload_n 0, 1) := by decide +kernel
theorem d_MO_tries_293 : decode b_MO_tries 293 = .ok (.getfield 51, 3) := by decide +kernel
theorem d_MO_tries_296 : decode b_MO_tries 296 = .ok (.iload_n 1, 1) := by decide +kernel
theorem d_MO_tries_297 : decode b_MO_tries 297 = .ok (.invokestatic 204, 3) := by decide +kernel
theorem d_MO_tries_300 : decode b_MO_tries 300 = .ok (.iaload, 1) := by decide +kernel
theorem d_MO_tries_301 : decode b_MO_tries 301 = .ok (.invokevirtual 188, 3) := by decide +kernel
theorem d_MO_tries_304 : decode b_MO_tries 304 = .ok (.iload_n 3, 1) := by decide +kernel
theorem d_MO_tries_305 : decode b_MO_tries 305 = .ok (.bipush 6, 2) := by decide +kernel
theorem d_MO_tries_307 : decode b_MO_tries 307 = .ok (.if_icmp .ne 12, 3) := by decide +kernel
theorem d_MO_tries_310 : decode b_MO_tries 310 = .ok (.aload_n 0, 1) := by decide +kernel
theorem d_MO_tries_311 : decode b_MO_tries 311 = .ok (.iload 4, 2) := by decide +kernel
theorem d_MO_tries_313 : decode b_MO_tries 313 = .ok (.iload 5, 2) := by decide +kernel
theorem d_MO_tries_315 : decode b_MO_tries 315 = .ok (.iload_n 2, 1) := by decide +kernel
theorem d_MO_tries_316 : decode b_MO_tries 316 = .ok (.invokevirtual 218, 3) := by decide +kernel
theorem d_MO_tries_319 : decode b_MO_tries 319 = .ok (.aload_n 0, 1) := by decide +kernel
theorem d_MO_tries_320 : decode b_MO_tries 320 = .ok (.getfield 66, 3) := by decide +kernel
theorem d_MO_tries_323 : decode b_MO_tries 323 = .ok (.ifCond .le 7, 3) := by decide +kernel
theorem d_MO_tries_326 : decode b_MO_tries 326 = .ok (.iconst 1, 1) := by decide +kernel
theorem d_MO_tries_327 : decode b_MO_tries 327 = .ok (.goto 4, 3) := by decide +kernel
theorem d_MO_tries_330 : decode b_MO_tries 330 = .ok (.iconst 0, 1) := by decide +kernel
theorem d_MO_tries_331 : decode b_MO_tries 331 = .ok (.ireturn, 1) := by decide +kernel
theorem lk_MO_207 : ab_lk "PolicyForgeModel" 207 y_MO_both b_MO_both 4 none 3 17 := ⟨⟨rfl, T_MO, 44, rfl⟩, List.forall_mem_cons.mpr ⟨(ab_in 1135 (by decide +kernel) (by decide +kernel)), List.forall_mem_cons.mpr ⟨(ab_in 1137 (by decide +kernel) (by decide +kernel)), List.forall_mem_cons.mpr ⟨(ab_in 57 (by decide +kernel) (by decide +kernel)), List.forall_mem_cons.mpr ⟨(ab_in 100 (by decide +kernel) (by decide +kernel)), List.forall_mem_cons.mpr ⟨(ab_in 1138 (by decide +kernel) (by decide +kernel)), fun _ h => absurd h List.not_mem_nil⟩⟩⟩⟩⟩, ⟨by decide +kernel, by decide +kernel, by decide +kernel⟩, by decide⟩
theorem lk_MO_211 : ab_lk "PolicyForgeModel" 211 y_MO_allOf b_MO_allOf 6 none 1 17 := ⟨⟨rfl, T_MO, 44, rfl⟩, List.forall_mem_cons.mpr ⟨(ab_in 1142 (by decide +kernel) (by decide +kernel)), List.forall_mem_cons.mpr ⟨(ab_in 1144 (by decide +kernel) (by decide +kernel)), List.forall_mem_cons.mpr ⟨(ab_in 58 (by decide +kernel) (by decide +kernel)), List.forall_mem_cons.mpr ⟨(ab_in 100 (by decide +kernel) (by decide +kernel)), List.forall_mem_cons.mpr ⟨(ab_in 1145 (by decide +kernel) (by decide +kernel)), fun _ h => absurd h List.not_mem_nil⟩⟩⟩⟩⟩, ⟨by decide +kernel, by decide +kernel, by decide +kernel⟩, by decide⟩
theorem lk_MO_215 : ab_lk "PolicyForgeModel" 215 y_MO_threshold b_MO_threshold 8 none 1 17 := ⟨⟨rfl, T_MO, 44, rfl⟩, List.forall_mem_cons.mpr ⟨(ab_in 1146 (by decide +kernel) (by decide +kernel)), List.forall_mem_cons.mpr ⟨(ab_in 1148 (by decide +kernel) (by decide +kernel)), List.forall_mem_cons.mpr ⟨(ab_in 59 (by decide +kernel) (by decide +kernel)), List.forall_mem_cons.mpr ⟨(ab_in 100 (by decide +kernel) (by decide +kernel)), List.forall_mem_cons.mpr ⟨(ab_in 1149 (by decide +kernel) (by decide +kernel)), fun _ h => absurd h List.not_mem_nil⟩⟩⟩⟩⟩, ⟨by decide +kernel, by decide +kernel, by decide +kernel⟩, by decide⟩
theorem lk_MO_218 : ab_lk "PolicyForgeModel" 218 y_MO_triesOr b_MO_triesOr 4 none 3 17 := ⟨⟨rfl, T_MO, 44, rfl⟩, List.forall_mem_cons.mpr ⟨(ab_in 1154 (by decide +kernel) (by decide +kernel)), List.forall_mem_cons.mpr ⟨(ab_in 1156 (by decide +kernel) (by decide +kernel)), List.forall_mem_cons.mpr ⟨(ab_in 61 (by decide +kernel) (by decide +kernel)), List.forall_mem_cons.mpr ⟨(ab_in 100 (by decide +kernel) (by decide +kernel)), List.forall_mem_cons.mpr ⟨(ab_in 1157 (by decide +kernel) (by decide +kernel)), fun _ h => absurd h List.not_mem_nil⟩⟩⟩⟩⟩, ⟨by decide +kernel, by decide +kernel, by decide +kernel⟩, by decide⟩
theorem fl_MO_66 : ab_fl "PolicyForgeModel" 66 17 18 0 := ⟨rfl, R_MO, T_MO, 44, rfl, uw_MO, by decide, rfl, (ab_in 944 (by decide +kernel) (by decide +kernel))⟩
set_option maxRecDepth 100000 in
set_option maxHeartbeats 20000000 in
theorem s_MO_tries (u : ab_S) (P : Nat) (kd ar cn lf : Nat → Nat) (ch : Nat → Nat → Nat) (W : tW P kd ar cn lf ch) (T : tR P kd ar cn ch u) (p1 w : Nat) (h : mR u.2.1) (hp : p1 < P) (hw : ways w) (hl : ∀ c, p1 < c → c < P → lk u (3 * c) ∧ lk u (3 * c + 1) ∧ lk u (3 * c + 2)) (hB : w = 8 ∨ w = 24 → lk u (3 * p1)) : ab_C false l D ca y_MO_tries b_MO_tries 6 (some FieldType.boolean) 3 ab_nQ u [ab_O 17 0, ab_I (nI p1), ab_I (nI w)] (fun u' v => gP [18, 19] u u' ∧ ∃ b : Int32, ((b = 1 ∧ app (kd p1) (ar p1) (cn p1) w ∧ u'.1 17 0 18 = nI (wl u p1 (cn p1) (ch p1) w)) ∨ (b = 0 ∧ ¬ app (kd p1) (ar p1) (cn p1) w)) ∧ v = some (ab_I b)) := by
  refine ab_C.of (by decide) (Nat.le_of_ble_eq_true rfl) ?_
  intro p e s m args below meth c ad X hZ hr0 hlk
  have P0 : gP [18, 19] u u := gP.rf h
  have hP19 := W.2.1
  have hr := wl_range W hp hl hB hw
  obtain ⟨ek, ea, ec, ech⟩ := T.2 p1 hp
  obtain ⟨k0, k7⟩ : 1 ≤ kd p1 ∧ kd p1 ≤ 7 := ⟨(W.2.2 p1 hp).1.2.2.1, (W.2.2 p1 hp).1.2.2.2.1⟩
  have yes : ∀ (u1 : ab_S), gP [18, 19] u u1 → app (kd p1) (ar p1) (cn p1) w → u1.1 17 0 18 = nI (wl u p1 (cn p1) (ch p1) w) → ab_J p l e (ab_rm 3 0 0) s m args below meth c (MQ below (ab_Q D ca ad ab_nQ s.heap.size (fun u' v => gP [18, 19] u u' ∧ ∃ b : Int32, ((b = 1 ∧ app (kd p1) (ar p1) (cn p1) w ∧ u'.1 17 0 18 = nI (wl u p1 (cn p1) (ch p1) w)) ∨ (b = 0 ∧ ¬ app (kd p1) (ar p1) (cn p1) w)) ∧ v = some (ab_I b))) args s 0 0 (ab_A ad ab_nQ s.heap.size)) D ca (ab_A ad ab_nQ s.heap.size) s.heap 6 0 0 ad ab_nQ u1 319 [(0, ab_O 17 0), (1, ab_I (nI p1))] [] := by
    intro u1 P1 ha e1
    have z := hr ha
    refine ab_aload_n X 0 d_MO_tries_319 rfl rfl ?_
    refine ab_gI X fl_MO_66 d_MO_tries_320 (by first | assumption | decide | (show _ < 124; omega) | (show _ < 61; omega) | (show _ < 20; omega)) (e1) ?_
    refine ab_if_le X 330 d_MO_tries_323 rfl (fun hb => absurd hb ((nI_nle (by omega) (by omega)))) (fun _ => ?_)
    refine ab_iconst (v := 1) X d_MO_tries_326 (by decide) ?_
    refine ab_goto X 331 d_MO_tries_327 rfl ?_
    exact ab_retz X hr0 hlk (Or.inr rfl) d_MO_tries_331 ⟨P1, 1, Or.inl ⟨rfl, ha, e1⟩, rfl⟩
  have no : ∀ (u1 : ab_S), gP [18, 19] u u1 → ¬ app (kd p1) (ar p1) (cn p1) w → u1.1 17 0 18 = 0 → ab_J p l e (ab_rm 3 0 0) s m args below meth c (MQ below (ab_Q D ca ad ab_nQ s.heap.size (fun u' v => gP [18, 19] u u' ∧ ∃ b : Int32, ((b = 1 ∧ app (kd p1) (ar p1) (cn p1) w ∧ u'.1 17 0 18 = nI (wl u p1 (cn p1) (ch p1) w)) ∨ (b = 0 ∧ ¬ app (kd p1) (ar p1) (cn p1) w)) ∧ v = some (ab_I b))) args s 0 0 (ab_A ad ab_nQ s.heap.size)) D ca (ab_A ad ab_nQ s.heap.size) s.heap 6 0 0 ad ab_nQ u1 319 [(0, ab_O 17 0), (1, ab_I (nI p1))] [] := by
    intro u1 P1 ha e1
    refine ab_aload_n X 0 d_MO_tries_319 rfl rfl ?_
    refine ab_gI X fl_MO_66 d_MO_tries_320 (by first | assumption | decide | (show _ < 124; omega) | (show _ < 61; omega) | (show _ < 20; omega)) (e1) ?_
    refine ab_if_le X 330 d_MO_tries_323 rfl (fun _ => ?_) (fun hb => absurd ((by decide)) hb)
    refine ab_iconst (v := 0) X d_MO_tries_330 (by decide) ?_
    exact ab_retz X hr0 hlk (Or.inl rfl) d_MO_tries_331 ⟨P1, 0, Or.inr ⟨rfl, ha⟩, rfl⟩
  rcases hw with rfl | rfl | rfl | rfl | rfl | rfl | rfl | rfl | rfl | rfl | rfl | rfl | rfl | rfl | rfl | rfl | rfl | rfl | rfl | rfl
  ·
    refine ab_aload_n X 0 d_MO_tries_0 rfl rfl ?_
    refine ab_gR X fl_MO_33 d_MO_tries_1 (by first | assumption | decide | (show _ < 124; omega) | (show _ < 61; omega) | (show _ < 20; omega)) (P0.1.mo7) ?_
    refine ab_iload_n X 1 d_MO_tries_4 rfl rfl ?_
    refine ab_iald X (p1) ⟨rfl, rfl⟩ d_MO_tries_5 (by first | assumption | decide | (show _ < 124; omega) | (show _ < 61; omega) | (show _ < 20; omega)) (rfl) (show p1 < 40 by omega) (ab_ln_lt _ _) ?_
    refine ab_top ek ?_
    refine ab_istore_n3 X 0 1 2 d_MO_tries_6 rfl (by decide) rfl rfl rfl rfl rfl rfl ?_
    refine ab_aload_n X 1 d_MO_tries_7 rfl rfl ?_
    refine ab_gR X fl_MO_42 d_MO_tries_8 (by first | assumption | decide | (show _ < 124; omega) | (show _ < 61; omega) | (show _ < 20; omega)) (P0.1.mo10) ?_
    refine ab_iconst (v := 4) X d_MO_tries_11 (by decide) ?_
    refine ab_iload_n X 2 d_MO_tries_12 rfl rfl ?_
    refine ab_imul X d_MO_tries_13 ?_
    refine ab_iald X (4 * p1) ⟨rfl, rfl⟩ d_MO_tries_14 (by first | assumption | decide | (show _ < 124; omega) | (show _ < 61; omega) | (show _ < 20; omega)) (nI_4m p1) (show 4 * p1 < 160 by omega) (ab_ln_lt _ _) ?_
    refine ab_istore4 X 0 1 2 3 d_MO_tries_15 (by decide) rfl rfl rfl rfl rfl rfl rfl rfl ?_
    refine ab_aload_n X 2 d_MO_tries_17 rfl rfl ?_
    refine ab_gR X fl_MO_42 d_MO_tries_18 (by first | assumption | decide | (show _ < 124; omega) | (show _ < 61; omega) | (show _ < 20; omega)) (P0.1.mo10) ?_
    refine ab_iconst (v := 4) X d_MO_tries_21 (by decide) ?_
    refine ab_iload_n X 3 d_MO_tries_22 rfl rfl ?_
    refine ab_imul X d_MO_tries_23 ?_
    refine ab_iconst (v := 1) X d_MO_tries_24 (by decide) ?_
    refine ab_iadd X d_MO_tries_25 ?_
    refine ab_iald X (4 * p1 + 1) ⟨rfl, rfl⟩ d_MO_tries_26 (by first | assumption | decide | (show _ < 124; omega) | (show _ < 61; omega) | (show _ < 20; omega)) (nI_4b p1) (show 4 * p1 + 1 < 160 by omega) (ab_ln_lt _ _) ?_
    refine ab_istore5 X 0 1 2 3 4 d_MO_tries_27 (by decide) rfl rfl rfl rfl rfl rfl rfl rfl rfl rfl ?_
    refine ab_aload_n X 3 d_MO_tries_29 rfl rfl ?_
    refine ab_iconst (v := 0) X d_MO_tries_30 (by decide) ?_
    refine ab_putI X fp_MO_66 d_MO_tries_31 (by first | assumption | decide | (show _ < 124; omega) | (show _ < 61; omega) | (show _ < 20; omega)) rfl rfl ?_
    refine ab_gen (fun u31 e31 => ?_)
    have P31 : gP [18, 19] u u31 := by rw [e31]; exact P0.ui rfl (by decide)
    have t31 : u31.1 17 0 18 = 0 := by rw [e31]; simp [ab_up]
    have L31 : ∀ c, p1 < c → c < P → lk u31 (3 * c) ∧ lk u31 (3 * c + 1) ∧ lk u31 (3 * c + 2) := fun c a b => by unfold lk lnu; simp only [P31.ai (a := 6) (by decide) rfl]; exact hl c a b
    have N31 : ∀ f, lnu u31 f = lnu u f := fun f => by unfold lnu; rw [P31.ai (by decide) rfl]
    have T31 := T.fr P31 (by decide) (by decide) (by decide) (by decide) (by decide)
    refine ab_iload_n X 5 d_MO_tries_34 rfl rfl ?_
    refine ab_iconst (v := 1) X d_MO_tries_35 (by decide) ?_
    refine ab_icmp_ne X 51 d_MO_tries_36 rfl (fun hb => absurd ((by decide)) hb) (fun _ => ?_)
    refine ab_iload_n X 2 d_MO_tries_39 rfl rfl ?_
    refine ab_iconst (v := 1) X d_MO_tries_40 (by decide) ?_
    refine ab_icmp_ne X 51 d_MO_tries_41 rfl (fun h41 => ?_) (fun h41 => ?_)
    ·
      have hkc : ¬ kd p1 = 1 := fun z => h41 (by rw [z]; rfl)
      refine ab_iload_n X 5 d_MO_tries_51 rfl rfl ?_
      refine ab_iconst (v := 2) X d_MO_tries_52 (by decide) ?_
      refine ab_icmp_ne X 76 d_MO_tries_53 rfl (fun _ => ?_) (fun hb => absurd hb ((by decide)))
      refine ab_iload_n X 5 d_MO_tries_76 rfl rfl ?_
      refine ab_bipush (v := 8) X d_MO_tries_77 (by decide) ?_
      refine ab_icmp_ne X 108 d_MO_tries_79 rfl (fun _ => ?_) (fun hb => absurd hb ((by decide)))
      refine ab_iload_n X 5 d_MO_tries_108 rfl rfl ?_
      refine ab_bipush (v := 11) X d_MO_tries_109 (by decide) ?_
      refine ab_icmp_ne X 125 d_MO_tries_111 rfl (fun _ => ?_) (fun hb => absurd hb ((by decide)))
      refine ab_iload_n X 5 d_MO_tries_125 rfl rfl ?_
      refine ab_bipush (v := 12) X d_MO_tries_126 (by decide) ?_
      refine ab_icmp_ne X 147 d_MO_tries_128 rfl (fun _ => ?_) (fun hb => absurd hb ((by decide)))
      refine ab_iload_n X 5 d_MO_tries_147 rfl rfl ?_
      refine ab_bipush (v := 13) X d_MO_tries_148 (by decide) ?_
      refine ab_icmp_ne X 173 d_MO_tries_150 rfl (fun _ => ?_) (fun hb => absurd hb ((by decide)))
      refine ab_iload_n X 5 d_MO_tries_173 rfl rfl ?_
      refine ab_bipush (v := 14) X d_MO_tries_174 (by decide) ?_
      refine ab_icmp_ne X 199 d_MO_tries_176 rfl (fun _ => ?_) (fun hb => absurd hb ((by decide)))
      refine ab_iload_n X 5 d_MO_tries_199 rfl rfl ?_
      refine ab_bipush (v := 18) X d_MO_tries_200 (by decide) ?_
      refine ab_icmp_ne X 231 d_MO_tries_202 rfl (fun _ => ?_) (fun hb => absurd hb ((by decide)))
      refine ab_iload_n X 5 d_MO_tries_231 rfl rfl ?_
      refine ab_bipush (v := 7) X d_MO_tries_232 (by decide) ?_
      refine ab_icmp_ne X 248 d_MO_tries_234 rfl (fun _ => ?_) (fun hb => absurd hb ((by decide)))
      refine ab_iload_n X 5 d_MO_tries_248 rfl rfl ?_
      refine ab_bipush (v := 21) X d_MO_tries_249 (by decide) ?_
      refine ab_icmp_ne X 274 d_MO_tries_251 rfl (fun _ => ?_) (fun hb => absurd hb ((by decide)))
      refine ab_iload_n X 5 d_MO_tries_274 rfl rfl ?_
      refine ab_bipush (v := 24) X d_MO_tries_275 (by decide) ?_
      refine ab_icmp_ne X 304 d_MO_tries_277 rfl (fun _ => ?_) (fun hb => absurd hb ((by decide)))
      refine ab_iload_n X 2 d_MO_tries_304 rfl rfl ?_
      refine ab_bipush (v := 6) X d_MO_tries_305 (by decide) ?_
      refine ab_icmp_ne X 319 d_MO_tries_307 rfl (fun h307 => ?_) (fun h307 => ?_)
      ·
        have hk6 : ¬ kd p1 = 6 := fun z => h307 (by rw [z]; rfl)
        refine ab_lv (List.forall_mem_cons.mpr ⟨List.mem_of_getElem? (i := 3) rfl, List.forall_mem_cons.mpr ⟨List.mem_of_getElem? (i := 4) rfl, fun _ h => absurd h List.not_mem_nil⟩⟩) ?_
        first | exact yes _ P31 (by unfold app; omega) (a48.trans rfl) | exact no _ P31 (by unfold app; omega) t31
      ·
        have hk6 : kd p1 = 6 := (nI_eq (b := 6) (by omega) (by omega)).mp h307
        refine ab_aload_n X 3 d_MO_tries_310 rfl rfl ?_
        refine ab_iload X 1 d_MO_tries_311 rfl ?_
        refine ab_iload X 0 d_MO_tries_313 rfl ?_
        refine ab_iload_n X 5 d_MO_tries_315 rfl rfl ?_
        refine ab_callV (as := [ab_I _, ab_I _, ab_I (nI 1)]) X (fun h => by cases h) (t_MO_triesOr1 u31 _ _) lk_MO_218 d_MO_tries_316 rfl rfl (by first | assumption | decide | (show _ < 124; omega) | (show _ < 61; omega) | (show _ < 20; omega)) ⟨by first | exact Nat.le_of_ble_eq_true rfl | (simp only [ab_rm]; omega), by first | exact Nat.le_of_ble_eq_true rfl | (simp only [ab_rm]; omega)⟩ ⟨by first | exact Nat.le_of_ble_eq_true rfl | (simp only [ab_rm]; omega), by first | exact Nat.le_of_ble_eq_true rfl | (simp only [ab_rm]; omega)⟩ (Nat.le_of_ble_eq_true rfl) (fun u316 r316 h316 => ?_)
        obtain ⟨e316, rfl⟩ := h316
        subst u316
        refine ab_lv (List.forall_mem_cons.mpr ⟨List.mem_of_getElem? (i := 3) rfl, List.forall_mem_cons.mpr ⟨List.mem_of_getElem? (i := 4) rfl, fun _ h => absurd h List.not_mem_nil⟩⟩) ?_
        first | exact yes _ P31 (by unfold app; omega) (a48.trans rfl) | exact no _ P31 (by unfold app; omega) t31
    ·
      have hkc : kd p1 = 1 := (nI_eq (b := 1) (by omega) (by omega)).mp h41
      refine ab_aload_n X 3 d_MO_tries_44 rfl rfl ?_
      refine ab_iconst (v := 1) X d_MO_tries_45 (by decide) ?_
      refine ab_bipush (v := 9) X d_MO_tries_46 (by decide) ?_
      refine ab_callV (as := [ab_I 1, ab_I _]) X (fun h => by cases h) (s_MO_is u31 1 _ P31.1) lk_MO_188 d_MO_tries_48 rfl rfl (by first | assumption | decide | (show _ < 124; omega) | (show _ < 61; omega) | (show _ < 20; omega)) ⟨by first | exact Nat.le_of_ble_eq_true rfl | (simp only [ab_rm]; omega), by first | exact Nat.le_of_ble_eq_true rfl | (simp only [ab_rm]; omega)⟩ ⟨by first | exact Nat.le_of_ble_eq_true rfl | (simp only [ab_rm]; omega), by first | exact Nat.le_of_ble_eq_true rfl | (simp only [ab_rm]; omega)⟩ (Nat.le_of_ble_eq_true rfl) (fun u48 r48 h48 => ?_)
      obtain ⟨⟨q48, a48⟩, rfl⟩ := h48
      have P48 := P31.trans q48 (by decide)
      refine ab_iload_n X 5 d_MO_tries_51 rfl rfl ?_
      refine ab_iconst (v := 2) X d_MO_tries_52 (by decide) ?_
      refine ab_icmp_ne X 76 d_MO_tries_53 rfl (fun _ => ?_) (fun hb => absurd hb ((by decide)))
      refine ab_iload_n X 5 d_MO_tries_76 rfl rfl ?_
      refine ab_bipush (v := 8) X d_MO_tries_77 (by decide) ?_
      refine ab_icmp_ne X 108 d_MO_tries_79 rfl (fun _ => ?_) (fun hb => absurd hb ((by decide)))
      refine ab_iload_n X 5 d_MO_tries_108 rfl rfl ?_
      refine ab_bipush (v := 11) X d_MO_tries_109 (by decide) ?_
      refine ab_icmp_ne X 125 d_MO_tries_111 rfl (fun _ => ?_) (fun hb => absurd hb ((by decide)))
      refine ab_iload_n X 5 d_MO_tries_125 rfl rfl ?_
      refine ab_bipush (v := 12) X d_MO_tries_126 (by decide) ?_
      refine ab_icmp_ne X 147 d_MO_tries_128 rfl (fun _ => ?_) (fun hb => absurd hb ((by decide)))
      refine ab_iload_n X 5 d_MO_tries_147 rfl rfl ?_
      refine ab_bipush (v := 13) X d_MO_tries_148 (by decide) ?_
      refine ab_icmp_ne X 173 d_MO_tries_150 rfl (fun _ => ?_) (fun hb => absurd hb ((by decide)))
      refine ab_iload_n X 5 d_MO_tries_173 rfl rfl ?_
      refine ab_bipush (v := 14) X d_MO_tries_174 (by decide) ?_
      refine ab_icmp_ne X 199 d_MO_tries_176 rfl (fun _ => ?_) (fun hb => absurd hb ((by decide)))
      refine ab_iload_n X 5 d_MO_tries_199 rfl rfl ?_
      refine ab_bipush (v := 18) X d_MO_tries_200 (by decide) ?_
      refine ab_icmp_ne X 231 d_MO_tries_202 rfl (fun _ => ?_) (fun hb => absurd hb ((by decide)))
      refine ab_iload_n X 5 d_MO_tries_231 rfl rfl ?_
      refine ab_bipush (v := 7) X d_MO_tries_232 (by decide) ?_
      refine ab_icmp_ne X 248 d_MO_tries_234 rfl (fun _ => ?_) (fun hb => absurd hb ((by decide)))
      refine ab_iload_n X 5 d_MO_tries_248 rfl rfl ?_
      refine ab_bipush (v := 21) X d_MO_tries_249 (by decide) ?_
      refine ab_icmp_ne X 274 d_MO_tries_251 rfl (fun _ => ?_) (fun hb => absurd hb ((by decide)))
      refine ab_iload_n X 5 d_MO_tries_274 rfl rfl ?_
      refine ab_bipush (v := 24) X d_MO_tries_275 (by decide) ?_
      refine ab_icmp_ne X 304 d_MO_tries_277 rfl (fun _ => ?_) (fun hb => absurd hb ((by decide)))
      refine ab_iload_n X 2 d_MO_tries_304 rfl rfl ?_
      refine ab_bipush (v := 6) X d_MO_tries_305 (by decide) ?_
      refine ab_icmp_ne X 319 d_MO_tries_307 rfl (fun h307 => ?_) (fun h307 => ?_)
      ·
        have hk6 : ¬ kd p1 = 6 := fun z => h307 (by rw [z]; rfl)
        refine ab_lv (List.forall_mem_cons.mpr ⟨List.mem_of_getElem? (i := 3) rfl, List.forall_mem_cons.mpr ⟨List.mem_of_getElem? (i := 4) rfl, fun _ h => absurd h List.not_mem_nil⟩⟩) ?_
        first | exact yes _ P48 (by unfold app; omega) (a48.trans rfl) | exact no _ P48 (by unfold app; omega) t31
      ·
        have hk6 : kd p1 = 6 := (nI_eq (b := 6) (by omega) (by omega)).mp h307
        refine ab_aload_n X 3 d_MO_tries_310 rfl rfl ?_
        refine ab_iload X 1 d_MO_tries_311 rfl ?_
        refine ab_iload X 0 d_MO_tries_313 rfl ?_
        refine ab_iload_n X 5 d_MO_tries_315 rfl rfl ?_
        refine ab_callV (as := [ab_I _, ab_I _, ab_I (nI 1)]) X (fun h => by cases h) (t_MO_triesOr1 u48 _ _) lk_MO_218 d_MO_tries_316 rfl rfl (by first | assumption | decide | (show _ < 124; omega) | (show _ < 61; omega) | (show _ < 20; omega)) ⟨by first | exact Nat.le_of_ble_eq_true rfl | (simp only [ab_rm]; omega), by first | exact Nat.le_of_ble_eq_true rfl | (simp only [ab_rm]; omega)⟩ ⟨by first | exact Nat.le_of_ble_eq_true rfl | (simp only [ab_rm]; omega), by first | exact Nat.le_of_ble_eq_true rfl | (simp only [ab_rm]; omega)⟩ (Nat.le_of_ble_eq_true rfl) (fun u316 r316 h316 => ?_)
        obtain ⟨e316, rfl⟩ := h316
        subst u316
        refine ab_lv (List.forall_mem_cons.mpr ⟨List.mem_of_getElem? (i := 3) rfl, List.forall_mem_cons.mpr ⟨List.mem_of_getElem? (i := 4) rfl, fun _ h => absurd h List.not_mem_nil⟩⟩) ?_
        first | exact yes _ P48 (by unfold app; omega) (a48.trans rfl) | exact no _ P48 (by unfold app; omega) t31
  ·
    refine ab_aload_n X 0 d_MO_tries_0 rfl rfl ?_
    refine ab_gR X fl_MO_33 d_MO_tries_1 (by first | assumption | decide | (show _ < 124; omega) | (show _ < 61; omega) | (show _ < 20; omega)) (P0.1.mo7) ?_
    refine ab_iload_n X 1 d_MO_tries_4 rfl rfl ?_
    refine ab_iald X (p1) ⟨rfl, rfl⟩ d_MO_tries_5 (by first | assumption | decide | (show _ < 124; omega) | (show _ < 61; omega) | (show _ < 20; omega)) (rfl) (show p1 < 40 by omega) (ab_ln_lt _ _) ?_
    refine ab_top ek ?_
    refine ab_istore_n3 X 0 1 2 d_MO_tries_6 rfl (by decide) rfl rfl rfl rfl rfl rfl ?_
    refine ab_aload_n X 1 d_MO_tries_7 rfl rfl ?_
    refine ab_gR X fl_MO_42 d_MO_tries_8 (by first | assumption | decide | (show _ < 124; omega) | (show _ < 61; omega) | (show _ < 20; omega)) (P0.1.mo10) ?_
    refine ab_iconst (v := 4) X d_MO_tries_11 (by decide) ?_
    refine ab_iload_n X 2 d_MO_tries_12 rfl rfl ?_
    refine ab_imul X d_MO_tries_13 ?_
    refine ab_iald X (4 * p1) ⟨rfl, rfl⟩ d_MO_tries_14 (by first | assumption | decide | (show _ < 124; omega) | (show _ < 61; omega) | (show _ < 20; omega)) (nI_4m p1) (show 4 * p1 < 160 by omega) (ab_ln_lt _ _) ?_
    refine ab_istore4 X 0 1 2 3 d_MO_tries_15 (by decide) rfl rfl rfl rfl rfl rfl rfl rfl ?_
    refine ab_aload_n X 2 d_MO_tries_17 rfl rfl ?_
    refine ab_gR X fl_MO_42 d_MO_tries_18 (by first | assumption | decide | (show _ < 124; omega) | (show _ < 61; omega) | (show _ < 20; omega)) (P0.1.mo10) ?_
    refine ab_iconst (v := 4) X d_MO_tries_21 (by decide) ?_
    refine ab_iload_n X 3 d_MO_tries_22 rfl rfl ?_
    refine ab_imul X d_MO_tries_23 ?_
    refine ab_iconst (v := 1) X d_MO_tries_24 (by decide) ?_
    refine ab_iadd X d_MO_tries_25 ?_
    refine ab_iald X (4 * p1 + 1) ⟨rfl, rfl⟩ d_MO_tries_26 (by first | assumption | decide | (show _ < 124; omega) | (show _ < 61; omega) | (show _ < 20; omega)) (nI_4b p1) (show 4 * p1 + 1 < 160 by omega) (ab_ln_lt _ _) ?_
    refine ab_istore5 X 0 1 2 3 4 d_MO_tries_27 (by decide) rfl rfl rfl rfl rfl rfl rfl rfl rfl rfl ?_
    refine ab_aload_n X 3 d_MO_tries_29 rfl rfl ?_
    refine ab_iconst (v := 0) X d_MO_tries_30 (by decide) ?_
    refine ab_putI X fp_MO_66 d_MO_tries_31 (by first | assumption | decide | (show _ < 124; omega) | (show _ < 61; omega) | (show _ < 20; omega)) rfl rfl ?_
    refine ab_gen (fun u31 e31 => ?_)
    have P31 : gP [18, 19] u u31 := by rw [e31]; exact P0.ui rfl (by decide)
    have t31 : u31.1 17 0 18 = 0 := by rw [e31]; simp [ab_up]
    have L31 : ∀ c, p1 < c → c < P → lk u31 (3 * c) ∧ lk u31 (3 * c + 1) ∧ lk u31 (3 * c + 2) := fun c a b => by unfold lk lnu; simp only [P31.ai (a := 6) (by decide) rfl]; exact hl c a b
    have N31 : ∀ f, lnu u31 f = lnu u f := fun f => by unfold lnu; rw [P31.ai (by decide) rfl]
    have T31 := T.fr P31 (by decide) (by decide) (by decide) (by decide) (by decide)
    refine ab_iload_n X 5 d_MO_tries_34 rfl rfl ?_
    refine ab_iconst (v := 1) X d_MO_tries_35 (by decide) ?_
    refine ab_icmp_ne X 51 d_MO_tries_36 rfl (fun _ => ?_) (fun hb => absurd hb ((by decide)))
    refine ab_iload_n X 5 d_MO_tries_51 rfl rfl ?_
    refine ab_iconst (v := 2) X d_MO_tries_52 (by decide) ?_
    refine ab_icmp_ne X 76 d_MO_tries_53 rfl (fun hb => absurd ((by decide)) hb) (fun _ => ?_)
    refine ab_iload_n X 2 d_MO_tries_56 rfl rfl ?_
    refine ab_iconst (v := 5) X d_MO_tries_57 (by decide) ?_
    refine ab_icmp_ne X 76 d_MO_tries_58 rfl (fun h58 => ?_) (fun h58 => ?_)
    ·
      have hk5 : ¬ kd p1 = 5 := fun z => h58 (by rw [z]; rfl)
      refine ab_iload_n X 5 d_MO_tries_76 rfl rfl ?_
      refine ab_bipush (v := 8) X d_MO_tries_77 (by decide) ?_
      refine ab_icmp_ne X 108 d_MO_tries_79 rfl (fun _ => ?_) (fun hb => absurd hb ((by decide)))
      refine ab_iload_n X 5 d_MO_tries_108 rfl rfl ?_
      refine ab_bipush (v := 11) X d_MO_tries_109 (by decide) ?_
      refine ab_icmp_ne X 125 d_MO_tries_111 rfl (fun _ => ?_) (fun hb => absurd hb ((by decide)))
      refine ab_iload_n X 5 d_MO_tries_125 rfl rfl ?_
      refine ab_bipush (v := 12) X d_MO_tries_126 (by decide) ?_
      refine ab_icmp_ne X 147 d_MO_tries_128 rfl (fun _ => ?_) (fun hb => absurd hb ((by decide)))
      refine ab_iload_n X 5 d_MO_tries_147 rfl rfl ?_
      refine ab_bipush (v := 13) X d_MO_tries_148 (by decide) ?_
      refine ab_icmp_ne X 173 d_MO_tries_150 rfl (fun _ => ?_) (fun hb => absurd hb ((by decide)))
      refine ab_iload_n X 5 d_MO_tries_173 rfl rfl ?_
      refine ab_bipush (v := 14) X d_MO_tries_174 (by decide) ?_
      refine ab_icmp_ne X 199 d_MO_tries_176 rfl (fun _ => ?_) (fun hb => absurd hb ((by decide)))
      refine ab_iload_n X 5 d_MO_tries_199 rfl rfl ?_
      refine ab_bipush (v := 18) X d_MO_tries_200 (by decide) ?_
      refine ab_icmp_ne X 231 d_MO_tries_202 rfl (fun _ => ?_) (fun hb => absurd hb ((by decide)))
      refine ab_iload_n X 5 d_MO_tries_231 rfl rfl ?_
      refine ab_bipush (v := 7) X d_MO_tries_232 (by decide) ?_
      refine ab_icmp_ne X 248 d_MO_tries_234 rfl (fun _ => ?_) (fun hb => absurd hb ((by decide)))
      refine ab_iload_n X 5 d_MO_tries_248 rfl rfl ?_
      refine ab_bipush (v := 21) X d_MO_tries_249 (by decide) ?_
      refine ab_icmp_ne X 274 d_MO_tries_251 rfl (fun _ => ?_) (fun hb => absurd hb ((by decide)))
      refine ab_iload_n X 5 d_MO_tries_274 rfl rfl ?_
      refine ab_bipush (v := 24) X d_MO_tries_275 (by decide) ?_
      refine ab_icmp_ne X 304 d_MO_tries_277 rfl (fun _ => ?_) (fun hb => absurd hb ((by decide)))
      refine ab_iload_n X 2 d_MO_tries_304 rfl rfl ?_
      refine ab_bipush (v := 6) X d_MO_tries_305 (by decide) ?_
      refine ab_icmp_ne X 319 d_MO_tries_307 rfl (fun h307 => ?_) (fun h307 => ?_)
      ·
        have hk6 : ¬ kd p1 = 6 := fun z => h307 (by rw [z]; rfl)
        refine ab_lv (List.forall_mem_cons.mpr ⟨List.mem_of_getElem? (i := 3) rfl, List.forall_mem_cons.mpr ⟨List.mem_of_getElem? (i := 4) rfl, fun _ h => absurd h List.not_mem_nil⟩⟩) ?_
        first | exact yes _ P31 (by unfold app; omega) (by rw [a73, N31, N31]; rfl) | exact no _ P31 (by unfold app; omega) t31
      ·
        have hk6 : kd p1 = 6 := (nI_eq (b := 6) (by omega) (by omega)).mp h307
        refine ab_aload_n X 3 d_MO_tries_310 rfl rfl ?_
        refine ab_iload X 1 d_MO_tries_311 rfl ?_
        refine ab_iload X 0 d_MO_tries_313 rfl ?_
        refine ab_iload_n X 5 d_MO_tries_315 rfl rfl ?_
        refine ab_callV (as := [ab_I _, ab_I _, ab_I (nI 2)]) X (fun h => by cases h) (t_MO_triesOr2 u31 _ _) lk_MO_218 d_MO_tries_316 rfl rfl (by first | assumption | decide | (show _ < 124; omega) | (show _ < 61; omega) | (show _ < 20; omega)) ⟨by first | exact Nat.le_of_ble_eq_true rfl | (simp only [ab_rm]; omega), by first | exact Nat.le_of_ble_eq_true rfl | (simp only [ab_rm]; omega)⟩ ⟨by first | exact Nat.le_of_ble_eq_true rfl | (simp only [ab_rm]; omega), by first | exact Nat.le_of_ble_eq_true rfl | (simp only [ab_rm]; omega)⟩ (Nat.le_of_ble_eq_true rfl) (fun u316 r316 h316 => ?_)
        obtain ⟨e316, rfl⟩ := h316
        subst u316
        refine ab_lv (List.forall_mem_cons.mpr ⟨List.mem_of_getElem? (i := 3) rfl, List.forall_mem_cons.mpr ⟨List.mem_of_getElem? (i := 4) rfl, fun _ h => absurd h List.not_mem_nil⟩⟩) ?_
        first | exact yes _ P31 (by unfold app; omega) (by rw [a73, N31, N31]; rfl) | exact no _ P31 (by unfold app; omega) t31
    ·
      have hk5 : kd p1 = 5 := (nI_eq (b := 5) (by omega) (by omega)).mp h58
      obtain ⟨x, y, ex, ey, x1, x2, y1, y2, -, -, -, hx, hy⟩ := W.two T hp (Or.inl hk5)
      rw [ex, ey]
      subst hx hy
      refine ab_aload_n X 3 d_MO_tries_61 rfl rfl ?_
      refine ab_iload X 1 d_MO_tries_62 rfl ?_
      refine ab_callS (as := [ab_I (nI (ch p1 0))]) X (fun h => by cases h) (t_MO_d u31 (ch p1 0)) ls_MO_195 d_MO_tries_64 rfl rfl ⟨by first | exact Nat.le_of_ble_eq_true rfl | (simp only [ab_rm]; omega), by first | exact Nat.le_of_ble_eq_true rfl | (simp only [ab_rm]; omega)⟩ ⟨by first | exact Nat.le_of_ble_eq_true rfl | (simp only [ab_rm]; omega), by first | exact Nat.le_of_ble_eq_true rfl | (simp only [ab_rm]; omega)⟩ (Nat.le_of_ble_eq_true rfl) (fun u64 r64 h64 => ?_)
      obtain ⟨e64, rfl⟩ := h64
      subst u64
      refine ab_iload X 0 d_MO_tries_67 rfl ?_
      refine ab_callS (as := [ab_I (nI (ch p1 1))]) X (fun h => by cases h) (t_MO_d u31 (ch p1 1)) ls_MO_195 d_MO_tries_69 rfl rfl ⟨by first | exact Nat.le_of_ble_eq_true rfl | (simp only [ab_rm]; omega), by first | exact Nat.le_of_ble_eq_true rfl | (simp only [ab_rm]; omega)⟩ ⟨by first | exact Nat.le_of_ble_eq_true rfl | (simp only [ab_rm]; omega), by first | exact Nat.le_of_ble_eq_true rfl | (simp only [ab_rm]; omega)⟩ (Nat.le_of_ble_eq_true rfl) (fun u69 r69 h69 => ?_)
      obtain ⟨e69, rfl⟩ := h69
      subst u69
      refine ab_iconst (v := 3) X d_MO_tries_72 (by decide) ?_
      refine ab_callV (as := [ab_I (nI (3 * ch p1 0 + 1)), ab_I (nI (3 * ch p1 1 + 1)), ab_I (nI 3)]) X (fun h => by cases h) (s_MO_both u31 (3 * ch p1 0 + 1) (3 * ch p1 1 + 1) 3 P31.1 (by omega) (by omega) (L31 _ x1 x2).2.1 (L31 _ y1 y2).2.1) lk_MO_207 d_MO_tries_73 rfl rfl (by first | assumption | decide | (show _ < 124; omega) | (show _ < 61; omega) | (show _ < 20; omega)) ⟨by first | exact Nat.le_of_ble_eq_true rfl | (simp only [ab_rm]; omega), by first | exact Nat.le_of_ble_eq_true rfl | (simp only [ab_rm]; omega)⟩ ⟨by first | exact Nat.le_of_ble_eq_true rfl | (simp only [ab_rm]; omega), by first | exact Nat.le_of_ble_eq_true rfl | (simp only [ab_rm]; omega)⟩ (Nat.le_of_ble_eq_true rfl) (fun u73 r73 h73 => ?_)
      obtain ⟨⟨q73, a73⟩, rfl⟩ := h73
      have P73 := P31.trans q73 (by decide)
      refine ab_iload_n X 5 d_MO_tries_76 rfl rfl ?_
      refine ab_bipush (v := 8) X d_MO_tries_77 (by decide) ?_
      refine ab_icmp_ne X 108 d_MO_tries_79 rfl (fun _ => ?_) (fun hb => absurd hb ((by decide)))
      refine ab_iload_n X 5 d_MO_tries_108 rfl rfl ?_
      refine ab_bipush (v := 11) X d_MO_tries_109 (by decide) ?_
      refine ab_icmp_ne X 125 d_MO_tries_111 rfl (fun _ => ?_) (fun hb => absurd hb ((by decide)))
      refine ab_iload_n X 5 d_MO_tries_125 rfl rfl ?_
      refine ab_bipush (v := 12) X d_MO_tries_126 (by decide) ?_
      refine ab_icmp_ne X 147 d_MO_tries_128 rfl (fun _ => ?_) (fun hb => absurd hb ((by decide)))
      refine ab_iload_n X 5 d_MO_tries_147 rfl rfl ?_
      refine ab_bipush (v := 13) X d_MO_tries_148 (by decide) ?_
      refine ab_icmp_ne X 173 d_MO_tries_150 rfl (fun _ => ?_) (fun hb => absurd hb ((by decide)))
      refine ab_iload_n X 5 d_MO_tries_173 rfl rfl ?_
      refine ab_bipush (v := 14) X d_MO_tries_174 (by decide) ?_
      refine ab_icmp_ne X 199 d_MO_tries_176 rfl (fun _ => ?_) (fun hb => absurd hb ((by decide)))
      refine ab_iload_n X 5 d_MO_tries_199 rfl rfl ?_
      refine ab_bipush (v := 18) X d_MO_tries_200 (by decide) ?_
      refine ab_icmp_ne X 231 d_MO_tries_202 rfl (fun _ => ?_) (fun hb => absurd hb ((by decide)))
      refine ab_iload_n X 5 d_MO_tries_231 rfl rfl ?_
      refine ab_bipush (v := 7) X d_MO_tries_232 (by decide) ?_
      refine ab_icmp_ne X 248 d_MO_tries_234 rfl (fun _ => ?_) (fun hb => absurd hb ((by decide)))
      refine ab_iload_n X 5 d_MO_tries_248 rfl rfl ?_
      refine ab_bipush (v := 21) X d_MO_tries_249 (by decide) ?_
      refine ab_icmp_ne X 274 d_MO_tries_251 rfl (fun _ => ?_) (fun hb => absurd hb ((by decide)))
      refine ab_iload_n X 5 d_MO_tries_274 rfl rfl ?_
      refine ab_bipush (v := 24) X d_MO_tries_275 (by decide) ?_
      refine ab_icmp_ne X 304 d_MO_tries_277 rfl (fun _ => ?_) (fun hb => absurd hb ((by decide)))
      refine ab_iload_n X 2 d_MO_tries_304 rfl rfl ?_
      refine ab_bipush (v := 6) X d_MO_tries_305 (by decide) ?_
      refine ab_icmp_ne X 319 d_MO_tries_307 rfl (fun h307 => ?_) (fun h307 => ?_)
      ·
        have hk6 : ¬ kd p1 = 6 := fun z => h307 (by rw [z]; rfl)
        refine ab_lv (List.forall_mem_cons.mpr ⟨List.mem_of_getElem? (i := 3) rfl, List.forall_mem_cons.mpr ⟨List.mem_of_getElem? (i := 4) rfl, fun _ h => absurd h List.not_mem_nil⟩⟩) ?_
        first | exact yes _ P73 (by unfold app; omega) (by rw [a73, N31, N31]; rfl) | exact no _ P73 (by unfold app; omega) t31
      ·
        have hk6 : kd p1 = 6 := (nI_eq (b := 6) (by omega) (by omega)).mp h307
        refine ab_aload_n X 3 d_MO_tries_310 rfl rfl ?_
        refine ab_iload X 1 d_MO_tries_311 rfl ?_
        refine ab_iload X 0 d_MO_tries_313 rfl ?_
        refine ab_iload_n X 5 d_MO_tries_315 rfl rfl ?_
        refine ab_callV (as := [ab_I _, ab_I _, ab_I (nI 2)]) X (fun h => by cases h) (t_MO_triesOr2 u73 _ _) lk_MO_218 d_MO_tries_316 rfl rfl (by first | assumption | decide | (show _ < 124; omega) | (show _ < 61; omega) | (show _ < 20; omega)) ⟨by first | exact Nat.le_of_ble_eq_true rfl | (simp only [ab_rm]; omega), by first | exact Nat.le_of_ble_eq_true rfl | (simp only [ab_rm]; omega)⟩ ⟨by first | exact Nat.le_of_ble_eq_true rfl | (simp only [ab_rm]; omega), by first | exact Nat.le_of_ble_eq_true rfl | (simp only [ab_rm]; omega)⟩ (Nat.le_of_ble_eq_true rfl) (fun u316 r316 h316 => ?_)
        obtain ⟨e316, rfl⟩ := h316
        subst u316
        refine ab_lv (List.forall_mem_cons.mpr ⟨List.mem_of_getElem? (i := 3) rfl, List.forall_mem_cons.mpr ⟨List.mem_of_getElem? (i := 4) rfl, fun _ h => absurd h List.not_mem_nil⟩⟩) ?_
        first | exact yes _ P73 (by unfold app; omega) (by rw [a73, N31, N31]; rfl) | exact no _ P73 (by unfold app; omega) t31
  ·
    refine ab_aload_n X 0 d_MO_tries_0 rfl rfl ?_
    refine ab_gR X fl_MO_33 d_MO_tries_1 (by first | assumption | decide | (show _ < 124; omega) | (show _ < 61; omega) | (show _ < 20; omega)) (P0.1.mo7) ?_
    refine ab_iload_n X 1 d_MO_tries_4 rfl rfl ?_
    refine ab_iald X (p1) ⟨rfl, rfl⟩ d_MO_tries_5 (by first | assumption | decide | (show _ < 124; omega) | (show _ < 61; omega) | (show _ < 20; omega)) (rfl) (show p1 < 40 by omega) (ab_ln_lt _ _) ?_
    refine ab_top ek ?_
    refine ab_istore_n3 X 0 1 2 d_MO_tries_6 rfl (by decide) rfl rfl rfl rfl rfl rfl ?_
    refine ab_aload_n X 1 d_MO_tries_7 rfl rfl ?_
    refine ab_gR X fl_MO_42 d_MO_tries_8 (by first | assumption | decide | (show _ < 124; omega) | (show _ < 61; omega) | (show _ < 20; omega)) (P0.1.mo10) ?_
    refine ab_iconst (v := 4) X d_MO_tries_11 (by decide) ?_
    refine ab_iload_n X 2 d_MO_tries_12 rfl rfl ?_
    refine ab_imul X d_MO_tries_13 ?_
    refine ab_iald X (4 * p1) ⟨rfl, rfl⟩ d_MO_tries_14 (by first | assumption | decide | (show _ < 124; omega) | (show _ < 61; omega) | (show _ < 20; omega)) (nI_4m p1) (show 4 * p1 < 160 by omega) (ab_ln_lt _ _) ?_
    refine ab_istore4 X 0 1 2 3 d_MO_tries_15 (by decide) rfl rfl rfl rfl rfl rfl rfl rfl ?_
    refine ab_aload_n X 2 d_MO_tries_17 rfl rfl ?_
    refine ab_gR X fl_MO_42 d_MO_tries_18 (by first | assumption | decide | (show _ < 124; omega) | (show _ < 61; omega) | (show _ < 20; omega)) (P0.1.mo10) ?_
    refine ab_iconst (v := 4) X d_MO_tries_21 (by decide) ?_
    refine ab_iload_n X 3 d_MO_tries_22 rfl rfl ?_
    refine ab_imul X d_MO_tries_23 ?_
    refine ab_iconst (v := 1) X d_MO_tries_24 (by decide) ?_
    refine ab_iadd X d_MO_tries_25 ?_
    refine ab_iald X (4 * p1 + 1) ⟨rfl, rfl⟩ d_MO_tries_26 (by first | assumption | decide | (show _ < 124; omega) | (show _ < 61; omega) | (show _ < 20; omega)) (nI_4b p1) (show 4 * p1 + 1 < 160 by omega) (ab_ln_lt _ _) ?_
    refine ab_istore5 X 0 1 2 3 4 d_MO_tries_27 (by decide) rfl rfl rfl rfl rfl rfl rfl rfl rfl rfl ?_
    refine ab_aload_n X 3 d_MO_tries_29 rfl rfl ?_
    refine ab_iconst (v := 0) X d_MO_tries_30 (by decide) ?_
    refine ab_putI X fp_MO_66 d_MO_tries_31 (by first | assumption | decide | (show _ < 124; omega) | (show _ < 61; omega) | (show _ < 20; omega)) rfl rfl ?_
    refine ab_gen (fun u31 e31 => ?_)
    have P31 : gP [18, 19] u u31 := by rw [e31]; exact P0.ui rfl (by decide)
    have t31 : u31.1 17 0 18 = 0 := by rw [e31]; simp [ab_up]
    have L31 : ∀ c, p1 < c → c < P → lk u31 (3 * c) ∧ lk u31 (3 * c + 1) ∧ lk u31 (3 * c + 2) := fun c a b => by unfold lk lnu; simp only [P31.ai (a := 6) (by decide) rfl]; exact hl c a b
    have N31 : ∀ f, lnu u31 f = lnu u f := fun f => by unfold lnu; rw [P31.ai (by decide) rfl]
    have T31 := T.fr P31 (by decide) (by decide) (by decide) (by decide) (by decide)
    refine ab_iload_n X 5 d_MO_tries_34 rfl rfl ?_
    refine ab_iconst (v := 1) X d_MO_tries_35 (by decide) ?_
    refine ab_icmp_ne X 51 d_MO_tries_36 rfl (fun _ => ?_) (fun hb => absurd hb ((by decide)))
    refine ab_iload_n X 5 d_MO_tries_51 rfl rfl ?_
    refine ab_iconst (v := 2) X d_MO_tries_52 (by decide) ?_
    refine ab_icmp_ne X 76 d_MO_tries_53 rfl (fun _ => ?_) (fun hb => absurd hb ((by decide)))
    refine ab_iload_n X 5 d_MO_tries_76 rfl rfl ?_
    refine ab_bipush (v := 8) X d_MO_tries_77 (by decide) ?_
    refine ab_icmp_ne X 108 d_MO_tries_79 rfl (fun _ => ?_) (fun hb => absurd hb ((by decide)))
    refine ab_iload_n X 5 d_MO_tries_108 rfl rfl ?_
    refine ab_bipush (v := 11) X d_MO_tries_109 (by decide) ?_
    refine ab_icmp_ne X 125 d_MO_tries_111 rfl (fun _ => ?_) (fun hb => absurd hb ((by decide)))
    refine ab_iload_n X 5 d_MO_tries_125 rfl rfl ?_
    refine ab_bipush (v := 12) X d_MO_tries_126 (by decide) ?_
    refine ab_icmp_ne X 147 d_MO_tries_128 rfl (fun _ => ?_) (fun hb => absurd hb ((by decide)))
    refine ab_iload_n X 5 d_MO_tries_147 rfl rfl ?_
    refine ab_bipush (v := 13) X d_MO_tries_148 (by decide) ?_
    refine ab_icmp_ne X 173 d_MO_tries_150 rfl (fun _ => ?_) (fun hb => absurd hb ((by decide)))
    refine ab_iload_n X 5 d_MO_tries_173 rfl rfl ?_
    refine ab_bipush (v := 14) X d_MO_tries_174 (by decide) ?_
    refine ab_icmp_ne X 199 d_MO_tries_176 rfl (fun _ => ?_) (fun hb => absurd hb ((by decide)))
    refine ab_iload_n X 5 d_MO_tries_199 rfl rfl ?_
    refine ab_bipush (v := 18) X d_MO_tries_200 (by decide) ?_
    refine ab_icmp_ne X 231 d_MO_tries_202 rfl (fun _ => ?_) (fun hb => absurd hb ((by decide)))
    refine ab_iload_n X 5 d_MO_tries_231 rfl rfl ?_
    refine ab_bipush (v := 7) X d_MO_tries_232 (by decide) ?_
    refine ab_icmp_ne X 248 d_MO_tries_234 rfl (fun _ => ?_) (fun hb => absurd hb ((by decide)))
    refine ab_iload_n X 5 d_MO_tries_248 rfl rfl ?_
    refine ab_bipush (v := 21) X d_MO_tries_249 (by decide) ?_
    refine ab_icmp_ne X 274 d_MO_tries_251 rfl (fun _ => ?_) (fun hb => absurd hb ((by decide)))
    refine ab_iload_n X 5 d_MO_tries_274 rfl rfl ?_
    refine ab_bipush (v := 24) X d_MO_tries_275 (by decide) ?_
    refine ab_icmp_ne X 304 d_MO_tries_277 rfl (fun _ => ?_) (fun hb => absurd hb ((by decide)))
    refine ab_iload_n X 2 d_MO_tries_304 rfl rfl ?_
    refine ab_bipush (v := 6) X d_MO_tries_305 (by decide) ?_
    refine ab_icmp_ne X 319 d_MO_tries_307 rfl (fun h307 => ?_) (fun h307 => ?_)
    ·
      have hk6 : ¬ kd p1 = 6 := fun z => h307 (by rw [z]; rfl)
      refine ab_lv (List.forall_mem_cons.mpr ⟨List.mem_of_getElem? (i := 3) rfl, List.forall_mem_cons.mpr ⟨List.mem_of_getElem? (i := 4) rfl, fun _ h => absurd h List.not_mem_nil⟩⟩) ?_
      first | exact yes _ P31 (by unfold app; omega) (by rw [a316, N31, N31]; rfl) | exact no _ P31 (by unfold app; omega) t31
    ·
      have hk6 : kd p1 = 6 := (nI_eq (b := 6) (by omega) (by omega)).mp h307
      obtain ⟨x, y, ex, ey, x1, x2, y1, y2, -, -, -, hx, hy⟩ := W.two T hp (Or.inr hk6)
      rw [ex, ey]
      subst hx hy
      refine ab_aload_n X 3 d_MO_tries_310 rfl rfl ?_
      refine ab_iload X 1 d_MO_tries_311 rfl ?_
      refine ab_iload X 0 d_MO_tries_313 rfl ?_
      refine ab_iload_n X 5 d_MO_tries_315 rfl rfl ?_
      refine ab_callV (as := [ab_I (nI (ch p1 0)), ab_I (nI (ch p1 1)), ab_I (nI 3)]) X (fun h => by cases h) (s_MO_triesOr3 u31 (ch p1 0) (ch p1 1) P31.1 (by omega) (by omega) (L31 _ x1 x2) (L31 _ y1 y2)) lk_MO_218 d_MO_tries_316 rfl rfl (by first | assumption | decide | (show _ < 124; omega) | (show _ < 61; omega) | (show _ < 20; omega)) ⟨by first | exact Nat.le_of_ble_eq_true rfl | (simp only [ab_rm]; omega), by first | exact Nat.le_of_ble_eq_true rfl | (simp only [ab_rm]; omega)⟩ ⟨by first | exact Nat.le_of_ble_eq_true rfl | (simp only [ab_rm]; omega), by first | exact Nat.le_of_ble_eq_true rfl | (simp only [ab_rm]; omega)⟩ (Nat.le_of_ble_eq_true rfl) (fun u316 r316 h316 => ?_)
      obtain ⟨⟨q316, a316⟩, rfl⟩ := h316
      have P316 := P31.trans q316 (by decide)
      refine ab_lv (List.forall_mem_cons.mpr ⟨List.mem_of_getElem? (i := 3) rfl, List.forall_mem_cons.mpr ⟨List.mem_of_getElem? (i := 4) rfl, fun _ h => absurd h List.not_mem_nil⟩⟩) ?_
      first | exact yes _ P316 (by unfold app; omega) (by rw [a316, N31, N31]; rfl) | exact no _ P316 (by unfold app; omega) t31
  ·
    refine ab_aload_n X 0 d_MO_tries_0 rfl rfl ?_
    refine ab_gR X fl_MO_33 d_MO_tries_1 (by first | assumption | decide | (show _ < 124; omega) | (show _ < 61; omega) | (show _ < 20; omega)) (P0.1.mo7) ?_
    refine ab_iload_n X 1 d_MO_tries_4 rfl rfl ?_
    refine ab_iald X (p1) ⟨rfl, rfl⟩ d_MO_tries_5 (by first | assumption | decide | (show _ < 124; omega) | (show _ < 61; omega) | (show _ < 20; omega)) (rfl) (show p1 < 40 by omega) (ab_ln_lt _ _) ?_
    refine ab_top ek ?_
    refine ab_istore_n3 X 0 1 2 d_MO_tries_6 rfl (by decide) rfl rfl rfl rfl rfl rfl ?_
    refine ab_aload_n X 1 d_MO_tries_7 rfl rfl ?_
    refine ab_gR X fl_MO_42 d_MO_tries_8 (by first | assumption | decide | (show _ < 124; omega) | (show _ < 61; omega) | (show _ < 20; omega)) (P0.1.mo10) ?_
    refine ab_iconst (v := 4) X d_MO_tries_11 (by decide) ?_
    refine ab_iload_n X 2 d_MO_tries_12 rfl rfl ?_
    refine ab_imul X d_MO_tries_13 ?_
    refine ab_iald X (4 * p1) ⟨rfl, rfl⟩ d_MO_tries_14 (by first | assumption | decide | (show _ < 124; omega) | (show _ < 61; omega) | (show _ < 20; omega)) (nI_4m p1) (show 4 * p1 < 160 by omega) (ab_ln_lt _ _) ?_
    refine ab_istore4 X 0 1 2 3 d_MO_tries_15 (by decide) rfl rfl rfl rfl rfl rfl rfl rfl ?_
    refine ab_aload_n X 2 d_MO_tries_17 rfl rfl ?_
    refine ab_gR X fl_MO_42 d_MO_tries_18 (by first | assumption | decide | (show _ < 124; omega) | (show _ < 61; omega) | (show _ < 20; omega)) (P0.1.mo10) ?_
    refine ab_iconst (v := 4) X d_MO_tries_21 (by decide) ?_
    refine ab_iload_n X 3 d_MO_tries_22 rfl rfl ?_
    refine ab_imul X d_MO_tries_23 ?_
    refine ab_iconst (v := 1) X d_MO_tries_24 (by decide) ?_
    refine ab_iadd X d_MO_tries_25 ?_
    refine ab_iald X (4 * p1 + 1) ⟨rfl, rfl⟩ d_MO_tries_26 (by first | assumption | decide | (show _ < 124; omega) | (show _ < 61; omega) | (show _ < 20; omega)) (nI_4b p1) (show 4 * p1 + 1 < 160 by omega) (ab_ln_lt _ _) ?_
    refine ab_istore5 X 0 1 2 3 4 d_MO_tries_27 (by decide) rfl rfl rfl rfl rfl rfl rfl rfl rfl rfl ?_
    refine ab_aload_n X 3 d_MO_tries_29 rfl rfl ?_
    refine ab_iconst (v := 0) X d_MO_tries_30 (by decide) ?_
    refine ab_putI X fp_MO_66 d_MO_tries_31 (by first | assumption | decide | (show _ < 124; omega) | (show _ < 61; omega) | (show _ < 20; omega)) rfl rfl ?_
    refine ab_gen (fun u31 e31 => ?_)
    have P31 : gP [18, 19] u u31 := by rw [e31]; exact P0.ui rfl (by decide)
    have t31 : u31.1 17 0 18 = 0 := by rw [e31]; simp [ab_up]
    have L31 : ∀ c, p1 < c → c < P → lk u31 (3 * c) ∧ lk u31 (3 * c + 1) ∧ lk u31 (3 * c + 2) := fun c a b => by unfold lk lnu; simp only [P31.ai (a := 6) (by decide) rfl]; exact hl c a b
    have N31 : ∀ f, lnu u31 f = lnu u f := fun f => by unfold lnu; rw [P31.ai (by decide) rfl]
    have T31 := T.fr P31 (by decide) (by decide) (by decide) (by decide) (by decide)
    refine ab_iload_n X 5 d_MO_tries_34 rfl rfl ?_
    refine ab_iconst (v := 1) X d_MO_tries_35 (by decide) ?_
    refine ab_icmp_ne X 51 d_MO_tries_36 rfl (fun _ => ?_) (fun hb => absurd hb ((by decide)))
    refine ab_iload_n X 5 d_MO_tries_51 rfl rfl ?_
    refine ab_iconst (v := 2) X d_MO_tries_52 (by decide) ?_
    refine ab_icmp_ne X 76 d_MO_tries_53 rfl (fun _ => ?_) (fun hb => absurd hb ((by decide)))
    refine ab_iload_n X 5 d_MO_tries_76 rfl rfl ?_
    refine ab_bipush (v := 8) X d_MO_tries_77 (by decide) ?_
    refine ab_icmp_ne X 108 d_MO_tries_79 rfl (fun _ => ?_) (fun hb => absurd hb ((by decide)))
    refine ab_iload_n X 5 d_MO_tries_108 rfl rfl ?_
    refine ab_bipush (v := 11) X d_MO_tries_109 (by decide) ?_
    refine ab_icmp_ne X 125 d_MO_tries_111 rfl (fun _ => ?_) (fun hb => absurd hb ((by decide)))
    refine ab_iload_n X 5 d_MO_tries_125 rfl rfl ?_
    refine ab_bipush (v := 12) X d_MO_tries_126 (by decide) ?_
    refine ab_icmp_ne X 147 d_MO_tries_128 rfl (fun _ => ?_) (fun hb => absurd hb ((by decide)))
    refine ab_iload_n X 5 d_MO_tries_147 rfl rfl ?_
    refine ab_bipush (v := 13) X d_MO_tries_148 (by decide) ?_
    refine ab_icmp_ne X 173 d_MO_tries_150 rfl (fun _ => ?_) (fun hb => absurd hb ((by decide)))
    refine ab_iload_n X 5 d_MO_tries_173 rfl rfl ?_
    refine ab_bipush (v := 14) X d_MO_tries_174 (by decide) ?_
    refine ab_icmp_ne X 199 d_MO_tries_176 rfl (fun _ => ?_) (fun hb => absurd hb ((by decide)))
    refine ab_iload_n X 5 d_MO_tries_199 rfl rfl ?_
    refine ab_bipush (v := 18) X d_MO_tries_200 (by decide) ?_
    refine ab_icmp_ne X 231 d_MO_tries_202 rfl (fun _ => ?_) (fun hb => absurd hb ((by decide)))
    refine ab_iload_n X 5 d_MO_tries_231 rfl rfl ?_
    refine ab_bipush (v := 7) X d_MO_tries_232 (by decide) ?_
    refine ab_icmp_ne X 248 d_MO_tries_234 rfl (fun _ => ?_) (fun hb => absurd hb ((by decide)))
    refine ab_iload_n X 5 d_MO_tries_248 rfl rfl ?_
    refine ab_bipush (v := 21) X d_MO_tries_249 (by decide) ?_
    refine ab_icmp_ne X 274 d_MO_tries_251 rfl (fun _ => ?_) (fun hb => absurd hb ((by decide)))
    refine ab_iload_n X 5 d_MO_tries_274 rfl rfl ?_
    refine ab_bipush (v := 24) X d_MO_tries_275 (by decide) ?_
    refine ab_icmp_ne X 304 d_MO_tries_277 rfl (fun _ => ?_) (fun hb => absurd hb ((by decide)))
    refine ab_iload_n X 2 d_MO_tries_304 rfl rfl ?_
    refine ab_bipush (v := 6) X d_MO_tries_305 (by decide) ?_
    refine ab_icmp_ne X 319 d_MO_tries_307 rfl (fun h307 => ?_) (fun h307 => ?_)
    ·
      have hk6 : ¬ kd p1 = 6 := fun z => h307 (by rw [z]; rfl)
      refine ab_lv (List.forall_mem_cons.mpr ⟨List.mem_of_getElem? (i := 3) rfl, List.forall_mem_cons.mpr ⟨List.mem_of_getElem? (i := 4) rfl, fun _ h => absurd h List.not_mem_nil⟩⟩) ?_
      first | exact yes _ P31 (by unfold app; omega) (by rw [a316, N31, N31]; rfl) | exact no _ P31 (by unfold app; omega) t31
    ·
      have hk6 : kd p1 = 6 := (nI_eq (b := 6) (by omega) (by omega)).mp h307
      obtain ⟨x, y, ex, ey, x1, x2, y1, y2, -, -, -, hx, hy⟩ := W.two T hp (Or.inr hk6)
      rw [ex, ey]
      subst hx hy
      refine ab_aload_n X 3 d_MO_tries_310 rfl rfl ?_
      refine ab_iload X 1 d_MO_tries_311 rfl ?_
      refine ab_iload X 0 d_MO_tries_313 rfl ?_
      refine ab_iload_n X 5 d_MO_tries_315 rfl rfl ?_
      refine ab_callV (as := [ab_I (nI (ch p1 0)), ab_I (nI (ch p1 1)), ab_I (nI 4)]) X (fun h => by cases h) (s_MO_triesOr4 u31 (ch p1 0) (ch p1 1) P31.1 (by omega) (by omega) (L31 _ x1 x2) (L31 _ y1 y2)) lk_MO_218 d_MO_tries_316 rfl rfl (by first | assumption | decide | (show _ < 124; omega) | (show _ < 61; omega) | (show _ < 20; omega)) ⟨by first | exact Nat.le_of_ble_eq_true rfl | (simp only [ab_rm]; omega), by first | exact Nat.le_of_ble_eq_true rfl | (simp only [ab_rm]; omega)⟩ ⟨by first | exact Nat.le_of_ble_eq_true rfl | (simp only [ab_rm]; omega), by first | exact Nat.le_of_ble_eq_true rfl | (simp only [ab_rm]; omega)⟩ (Nat.le_of_ble_eq_true rfl) (fun u316 r316 h316 => ?_)
      obtain ⟨⟨q316, a316⟩, rfl⟩ := h316
      have P316 := P31.trans q316 (by decide)
      refine ab_lv (List.forall_mem_cons.mpr ⟨List.mem_of_getElem? (i := 3) rfl, List.forall_mem_cons.mpr ⟨List.mem_of_getElem? (i := 4) rfl, fun _ h => absurd h List.not_mem_nil⟩⟩) ?_
      first | exact yes _ P316 (by unfold app; omega) (by rw [a316, N31, N31]; rfl) | exact no _ P316 (by unfold app; omega) t31
  ·
    refine ab_aload_n X 0 d_MO_tries_0 rfl rfl ?_
    refine ab_gR X fl_MO_33 d_MO_tries_1 (by first | assumption | decide | (show _ < 124; omega) | (show _ < 61; omega) | (show _ < 20; omega)) (P0.1.mo7) ?_
    refine ab_iload_n X 1 d_MO_tries_4 rfl rfl ?_
    refine ab_iald X (p1) ⟨rfl, rfl⟩ d_MO_tries_5 (by first | assumption | decide | (show _ < 124; omega) | (show _ < 61; omega) | (show _ < 20; omega)) (rfl) (show p1 < 40 by omega) (ab_ln_lt _ _) ?_
    refine ab_top ek ?_
    refine ab_istore_n3 X 0 1 2 d_MO_tries_6 rfl (by decide) rfl rfl rfl rfl rfl rfl ?_
    refine ab_aload_n X 1 d_MO_tries_7 rfl rfl ?_
    refine ab_gR X fl_MO_42 d_MO_tries_8 (by first | assumption | decide | (show _ < 124; omega) | (show _ < 61; omega) | (show _ < 20; omega)) (P0.1.mo10) ?_
    refine ab_iconst (v := 4) X d_MO_tries_11 (by decide) ?_
    refine ab_iload_n X 2 d_MO_tries_12 rfl rfl ?_
    refine ab_imul X d_MO_tries_13 ?_
    refine ab_iald X (4 * p1) ⟨rfl, rfl⟩ d_MO_tries_14 (by first | assumption | decide | (show _ < 124; omega) | (show _ < 61; omega) | (show _ < 20; omega)) (nI_4m p1) (show 4 * p1 < 160 by omega) (ab_ln_lt _ _) ?_
    refine ab_istore4 X 0 1 2 3 d_MO_tries_15 (by decide) rfl rfl rfl rfl rfl rfl rfl rfl ?_
    refine ab_aload_n X 2 d_MO_tries_17 rfl rfl ?_
    refine ab_gR X fl_MO_42 d_MO_tries_18 (by first | assumption | decide | (show _ < 124; omega) | (show _ < 61; omega) | (show _ < 20; omega)) (P0.1.mo10) ?_
    refine ab_iconst (v := 4) X d_MO_tries_21 (by decide) ?_
    refine ab_iload_n X 3 d_MO_tries_22 rfl rfl ?_
    refine ab_imul X d_MO_tries_23 ?_
    refine ab_iconst (v := 1) X d_MO_tries_24 (by decide) ?_
    refine ab_iadd X d_MO_tries_25 ?_
    refine ab_iald X (4 * p1 + 1) ⟨rfl, rfl⟩ d_MO_tries_26 (by first | assumption | decide | (show _ < 124; omega) | (show _ < 61; omega) | (show _ < 20; omega)) (nI_4b p1) (show 4 * p1 + 1 < 160 by omega) (ab_ln_lt _ _) ?_
    refine ab_istore5 X 0 1 2 3 4 d_MO_tries_27 (by decide) rfl rfl rfl rfl rfl rfl rfl rfl rfl rfl ?_
    refine ab_aload_n X 3 d_MO_tries_29 rfl rfl ?_
    refine ab_iconst (v := 0) X d_MO_tries_30 (by decide) ?_
    refine ab_putI X fp_MO_66 d_MO_tries_31 (by first | assumption | decide | (show _ < 124; omega) | (show _ < 61; omega) | (show _ < 20; omega)) rfl rfl ?_
    refine ab_gen (fun u31 e31 => ?_)
    have P31 : gP [18, 19] u u31 := by rw [e31]; exact P0.ui rfl (by decide)
    have t31 : u31.1 17 0 18 = 0 := by rw [e31]; simp [ab_up]
    have L31 : ∀ c, p1 < c → c < P → lk u31 (3 * c) ∧ lk u31 (3 * c + 1) ∧ lk u31 (3 * c + 2) := fun c a b => by unfold lk lnu; simp only [P31.ai (a := 6) (by decide) rfl]; exact hl c a b
    have N31 : ∀ f, lnu u31 f = lnu u f := fun f => by unfold lnu; rw [P31.ai (by decide) rfl]
    have T31 := T.fr P31 (by decide) (by decide) (by decide) (by decide) (by decide)
    refine ab_iload_n X 5 d_MO_tries_34 rfl rfl ?_
    refine ab_iconst (v := 1) X d_MO_tries_35 (by decide) ?_
    refine ab_icmp_ne X 51 d_MO_tries_36 rfl (fun _ => ?_) (fun hb => absurd hb ((by decide)))
    refine ab_iload_n X 5 d_MO_tries_51 rfl rfl ?_
    refine ab_iconst (v := 2) X d_MO_tries_52 (by decide) ?_
    refine ab_icmp_ne X 76 d_MO_tries_53 rfl (fun _ => ?_) (fun hb => absurd hb ((by decide)))
    refine ab_iload_n X 5 d_MO_tries_76 rfl rfl ?_
    refine ab_bipush (v := 8) X d_MO_tries_77 (by decide) ?_
    refine ab_icmp_ne X 108 d_MO_tries_79 rfl (fun _ => ?_) (fun hb => absurd hb ((by decide)))
    refine ab_iload_n X 5 d_MO_tries_108 rfl rfl ?_
    refine ab_bipush (v := 11) X d_MO_tries_109 (by decide) ?_
    refine ab_icmp_ne X 125 d_MO_tries_111 rfl (fun _ => ?_) (fun hb => absurd hb ((by decide)))
    refine ab_iload_n X 5 d_MO_tries_125 rfl rfl ?_
    refine ab_bipush (v := 12) X d_MO_tries_126 (by decide) ?_
    refine ab_icmp_ne X 147 d_MO_tries_128 rfl (fun _ => ?_) (fun hb => absurd hb ((by decide)))
    refine ab_iload_n X 5 d_MO_tries_147 rfl rfl ?_
    refine ab_bipush (v := 13) X d_MO_tries_148 (by decide) ?_
    refine ab_icmp_ne X 173 d_MO_tries_150 rfl (fun _ => ?_) (fun hb => absurd hb ((by decide)))
    refine ab_iload_n X 5 d_MO_tries_173 rfl rfl ?_
    refine ab_bipush (v := 14) X d_MO_tries_174 (by decide) ?_
    refine ab_icmp_ne X 199 d_MO_tries_176 rfl (fun _ => ?_) (fun hb => absurd hb ((by decide)))
    refine ab_iload_n X 5 d_MO_tries_199 rfl rfl ?_
    refine ab_bipush (v := 18) X d_MO_tries_200 (by decide) ?_
    refine ab_icmp_ne X 231 d_MO_tries_202 rfl (fun _ => ?_) (fun hb => absurd hb ((by decide)))
    refine ab_iload_n X 5 d_MO_tries_231 rfl rfl ?_
    refine ab_bipush (v := 7) X d_MO_tries_232 (by decide) ?_
    refine ab_icmp_ne X 248 d_MO_tries_234 rfl (fun _ => ?_) (fun hb => absurd hb ((by decide)))
    refine ab_iload_n X 5 d_MO_tries_248 rfl rfl ?_
    refine ab_bipush (v := 21) X d_MO_tries_249 (by decide) ?_
    refine ab_icmp_ne X 274 d_MO_tries_251 rfl (fun _ => ?_) (fun hb => absurd hb ((by decide)))
    refine ab_iload_n X 5 d_MO_tries_274 rfl rfl ?_
    refine ab_bipush (v := 24) X d_MO_tries_275 (by decide) ?_
    refine ab_icmp_ne X 304 d_MO_tries_277 rfl (fun _ => ?_) (fun hb => absurd hb ((by decide)))
    refine ab_iload_n X 2 d_MO_tries_304 rfl rfl ?_
    refine ab_bipush (v := 6) X d_MO_tries_305 (by decide) ?_
    refine ab_icmp_ne X 319 d_MO_tries_307 rfl (fun h307 => ?_) (fun h307 => ?_)
    ·
      have hk6 : ¬ kd p1 = 6 := fun z => h307 (by rw [z]; rfl)
      refine ab_lv (List.forall_mem_cons.mpr ⟨List.mem_of_getElem? (i := 3) rfl, List.forall_mem_cons.mpr ⟨List.mem_of_getElem? (i := 4) rfl, fun _ h => absurd h List.not_mem_nil⟩⟩) ?_
      first | exact yes _ P31 (by unfold app; omega) (by rw [a316, N31, N31]; rfl) | exact no _ P31 (by unfold app; omega) t31
    ·
      have hk6 : kd p1 = 6 := (nI_eq (b := 6) (by omega) (by omega)).mp h307
      obtain ⟨x, y, ex, ey, x1, x2, y1, y2, -, -, -, hx, hy⟩ := W.two T hp (Or.inr hk6)
      rw [ex, ey]
      subst hx hy
      refine ab_aload_n X 3 d_MO_tries_310 rfl rfl ?_
      refine ab_iload X 1 d_MO_tries_311 rfl ?_
      refine ab_iload X 0 d_MO_tries_313 rfl ?_
      refine ab_iload_n X 5 d_MO_tries_315 rfl rfl ?_
      refine ab_callV (as := [ab_I (nI (ch p1 0)), ab_I (nI (ch p1 1)), ab_I (nI 5)]) X (fun h => by cases h) (s_MO_triesOr5 u31 (ch p1 0) (ch p1 1) P31.1 (by omega) (by omega) (L31 _ x1 x2) (L31 _ y1 y2)) lk_MO_218 d_MO_tries_316 rfl rfl (by first | assumption | decide | (show _ < 124; omega) | (show _ < 61; omega) | (show _ < 20; omega)) ⟨by first | exact Nat.le_of_ble_eq_true rfl | (simp only [ab_rm]; omega), by first | exact Nat.le_of_ble_eq_true rfl | (simp only [ab_rm]; omega)⟩ ⟨by first | exact Nat.le_of_ble_eq_true rfl | (simp only [ab_rm]; omega), by first | exact Nat.le_of_ble_eq_true rfl | (simp only [ab_rm]; omega)⟩ (Nat.le_of_ble_eq_true rfl) (fun u316 r316 h316 => ?_)
      obtain ⟨⟨q316, a316⟩, rfl⟩ := h316
      have P316 := P31.trans q316 (by decide)
      refine ab_lv (List.forall_mem_cons.mpr ⟨List.mem_of_getElem? (i := 3) rfl, List.forall_mem_cons.mpr ⟨List.mem_of_getElem? (i := 4) rfl, fun _ h => absurd h List.not_mem_nil⟩⟩) ?_
      first | exact yes _ P316 (by unfold app; omega) (by rw [a316, N31, N31]; rfl) | exact no _ P316 (by unfold app; omega) t31
  ·
    refine ab_aload_n X 0 d_MO_tries_0 rfl rfl ?_
    refine ab_gR X fl_MO_33 d_MO_tries_1 (by first | assumption | decide | (show _ < 124; omega) | (show _ < 61; omega) | (show _ < 20; omega)) (P0.1.mo7) ?_
    refine ab_iload_n X 1 d_MO_tries_4 rfl rfl ?_
    refine ab_iald X (p1) ⟨rfl, rfl⟩ d_MO_tries_5 (by first | assumption | decide | (show _ < 124; omega) | (show _ < 61; omega) | (show _ < 20; omega)) (rfl) (show p1 < 40 by omega) (ab_ln_lt _ _) ?_
    refine ab_top ek ?_
    refine ab_istore_n3 X 0 1 2 d_MO_tries_6 rfl (by decide) rfl rfl rfl rfl rfl rfl ?_
    refine ab_aload_n X 1 d_MO_tries_7 rfl rfl ?_
    refine ab_gR X fl_MO_42 d_MO_tries_8 (by first | assumption | decide | (show _ < 124; omega) | (show _ < 61; omega) | (show _ < 20; omega)) (P0.1.mo10) ?_
    refine ab_iconst (v := 4) X d_MO_tries_11 (by decide) ?_
    refine ab_iload_n X 2 d_MO_tries_12 rfl rfl ?_
    refine ab_imul X d_MO_tries_13 ?_
    refine ab_iald X (4 * p1) ⟨rfl, rfl⟩ d_MO_tries_14 (by first | assumption | decide | (show _ < 124; omega) | (show _ < 61; omega) | (show _ < 20; omega)) (nI_4m p1) (show 4 * p1 < 160 by omega) (ab_ln_lt _ _) ?_
    refine ab_istore4 X 0 1 2 3 d_MO_tries_15 (by decide) rfl rfl rfl rfl rfl rfl rfl rfl ?_
    refine ab_aload_n X 2 d_MO_tries_17 rfl rfl ?_
    refine ab_gR X fl_MO_42 d_MO_tries_18 (by first | assumption | decide | (show _ < 124; omega) | (show _ < 61; omega) | (show _ < 20; omega)) (P0.1.mo10) ?_
    refine ab_iconst (v := 4) X d_MO_tries_21 (by decide) ?_
    refine ab_iload_n X 3 d_MO_tries_22 rfl rfl ?_
    refine ab_imul X d_MO_tries_23 ?_
    refine ab_iconst (v := 1) X d_MO_tries_24 (by decide) ?_
    refine ab_iadd X d_MO_tries_25 ?_
    refine ab_iald X (4 * p1 + 1) ⟨rfl, rfl⟩ d_MO_tries_26 (by first | assumption | decide | (show _ < 124; omega) | (show _ < 61; omega) | (show _ < 20; omega)) (nI_4b p1) (show 4 * p1 + 1 < 160 by omega) (ab_ln_lt _ _) ?_
    refine ab_istore5 X 0 1 2 3 4 d_MO_tries_27 (by decide) rfl rfl rfl rfl rfl rfl rfl rfl rfl rfl ?_
    refine ab_aload_n X 3 d_MO_tries_29 rfl rfl ?_
    refine ab_iconst (v := 0) X d_MO_tries_30 (by decide) ?_
    refine ab_putI X fp_MO_66 d_MO_tries_31 (by first | assumption | decide | (show _ < 124; omega) | (show _ < 61; omega) | (show _ < 20; omega)) rfl rfl ?_
    refine ab_gen (fun u31 e31 => ?_)
    have P31 : gP [18, 19] u u31 := by rw [e31]; exact P0.ui rfl (by decide)
    have t31 : u31.1 17 0 18 = 0 := by rw [e31]; simp [ab_up]
    have L31 : ∀ c, p1 < c → c < P → lk u31 (3 * c) ∧ lk u31 (3 * c + 1) ∧ lk u31 (3 * c + 2) := fun c a b => by unfold lk lnu; simp only [P31.ai (a := 6) (by decide) rfl]; exact hl c a b
    have N31 : ∀ f, lnu u31 f = lnu u f := fun f => by unfold lnu; rw [P31.ai (by decide) rfl]
    have T31 := T.fr P31 (by decide) (by decide) (by decide) (by decide) (by decide)
    refine ab_iload_n X 5 d_MO_tries_34 rfl rfl ?_
    refine ab_iconst (v := 1) X d_MO_tries_35 (by decide) ?_
    refine ab_icmp_ne X 51 d_MO_tries_36 rfl (fun _ => ?_) (fun hb => absurd hb ((by decide)))
    refine ab_iload_n X 5 d_MO_tries_51 rfl rfl ?_
    refine ab_iconst (v := 2) X d_MO_tries_52 (by decide) ?_
    refine ab_icmp_ne X 76 d_MO_tries_53 rfl (fun _ => ?_) (fun hb => absurd hb ((by decide)))
    refine ab_iload_n X 5 d_MO_tries_76 rfl rfl ?_
    refine ab_bipush (v := 8) X d_MO_tries_77 (by decide) ?_
    refine ab_icmp_ne X 108 d_MO_tries_79 rfl (fun _ => ?_) (fun hb => absurd hb ((by decide)))
    refine ab_iload_n X 5 d_MO_tries_108 rfl rfl ?_
    refine ab_bipush (v := 11) X d_MO_tries_109 (by decide) ?_
    refine ab_icmp_ne X 125 d_MO_tries_111 rfl (fun _ => ?_) (fun hb => absurd hb ((by decide)))
    refine ab_iload_n X 5 d_MO_tries_125 rfl rfl ?_
    refine ab_bipush (v := 12) X d_MO_tries_126 (by decide) ?_
    refine ab_icmp_ne X 147 d_MO_tries_128 rfl (fun _ => ?_) (fun hb => absurd hb ((by decide)))
    refine ab_iload_n X 5 d_MO_tries_147 rfl rfl ?_
    refine ab_bipush (v := 13) X d_MO_tries_148 (by decide) ?_
    refine ab_icmp_ne X 173 d_MO_tries_150 rfl (fun _ => ?_) (fun hb => absurd hb ((by decide)))
    refine ab_iload_n X 5 d_MO_tries_173 rfl rfl ?_
    refine ab_bipush (v := 14) X d_MO_tries_174 (by decide) ?_
    refine ab_icmp_ne X 199 d_MO_tries_176 rfl (fun _ => ?_) (fun hb => absurd hb ((by decide)))
    refine ab_iload_n X 5 d_MO_tries_199 rfl rfl ?_
    refine ab_bipush (v := 18) X d_MO_tries_200 (by decide) ?_
    refine ab_icmp_ne X 231 d_MO_tries_202 rfl (fun _ => ?_) (fun hb => absurd hb ((by decide)))
    refine ab_iload_n X 5 d_MO_tries_231 rfl rfl ?_
    refine ab_bipush (v := 7) X d_MO_tries_232 (by decide) ?_
    refine ab_icmp_ne X 248 d_MO_tries_234 rfl (fun _ => ?_) (fun hb => absurd hb ((by decide)))
    refine ab_iload_n X 5 d_MO_tries_248 rfl rfl ?_
    refine ab_bipush (v := 21) X d_MO_tries_249 (by decide) ?_
    refine ab_icmp_ne X 274 d_MO_tries_251 rfl (fun _ => ?_) (fun hb => absurd hb ((by decide)))
    refine ab_iload_n X 5 d_MO_tries_274 rfl rfl ?_
    refine ab_bipush (v := 24) X d_MO_tries_275 (by decide) ?_
    refine ab_icmp_ne X 304 d_MO_tries_277 rfl (fun _ => ?_) (fun hb => absurd hb ((by decide)))
    refine ab_iload_n X 2 d_MO_tries_304 rfl rfl ?_
    refine ab_bipush (v := 6) X d_MO_tries_305 (by decide) ?_
    refine ab_icmp_ne X 319 d_MO_tries_307 rfl (fun h307 => ?_) (fun h307 => ?_)
    ·
      have hk6 : ¬ kd p1 = 6 := fun z => h307 (by rw [z]; rfl)
      refine ab_lv (List.forall_mem_cons.mpr ⟨List.mem_of_getElem? (i := 3) rfl, List.forall_mem_cons.mpr ⟨List.mem_of_getElem? (i := 4) rfl, fun _ h => absurd h List.not_mem_nil⟩⟩) ?_
      first | exact yes _ P31 (by unfold app; omega) (by rw [a316, N31, N31]; rfl) | exact no _ P31 (by unfold app; omega) t31
    ·
      have hk6 : kd p1 = 6 := (nI_eq (b := 6) (by omega) (by omega)).mp h307
      obtain ⟨x, y, ex, ey, x1, x2, y1, y2, -, -, -, hx, hy⟩ := W.two T hp (Or.inr hk6)
      rw [ex, ey]
      subst hx hy
      refine ab_aload_n X 3 d_MO_tries_310 rfl rfl ?_
      refine ab_iload X 1 d_MO_tries_311 rfl ?_
      refine ab_iload X 0 d_MO_tries_313 rfl ?_
      refine ab_iload_n X 5 d_MO_tries_315 rfl rfl ?_
      refine ab_callV (as := [ab_I (nI (ch p1 0)), ab_I (nI (ch p1 1)), ab_I (nI 6)]) X (fun h => by cases h) (s_MO_triesOr6 u31 (ch p1 0) (ch p1 1) P31.1 (by omega) (by omega) (L31 _ x1 x2) (L31 _ y1 y2)) lk_MO_218 d_MO_tries_316 rfl rfl (by first | assumption | decide | (show _ < 124; omega) | (show _ < 61; omega) | (show _ < 20; omega)) ⟨by first | exact Nat.le_of_ble_eq_true rfl | (simp only [ab_rm]; omega), by first | exact Nat.le_of_ble_eq_true rfl | (simp only [ab_rm]; omega)⟩ ⟨by first | exact Nat.le_of_ble_eq_true rfl | (simp only [ab_rm]; omega), by first | exact Nat.le_of_ble_eq_true rfl | (simp only [ab_rm]; omega)⟩ (Nat.le_of_ble_eq_true rfl) (fun u316 r316 h316 => ?_)
      obtain ⟨⟨q316, a316⟩, rfl⟩ := h316
      have P316 := P31.trans q316 (by decide)
      refine ab_lv (List.forall_mem_cons.mpr ⟨List.mem_of_getElem? (i := 3) rfl, List.forall_mem_cons.mpr ⟨List.mem_of_getElem? (i := 4) rfl, fun _ h => absurd h List.not_mem_nil⟩⟩) ?_
      first | exact yes _ P316 (by unfold app; omega) (by rw [a316, N31, N31]; rfl) | exact no _ P316 (by unfold app; omega) t31
  ·
    refine ab_aload_n X 0 d_MO_tries_0 rfl rfl ?_
    refine ab_gR X fl_MO_33 d_MO_tries_1 (by first | assumption | decide | (show _ < 124; omega) | (show _ < 61; omega) | (show _ < 20; omega)) (P0.1.mo7) ?_
    refine ab_iload_n X 1 d_MO_tries_4 rfl rfl ?_
    refine ab_iald X (p1) ⟨rfl, rfl⟩ d_MO_tries_5 (by first | assumption | decide | (show _ < 124; omega) | (show _ < 61; omega) | (show _ < 20; omega)) (rfl) (show p1 < 40 by omega) (ab_ln_lt _ _) ?_
    refine ab_top ek ?_
    refine ab_istore_n3 X 0 1 2 d_MO_tries_6 rfl (by decide) rfl rfl rfl rfl rfl rfl ?_
    refine ab_aload_n X 1 d_MO_tries_7 rfl rfl ?_
    refine ab_gR X fl_MO_42 d_MO_tries_8 (by first | assumption | decide | (show _ < 124; omega) | (show _ < 61; omega) | (show _ < 20; omega)) (P0.1.mo10) ?_
    refine ab_iconst (v := 4) X d_MO_tries_11 (by decide) ?_
    refine ab_iload_n X 2 d_MO_tries_12 rfl rfl ?_
    refine ab_imul X d_MO_tries_13 ?_
    refine ab_iald X (4 * p1) ⟨rfl, rfl⟩ d_MO_tries_14 (by first | assumption | decide | (show _ < 124; omega) | (show _ < 61; omega) | (show _ < 20; omega)) (nI_4m p1) (show 4 * p1 < 160 by omega) (ab_ln_lt _ _) ?_
    refine ab_istore4 X 0 1 2 3 d_MO_tries_15 (by decide) rfl rfl rfl rfl rfl rfl rfl rfl ?_
    refine ab_aload_n X 2 d_MO_tries_17 rfl rfl ?_
    refine ab_gR X fl_MO_42 d_MO_tries_18 (by first | assumption | decide | (show _ < 124; omega) | (show _ < 61; omega) | (show _ < 20; omega)) (P0.1.mo10) ?_
    refine ab_iconst (v := 4) X d_MO_tries_21 (by decide) ?_
    refine ab_iload_n X 3 d_MO_tries_22 rfl rfl ?_
    refine ab_imul X d_MO_tries_23 ?_
    refine ab_iconst (v := 1) X d_MO_tries_24 (by decide) ?_
    refine ab_iadd X d_MO_tries_25 ?_
    refine ab_iald X (4 * p1 + 1) ⟨rfl, rfl⟩ d_MO_tries_26 (by first | assumption | decide | (show _ < 124; omega) | (show _ < 61; omega) | (show _ < 20; omega)) (nI_4b p1) (show 4 * p1 + 1 < 160 by omega) (ab_ln_lt _ _) ?_
    refine ab_istore5 X 0 1 2 3 4 d_MO_tries_27 (by decide) rfl rfl rfl rfl rfl rfl rfl rfl rfl rfl ?_
    refine ab_aload_n X 3 d_MO_tries_29 rfl rfl ?_
    refine ab_iconst (v := 0) X d_MO_tries_30 (by decide) ?_
    refine ab_putI X fp_MO_66 d_MO_tries_31 (by first | assumption | decide | (show _ < 124; omega) | (show _ < 61; omega) | (show _ < 20; omega)) rfl rfl ?_
    refine ab_gen (fun u31 e31 => ?_)
    have P31 : gP [18, 19] u u31 := by rw [e31]; exact P0.ui rfl (by decide)
    have t31 : u31.1 17 0 18 = 0 := by rw [e31]; simp [ab_up]
    have L31 : ∀ c, p1 < c → c < P → lk u31 (3 * c) ∧ lk u31 (3 * c + 1) ∧ lk u31 (3 * c + 2) := fun c a b => by unfold lk lnu; simp only [P31.ai (a := 6) (by decide) rfl]; exact hl c a b
    have N31 : ∀ f, lnu u31 f = lnu u f := fun f => by unfold lnu; rw [P31.ai (by decide) rfl]
    have T31 := T.fr P31 (by decide) (by decide) (by decide) (by decide) (by decide)
    refine ab_iload_n X 5 d_MO_tries_34 rfl rfl ?_
    refine ab_iconst (v := 1) X d_MO_tries_35 (by decide) ?_
    refine ab_icmp_ne X 51 d_MO_tries_36 rfl (fun _ => ?_) (fun hb => absurd hb ((by decide)))
    refine ab_iload_n X 5 d_MO_tries_51 rfl rfl ?_
    refine ab_iconst (v := 2) X d_MO_tries_52 (by decide) ?_
    refine ab_icmp_ne X 76 d_MO_tries_53 rfl (fun _ => ?_) (fun hb => absurd hb ((by decide)))
    refine ab_iload_n X 5 d_MO_tries_76 rfl rfl ?_
    refine ab_bipush (v := 8) X d_MO_tries_77 (by decide) ?_
    refine ab_icmp_ne X 108 d_MO_tries_79 rfl (fun _ => ?_) (fun hb => absurd hb ((by decide)))
    refine ab_iload_n X 5 d_MO_tries_108 rfl rfl ?_
    refine ab_bipush (v := 11) X d_MO_tries_109 (by decide) ?_
    refine ab_icmp_ne X 125 d_MO_tries_111 rfl (fun _ => ?_) (fun hb => absurd hb ((by decide)))
    refine ab_iload_n X 5 d_MO_tries_125 rfl rfl ?_
    refine ab_bipush (v := 12) X d_MO_tries_126 (by decide) ?_
    refine ab_icmp_ne X 147 d_MO_tries_128 rfl (fun _ => ?_) (fun hb => absurd hb ((by decide)))
    refine ab_iload_n X 5 d_MO_tries_147 rfl rfl ?_
    refine ab_bipush (v := 13) X d_MO_tries_148 (by decide) ?_
    refine ab_icmp_ne X 173 d_MO_tries_150 rfl (fun _ => ?_) (fun hb => absurd hb ((by decide)))
    refine ab_iload_n X 5 d_MO_tries_173 rfl rfl ?_
    refine ab_bipush (v := 14) X d_MO_tries_174 (by decide) ?_
    refine ab_icmp_ne X 199 d_MO_tries_176 rfl (fun _ => ?_) (fun hb => absurd hb ((by decide)))
    refine ab_iload_n X 5 d_MO_tries_199 rfl rfl ?_
    refine ab_bipush (v := 18) X d_MO_tries_200 (by decide) ?_
    refine ab_icmp_ne X 231 d_MO_tries_202 rfl (fun _ => ?_) (fun hb => absurd hb ((by decide)))
    refine ab_iload_n X 5 d_MO_tries_231 rfl rfl ?_
    refine ab_bipush (v := 7) X d_MO_tries_232 (by decide) ?_
    refine ab_icmp_ne X 248 d_MO_tries_234 rfl (fun hb => absurd ((by decide)) hb) (fun _ => ?_)
    refine ab_iload_n X 2 d_MO_tries_237 rfl rfl ?_
    refine ab_bipush (v := 7) X d_MO_tries_238 (by decide) ?_
    refine ab_icmp_ne X 248 d_MO_tries_240 rfl (fun h240 => ?_) (fun h240 => ?_)
    ·
      have hk7 : ¬ kd p1 = 7 := fun z => h240 (by rw [z]; rfl)
      refine ab_iload_n X 5 d_MO_tries_248 rfl rfl ?_
      refine ab_bipush (v := 21) X d_MO_tries_249 (by decide) ?_
      refine ab_icmp_ne X 274 d_MO_tries_251 rfl (fun _ => ?_) (fun hb => absurd hb ((by decide)))
      refine ab_iload_n X 5 d_MO_tries_274 rfl rfl ?_
      refine ab_bipush (v := 24) X d_MO_tries_275 (by decide) ?_
      refine ab_icmp_ne X 304 d_MO_tries_277 rfl (fun _ => ?_) (fun hb => absurd hb ((by decide)))
      refine ab_iload_n X 2 d_MO_tries_304 rfl rfl ?_
      refine ab_bipush (v := 6) X d_MO_tries_305 (by decide) ?_
      refine ab_icmp_ne X 319 d_MO_tries_307 rfl (fun h307 => ?_) (fun h307 => ?_)
      ·
        have hk6 : ¬ kd p1 = 6 := fun z => h307 (by rw [z]; rfl)
        refine ab_lv (List.forall_mem_cons.mpr ⟨List.mem_of_getElem? (i := 3) rfl, List.forall_mem_cons.mpr ⟨List.mem_of_getElem? (i := 4) rfl, fun _ h => absurd h List.not_mem_nil⟩⟩) ?_
        first | exact yes _ P31 (by unfold app; omega) (by rw [a245]; unfold wl; simp only [N31]) | exact no _ P31 (by unfold app; omega) t31
      ·
        have hk6 : kd p1 = 6 := (nI_eq (b := 6) (by omega) (by omega)).mp h307
        refine ab_aload_n X 3 d_MO_tries_310 rfl rfl ?_
        refine ab_iload X 1 d_MO_tries_311 rfl ?_
        refine ab_iload X 0 d_MO_tries_313 rfl ?_
        refine ab_iload_n X 5 d_MO_tries_315 rfl rfl ?_
        refine ab_callV (as := [ab_I _, ab_I _, ab_I (nI 7)]) X (fun h => by cases h) (t_MO_triesOr7 u31 _ _) lk_MO_218 d_MO_tries_316 rfl rfl (by first | assumption | decide | (show _ < 124; omega) | (show _ < 61; omega) | (show _ < 20; omega)) ⟨by first | exact Nat.le_of_ble_eq_true rfl | (simp only [ab_rm]; omega), by first | exact Nat.le_of_ble_eq_true rfl | (simp only [ab_rm]; omega)⟩ ⟨by first | exact Nat.le_of_ble_eq_true rfl | (simp only [ab_rm]; omega), by first | exact Nat.le_of_ble_eq_true rfl | (simp only [ab_rm]; omega)⟩ (Nat.le_of_ble_eq_true rfl) (fun u316 r316 h316 => ?_)
        obtain ⟨e316, rfl⟩ := h316
        subst u316
        refine ab_lv (List.forall_mem_cons.mpr ⟨List.mem_of_getElem? (i := 3) rfl, List.forall_mem_cons.mpr ⟨List.mem_of_getElem? (i := 4) rfl, fun _ h => absurd h List.not_mem_nil⟩⟩) ?_
        first | exact yes _ P31 (by unfold app; omega) (by rw [a245]; unfold wl; simp only [N31]) | exact no _ P31 (by unfold app; omega) t31
    ·
      have hk7 : kd p1 = 7 := (nI_eq (b := 7) (by omega) (by omega)).mp h240
      refine ab_aload_n X 3 d_MO_tries_243 rfl rfl ?_
      refine ab_iload_n X 4 d_MO_tries_244 rfl rfl ?_
      refine ab_callV (as := [ab_I (nI p1)]) X (fun h => by cases h) (s_MO_threshold u31 P kd ar cn lf ch W T31 p1 P31.1 hp hk7 L31) lk_MO_215 d_MO_tries_245 rfl rfl (by first | assumption | decide | (show _ < 124; omega) | (show _ < 61; omega) | (show _ < 20; omega)) ⟨by first | exact Nat.le_of_ble_eq_true rfl | (simp only [ab_rm]; omega), by first | exact Nat.le_of_ble_eq_true rfl | (simp only [ab_rm]; omega)⟩ ⟨by first | exact Nat.le_of_ble_eq_true rfl | (simp only [ab_rm]; omega), by first | exact Nat.le_of_ble_eq_true rfl | (simp only [ab_rm]; omega)⟩ (Nat.le_of_ble_eq_true rfl) (fun u245 r245 h245 => ?_)
      obtain ⟨⟨q245, a245⟩, rfl⟩ := h245
      have P245 := P31.trans q245 (by decide)
      refine ab_iload_n X 5 d_MO_tries_248 rfl rfl ?_
      refine ab_bipush (v := 21) X d_MO_tries_249 (by decide) ?_
      refine ab_icmp_ne X 274 d_MO_tries_251 rfl (fun _ => ?_) (fun hb => absurd hb ((by decide)))
      refine ab_iload_n X 5 d_MO_tries_274 rfl rfl ?_
      refine ab_bipush (v := 24) X d_MO_tries_275 (by decide) ?_
      refine ab_icmp_ne X 304 d_MO_tries_277 rfl (fun _ => ?_) (fun hb => absurd hb ((by decide)))
      refine ab_iload_n X 2 d_MO_tries_304 rfl rfl ?_
      refine ab_bipush (v := 6) X d_MO_tries_305 (by decide) ?_
      refine ab_icmp_ne X 319 d_MO_tries_307 rfl (fun h307 => ?_) (fun h307 => ?_)
      ·
        have hk6 : ¬ kd p1 = 6 := fun z => h307 (by rw [z]; rfl)
        refine ab_lv (List.forall_mem_cons.mpr ⟨List.mem_of_getElem? (i := 3) rfl, List.forall_mem_cons.mpr ⟨List.mem_of_getElem? (i := 4) rfl, fun _ h => absurd h List.not_mem_nil⟩⟩) ?_
        first | exact yes _ P245 (by unfold app; omega) (by rw [a245]; unfold wl; simp only [N31]) | exact no _ P245 (by unfold app; omega) t31
      ·
        have hk6 : kd p1 = 6 := (nI_eq (b := 6) (by omega) (by omega)).mp h307
        refine ab_aload_n X 3 d_MO_tries_310 rfl rfl ?_
        refine ab_iload X 1 d_MO_tries_311 rfl ?_
        refine ab_iload X 0 d_MO_tries_313 rfl ?_
        refine ab_iload_n X 5 d_MO_tries_315 rfl rfl ?_
        refine ab_callV (as := [ab_I _, ab_I _, ab_I (nI 7)]) X (fun h => by cases h) (t_MO_triesOr7 u245 _ _) lk_MO_218 d_MO_tries_316 rfl rfl (by first | assumption | decide | (show _ < 124; omega) | (show _ < 61; omega) | (show _ < 20; omega)) ⟨by first | exact Nat.le_of_ble_eq_true rfl | (simp only [ab_rm]; omega), by first | exact Nat.le_of_ble_eq_true rfl | (simp only [ab_rm]; omega)⟩ ⟨by first | exact Nat.le_of_ble_eq_true rfl | (simp only [ab_rm]; omega), by first | exact Nat.le_of_ble_eq_true rfl | (simp only [ab_rm]; omega)⟩ (Nat.le_of_ble_eq_true rfl) (fun u316 r316 h316 => ?_)
        obtain ⟨e316, rfl⟩ := h316
        subst u316
        refine ab_lv (List.forall_mem_cons.mpr ⟨List.mem_of_getElem? (i := 3) rfl, List.forall_mem_cons.mpr ⟨List.mem_of_getElem? (i := 4) rfl, fun _ h => absurd h List.not_mem_nil⟩⟩) ?_
        first | exact yes _ P245 (by unfold app; omega) (by rw [a245]; unfold wl; simp only [N31]) | exact no _ P245 (by unfold app; omega) t31
  ·
    refine ab_aload_n X 0 d_MO_tries_0 rfl rfl ?_
    refine ab_gR X fl_MO_33 d_MO_tries_1 (by first | assumption | decide | (show _ < 124; omega) | (show _ < 61; omega) | (show _ < 20; omega)) (P0.1.mo7) ?_
    refine ab_iload_n X 1 d_MO_tries_4 rfl rfl ?_
    refine ab_iald X (p1) ⟨rfl, rfl⟩ d_MO_tries_5 (by first | assumption | decide | (show _ < 124; omega) | (show _ < 61; omega) | (show _ < 20; omega)) (rfl) (show p1 < 40 by omega) (ab_ln_lt _ _) ?_
    refine ab_top ek ?_
    refine ab_istore_n3 X 0 1 2 d_MO_tries_6 rfl (by decide) rfl rfl rfl rfl rfl rfl ?_
    refine ab_aload_n X 1 d_MO_tries_7 rfl rfl ?_
    refine ab_gR X fl_MO_42 d_MO_tries_8 (by first | assumption | decide | (show _ < 124; omega) | (show _ < 61; omega) | (show _ < 20; omega)) (P0.1.mo10) ?_
    refine ab_iconst (v := 4) X d_MO_tries_11 (by decide) ?_
    refine ab_iload_n X 2 d_MO_tries_12 rfl rfl ?_
    refine ab_imul X d_MO_tries_13 ?_
    refine ab_iald X (4 * p1) ⟨rfl, rfl⟩ d_MO_tries_14 (by first | assumption | decide | (show _ < 124; omega) | (show _ < 61; omega) | (show _ < 20; omega)) (nI_4m p1) (show 4 * p1 < 160 by omega) (ab_ln_lt _ _) ?_
    refine ab_istore4 X 0 1 2 3 d_MO_tries_15 (by decide) rfl rfl rfl rfl rfl rfl rfl rfl ?_
    refine ab_aload_n X 2 d_MO_tries_17 rfl rfl ?_
    refine ab_gR X fl_MO_42 d_MO_tries_18 (by first | assumption | decide | (show _ < 124; omega) | (show _ < 61; omega) | (show _ < 20; omega)) (P0.1.mo10) ?_
    refine ab_iconst (v := 4) X d_MO_tries_21 (by decide) ?_
    refine ab_iload_n X 3 d_MO_tries_22 rfl rfl ?_
    refine ab_imul X d_MO_tries_23 ?_
    refine ab_iconst (v := 1) X d_MO_tries_24 (by decide) ?_
    refine ab_iadd X d_MO_tries_25 ?_
    refine ab_iald X (4 * p1 + 1) ⟨rfl, rfl⟩ d_MO_tries_26 (by first | assumption | decide | (show _ < 124; omega) | (show _ < 61; omega) | (show _ < 20; omega)) (nI_4b p1) (show 4 * p1 + 1 < 160 by omega) (ab_ln_lt _ _) ?_
    refine ab_istore5 X 0 1 2 3 4 d_MO_tries_27 (by decide) rfl rfl rfl rfl rfl rfl rfl rfl rfl rfl ?_
    refine ab_aload_n X 3 d_MO_tries_29 rfl rfl ?_
    refine ab_iconst (v := 0) X d_MO_tries_30 (by decide) ?_
    refine ab_putI X fp_MO_66 d_MO_tries_31 (by first | assumption | decide | (show _ < 124; omega) | (show _ < 61; omega) | (show _ < 20; omega)) rfl rfl ?_
    refine ab_gen (fun u31 e31 => ?_)
    have P31 : gP [18, 19] u u31 := by rw [e31]; exact P0.ui rfl (by decide)
    have t31 : u31.1 17 0 18 = 0 := by rw [e31]; simp [ab_up]
    have L31 : ∀ c, p1 < c → c < P → lk u31 (3 * c) ∧ lk u31 (3 * c + 1) ∧ lk u31 (3 * c + 2) := fun c a b => by unfold lk lnu; simp only [P31.ai (a := 6) (by decide) rfl]; exact hl c a b
    have N31 : ∀ f, lnu u31 f = lnu u f := fun f => by unfold lnu; rw [P31.ai (by decide) rfl]
    have T31 := T.fr P31 (by decide) (by decide) (by decide) (by decide) (by decide)
    refine ab_iload_n X 5 d_MO_tries_34 rfl rfl ?_
    refine ab_iconst (v := 1) X d_MO_tries_35 (by decide) ?_
    refine ab_icmp_ne X 51 d_MO_tries_36 rfl (fun _ => ?_) (fun hb => absurd hb ((by decide)))
    refine ab_iload_n X 5 d_MO_tries_51 rfl rfl ?_
    refine ab_iconst (v := 2) X d_MO_tries_52 (by decide) ?_
    refine ab_icmp_ne X 76 d_MO_tries_53 rfl (fun _ => ?_) (fun hb => absurd hb ((by decide)))
    refine ab_iload_n X 5 d_MO_tries_76 rfl rfl ?_
    refine ab_bipush (v := 8) X d_MO_tries_77 (by decide) ?_
    refine ab_icmp_ne X 108 d_MO_tries_79 rfl (fun hb => absurd ((by decide)) hb) (fun _ => ?_)
    refine ab_aload_n X 3 d_MO_tries_82 rfl rfl ?_
    refine ab_aload_n X 3 d_MO_tries_83 rfl rfl ?_
    refine ab_gR X fl_MO_48 d_MO_tries_84 (by first | assumption | decide | (show _ < 124; omega) | (show _ < 61; omega) | (show _ < 20; omega)) (P31.1.mo12) ?_
    refine ab_iload_n X 4 d_MO_tries_87 rfl rfl ?_
    refine ab_callS (as := [ab_I (nI p1)]) X (fun h => by cases h) (t_MO_b u31 p1) ls_MO_204 d_MO_tries_88 rfl rfl ⟨by first | exact Nat.le_of_ble_eq_true rfl | (simp only [ab_rm]; omega), by first | exact Nat.le_of_ble_eq_true rfl | (simp only [ab_rm]; omega)⟩ ⟨by first | exact Nat.le_of_ble_eq_true rfl | (simp only [ab_rm]; omega), by first | exact Nat.le_of_ble_eq_true rfl | (simp only [ab_rm]; omega)⟩ (Nat.le_of_ble_eq_true rfl) (fun u88 r88 h88 => ?_)
    obtain ⟨e88, rfl⟩ := h88
    subst u88
    refine ab_iald X (3 * p1) ⟨rfl, rfl⟩ d_MO_tries_91 (by first | assumption | decide | (show _ < 124; omega) | (show _ < 61; omega) | (show _ < 20; omega)) (rfl) (show 3 * p1 < 72 by omega) (ab_ln_lt _ _) ?_
    refine ab_top (P31.ai (by decide) (hB (by omega)).1) ?_
    refine ab_iconst (v := 4) X d_MO_tries_92 (by decide) ?_
    refine ab_iadd X d_MO_tries_93 ?_
    refine ab_top (nI_add _ 4) ?_
    refine ab_aload_n X 3 d_MO_tries_94 rfl rfl ?_
    refine ab_gR X fl_MO_51 d_MO_tries_95 (by first | assumption | decide | (show _ < 124; omega) | (show _ < 61; omega) | (show _ < 20; omega)) (P31.1.mo13) ?_
    refine ab_iload_n X 4 d_MO_tries_98 rfl rfl ?_
    refine ab_callS (as := [ab_I (nI p1)]) X (fun h => by cases h) (t_MO_b u31 p1) ls_MO_204 d_MO_tries_99 rfl rfl ⟨by first | exact Nat.le_of_ble_eq_true rfl | (simp only [ab_rm]; omega), by first | exact Nat.le_of_ble_eq_true rfl | (simp only [ab_rm]; omega)⟩ ⟨by first | exact Nat.le_of_ble_eq_true rfl | (simp only [ab_rm]; omega), by first | exact Nat.le_of_ble_eq_true rfl | (simp only [ab_rm]; omega)⟩ (Nat.le_of_ble_eq_true rfl) (fun u99 r99 h99 => ?_)
    obtain ⟨e99, rfl⟩ := h99
    subst u99
    refine ab_iald X (3 * p1) ⟨rfl, rfl⟩ d_MO_tries_102 (by first | assumption | decide | (show _ < 124; omega) | (show _ < 61; omega) | (show _ < 20; omega)) (rfl) (show 3 * p1 < 72 by omega) (ab_ln_lt _ _) ?_
    refine ab_iconst (v := 1) X d_MO_tries_103 (by decide) ?_
    refine ab_iadd X d_MO_tries_104 ?_
    refine ab_callV (as := [ab_I _, ab_I _]) X (fun h => by cases h) (s_MO_is u31 _ _ P31.1) lk_MO_188 d_MO_tries_105 rfl rfl (by first | assumption | decide | (show _ < 124; omega) | (show _ < 61; omega) | (show _ < 20; omega)) ⟨by first | exact Nat.le_of_ble_eq_true rfl | (simp only [ab_rm]; omega), by first | exact Nat.le_of_ble_eq_true rfl | (simp only [ab_rm]; omega)⟩ ⟨by first | exact Nat.le_of_ble_eq_true rfl | (simp only [ab_rm]; omega), by first | exact Nat.le_of_ble_eq_true rfl | (simp only [ab_rm]; omega)⟩ (Nat.le_of_ble_eq_true rfl) (fun u105 r105 h105 => ?_)
    obtain ⟨⟨q105, a105⟩, rfl⟩ := h105
    have P105 := P31.trans q105 (by decide)
    refine ab_iload_n X 5 d_MO_tries_108 rfl rfl ?_
    refine ab_bipush (v := 11) X d_MO_tries_109 (by decide) ?_
    refine ab_icmp_ne X 125 d_MO_tries_111 rfl (fun _ => ?_) (fun hb => absurd hb ((by decide)))
    refine ab_iload_n X 5 d_MO_tries_125 rfl rfl ?_
    refine ab_bipush (v := 12) X d_MO_tries_126 (by decide) ?_
    refine ab_icmp_ne X 147 d_MO_tries_128 rfl (fun _ => ?_) (fun hb => absurd hb ((by decide)))
    refine ab_iload_n X 5 d_MO_tries_147 rfl rfl ?_
    refine ab_bipush (v := 13) X d_MO_tries_148 (by decide) ?_
    refine ab_icmp_ne X 173 d_MO_tries_150 rfl (fun _ => ?_) (fun hb => absurd hb ((by decide)))
    refine ab_iload_n X 5 d_MO_tries_173 rfl rfl ?_
    refine ab_bipush (v := 14) X d_MO_tries_174 (by decide) ?_
    refine ab_icmp_ne X 199 d_MO_tries_176 rfl (fun _ => ?_) (fun hb => absurd hb ((by decide)))
    refine ab_iload_n X 5 d_MO_tries_199 rfl rfl ?_
    refine ab_bipush (v := 18) X d_MO_tries_200 (by decide) ?_
    refine ab_icmp_ne X 231 d_MO_tries_202 rfl (fun _ => ?_) (fun hb => absurd hb ((by decide)))
    refine ab_iload_n X 5 d_MO_tries_231 rfl rfl ?_
    refine ab_bipush (v := 7) X d_MO_tries_232 (by decide) ?_
    refine ab_icmp_ne X 248 d_MO_tries_234 rfl (fun _ => ?_) (fun hb => absurd hb ((by decide)))
    refine ab_iload_n X 5 d_MO_tries_248 rfl rfl ?_
    refine ab_bipush (v := 21) X d_MO_tries_249 (by decide) ?_
    refine ab_icmp_ne X 274 d_MO_tries_251 rfl (fun _ => ?_) (fun hb => absurd hb ((by decide)))
    refine ab_iload_n X 5 d_MO_tries_274 rfl rfl ?_
    refine ab_bipush (v := 24) X d_MO_tries_275 (by decide) ?_
    refine ab_icmp_ne X 304 d_MO_tries_277 rfl (fun _ => ?_) (fun hb => absurd hb ((by decide)))
    refine ab_iload_n X 2 d_MO_tries_304 rfl rfl ?_
    refine ab_bipush (v := 6) X d_MO_tries_305 (by decide) ?_
    refine ab_icmp_ne X 319 d_MO_tries_307 rfl (fun h307 => ?_) (fun h307 => ?_)
    ·
      have hk6 : ¬ kd p1 = 6 := fun z => h307 (by rw [z]; rfl)
      refine ab_lv (List.forall_mem_cons.mpr ⟨List.mem_of_getElem? (i := 3) rfl, List.forall_mem_cons.mpr ⟨List.mem_of_getElem? (i := 4) rfl, fun _ h => absurd h List.not_mem_nil⟩⟩) ?_
      exact yes _ P105 (by unfold app; omega) (a105.trans rfl)
    ·
      have hk6 : kd p1 = 6 := (nI_eq (b := 6) (by omega) (by omega)).mp h307
      refine ab_aload_n X 3 d_MO_tries_310 rfl rfl ?_
      refine ab_iload X 1 d_MO_tries_311 rfl ?_
      refine ab_iload X 0 d_MO_tries_313 rfl ?_
      refine ab_iload_n X 5 d_MO_tries_315 rfl rfl ?_
      refine ab_callV (as := [ab_I _, ab_I _, ab_I (nI 8)]) X (fun h => by cases h) (t_MO_triesOr8 u105 _ _) lk_MO_218 d_MO_tries_316 rfl rfl (by first | assumption | decide | (show _ < 124; omega) | (show _ < 61; omega) | (show _ < 20; omega)) ⟨by first | exact Nat.le_of_ble_eq_true rfl | (simp only [ab_rm]; omega), by first | exact Nat.le_of_ble_eq_true rfl | (simp only [ab_rm]; omega)⟩ ⟨by first | exact Nat.le_of_ble_eq_true rfl | (simp only [ab_rm]; omega), by first | exact Nat.le_of_ble_eq_true rfl | (simp only [ab_rm]; omega)⟩ (Nat.le_of_ble_eq_true rfl) (fun u316 r316 h316 => ?_)
      obtain ⟨e316, rfl⟩ := h316
      subst u316
      refine ab_lv (List.forall_mem_cons.mpr ⟨List.mem_of_getElem? (i := 3) rfl, List.forall_mem_cons.mpr ⟨List.mem_of_getElem? (i := 4) rfl, fun _ h => absurd h List.not_mem_nil⟩⟩) ?_
      exact yes _ P105 (by unfold app; omega) (a105.trans rfl)
  ·
    refine ab_aload_n X 0 d_MO_tries_0 rfl rfl ?_
    refine ab_gR X fl_MO_33 d_MO_tries_1 (by first | assumption | decide | (show _ < 124; omega) | (show _ < 61; omega) | (show _ < 20; omega)) (P0.1.mo7) ?_
    refine ab_iload_n X 1 d_MO_tries_4 rfl rfl ?_
    refine ab_iald X (p1) ⟨rfl, rfl⟩ d_MO_tries_5 (by first | assumption | decide | (show _ < 124; omega) | (show _ < 61; omega) | (show _ < 20; omega)) (rfl) (show p1 < 40 by omega) (ab_ln_lt _ _) ?_
    refine ab_top ek ?_
    refine ab_istore_n3 X 0 1 2 d_MO_tries_6 rfl (by decide) rfl rfl rfl rfl rfl rfl ?_
    refine ab_aload_n X 1 d_MO_tries_7 rfl rfl ?_
    refine ab_gR X fl_MO_42 d_MO_tries_8 (by first | assumption | decide | (show _ < 124; omega) | (show _ < 61; omega) | (show _ < 20; omega)) (P0.1.mo10) ?_
    refine ab_iconst (v := 4) X d_MO_tries_11 (by decide) ?_
    refine ab_iload_n X 2 d_MO_tries_12 rfl rfl ?_
    refine ab_imul X d_MO_tries_13 ?_
    refine ab_iald X (4 * p1) ⟨rfl, rfl⟩ d_MO_tries_14 (by first | assumption | decide | (show _ < 124; omega) | (show _ < 61; omega) | (show _ < 20; omega)) (nI_4m p1) (show 4 * p1 < 160 by omega) (ab_ln_lt _ _) ?_
    refine ab_istore4 X 0 1 2 3 d_MO_tries_15 (by decide) rfl rfl rfl rfl rfl rfl rfl rfl ?_
    refine ab_aload_n X 2 d_MO_tries_17 rfl rfl ?_
    refine ab_gR X fl_MO_42 d_MO_tries_18 (by first | assumption | decide | (show _ < 124; omega) | (show _ < 61; omega) | (show _ < 20; omega)) (P0.1.mo10) ?_
    refine ab_iconst (v := 4) X d_MO_tries_21 (by decide) ?_
    refine ab_iload_n X 3 d_MO_tries_22 rfl rfl ?_
    refine ab_imul X d_MO_tries_23 ?_
    refine ab_iconst (v := 1) X d_MO_tries_24 (by decide) ?_
    refine ab_iadd X d_MO_tries_25 ?_
    refine ab_iald X (4 * p1 + 1) ⟨rfl, rfl⟩ d_MO_tries_26 (by first | assumption | decide | (show _ < 124; omega) | (show _ < 61; omega) | (show _ < 20; omega)) (nI_4b p1) (show 4 * p1 + 1 < 160 by omega) (ab_ln_lt _ _) ?_
    refine ab_istore5 X 0 1 2 3 4 d_MO_tries_27 (by decide) rfl rfl rfl rfl rfl rfl rfl rfl rfl rfl ?_
    refine ab_aload_n X 3 d_MO_tries_29 rfl rfl ?_
    refine ab_iconst (v := 0) X d_MO_tries_30 (by decide) ?_
    refine ab_putI X fp_MO_66 d_MO_tries_31 (by first | assumption | decide | (show _ < 124; omega) | (show _ < 61; omega) | (show _ < 20; omega)) rfl rfl ?_
    refine ab_gen (fun u31 e31 => ?_)
    have P31 : gP [18, 19] u u31 := by rw [e31]; exact P0.ui rfl (by decide)
    have t31 : u31.1 17 0 18 = 0 := by rw [e31]; simp [ab_up]
    have L31 : ∀ c, p1 < c → c < P → lk u31 (3 * c) ∧ lk u31 (3 * c + 1) ∧ lk u31 (3 * c + 2) := fun c a b => by unfold lk lnu; simp only [P31.ai (a := 6) (by decide) rfl]; exact hl c a b
    have N31 : ∀ f, lnu u31 f = lnu u f := fun f => by unfold lnu; rw [P31.ai (by decide) rfl]
    have T31 := T.fr P31 (by decide) (by decide) (by decide) (by decide) (by decide)
    refine ab_iload_n X 5 d_MO_tries_34 rfl rfl ?_
    refine ab_iconst (v := 1) X d_MO_tries_35 (by decide) ?_
    refine ab_icmp_ne X 51 d_MO_tries_36 rfl (fun _ => ?_) (fun hb => absurd hb ((by decide)))
    refine ab_iload_n X 5 d_MO_tries_51 rfl rfl ?_
    refine ab_iconst (v := 2) X d_MO_tries_52 (by decide) ?_
    refine ab_icmp_ne X 76 d_MO_tries_53 rfl (fun _ => ?_) (fun hb => absurd hb ((by decide)))
    refine ab_iload_n X 5 d_MO_tries_76 rfl rfl ?_
    refine ab_bipush (v := 8) X d_MO_tries_77 (by decide) ?_
    refine ab_icmp_ne X 108 d_MO_tries_79 rfl (fun _ => ?_) (fun hb => absurd hb ((by decide)))
    refine ab_iload_n X 5 d_MO_tries_108 rfl rfl ?_
    refine ab_bipush (v := 11) X d_MO_tries_109 (by decide) ?_
    refine ab_icmp_ne X 125 d_MO_tries_111 rfl (fun hb => absurd ((by decide)) hb) (fun _ => ?_)
    refine ab_iload_n X 2 d_MO_tries_114 rfl rfl ?_
    refine ab_iconst (v := 2) X d_MO_tries_115 (by decide) ?_
    refine ab_icmp_ne X 125 d_MO_tries_116 rfl (fun h116 => ?_) (fun h116 => ?_)
    ·
      have hkc : ¬ kd p1 = 2 := fun z => h116 (by rw [z]; rfl)
      refine ab_iload_n X 5 d_MO_tries_125 rfl rfl ?_
      refine ab_bipush (v := 12) X d_MO_tries_126 (by decide) ?_
      refine ab_icmp_ne X 147 d_MO_tries_128 rfl (fun _ => ?_) (fun hb => absurd hb ((by decide)))
      refine ab_iload_n X 5 d_MO_tries_147 rfl rfl ?_
      refine ab_bipush (v := 13) X d_MO_tries_148 (by decide) ?_
      refine ab_icmp_ne X 173 d_MO_tries_150 rfl (fun _ => ?_) (fun hb => absurd hb ((by decide)))
      refine ab_iload_n X 5 d_MO_tries_173 rfl rfl ?_
      refine ab_bipush (v := 14) X d_MO_tries_174 (by decide) ?_
      refine ab_icmp_ne X 199 d_MO_tries_176 rfl (fun _ => ?_) (fun hb => absurd hb ((by decide)))
      refine ab_iload_n X 5 d_MO_tries_199 rfl rfl ?_
      refine ab_bipush (v := 18) X d_MO_tries_200 (by decide) ?_
      refine ab_icmp_ne X 231 d_MO_tries_202 rfl (fun _ => ?_) (fun hb => absurd hb ((by decide)))
      refine ab_iload_n X 5 d_MO_tries_231 rfl rfl ?_
      refine ab_bipush (v := 7) X d_MO_tries_232 (by decide) ?_
      refine ab_icmp_ne X 248 d_MO_tries_234 rfl (fun _ => ?_) (fun hb => absurd hb ((by decide)))
      refine ab_iload_n X 5 d_MO_tries_248 rfl rfl ?_
      refine ab_bipush (v := 21) X d_MO_tries_249 (by decide) ?_
      refine ab_icmp_ne X 274 d_MO_tries_251 rfl (fun _ => ?_) (fun hb => absurd hb ((by decide)))
      refine ab_iload_n X 5 d_MO_tries_274 rfl rfl ?_
      refine ab_bipush (v := 24) X d_MO_tries_275 (by decide) ?_
      refine ab_icmp_ne X 304 d_MO_tries_277 rfl (fun _ => ?_) (fun hb => absurd hb ((by decide)))
      refine ab_iload_n X 2 d_MO_tries_304 rfl rfl ?_
      refine ab_bipush (v := 6) X d_MO_tries_305 (by decide) ?_
      refine ab_icmp_ne X 319 d_MO_tries_307 rfl (fun h307 => ?_) (fun h307 => ?_)
      ·
        have hk6 : ¬ kd p1 = 6 := fun z => h307 (by rw [z]; rfl)
        refine ab_lv (List.forall_mem_cons.mpr ⟨List.mem_of_getElem? (i := 3) rfl, List.forall_mem_cons.mpr ⟨List.mem_of_getElem? (i := 4) rfl, fun _ h => absurd h List.not_mem_nil⟩⟩) ?_
        first | exact yes _ P31 (by unfold app; omega) (a122.trans rfl) | exact no _ P31 (by unfold app; omega) t31
      ·
        have hk6 : kd p1 = 6 := (nI_eq (b := 6) (by omega) (by omega)).mp h307
        refine ab_aload_n X 3 d_MO_tries_310 rfl rfl ?_
        refine ab_iload X 1 d_MO_tries_311 rfl ?_
        refine ab_iload X 0 d_MO_tries_313 rfl ?_
        refine ab_iload_n X 5 d_MO_tries_315 rfl rfl ?_
        refine ab_callV (as := [ab_I _, ab_I _, ab_I (nI 11)]) X (fun h => by cases h) (t_MO_triesOr11 u31 _ _) lk_MO_218 d_MO_tries_316 rfl rfl (by first | assumption | decide | (show _ < 124; omega) | (show _ < 61; omega) | (show _ < 20; omega)) ⟨by first | exact Nat.le_of_ble_eq_true rfl | (simp only [ab_rm]; omega), by first | exact Nat.le_of_ble_eq_true rfl | (simp only [ab_rm]; omega)⟩ ⟨by first | exact Nat.le_of_ble_eq_true rfl | (simp only [ab_rm]; omega), by first | exact Nat.le_of_ble_eq_true rfl | (simp only [ab_rm]; omega)⟩ (Nat.le_of_ble_eq_true rfl) (fun u316 r316 h316 => ?_)
        obtain ⟨e316, rfl⟩ := h316
        subst u316
        refine ab_lv (List.forall_mem_cons.mpr ⟨List.mem_of_getElem? (i := 3) rfl, List.forall_mem_cons.mpr ⟨List.mem_of_getElem? (i := 4) rfl, fun _ h => absurd h List.not_mem_nil⟩⟩) ?_
        first | exact yes _ P31 (by unfold app; omega) (a122.trans rfl) | exact no _ P31 (by unfold app; omega) t31
    ·
      have hkc : kd p1 = 2 := (nI_eq (b := 2) (by omega) (by omega)).mp h116
      refine ab_aload_n X 3 d_MO_tries_119 rfl rfl ?_
      refine ab_iconst (v := 1) X d_MO_tries_120 (by decide) ?_
      refine ab_iconst (v := 5) X d_MO_tries_121 (by decide) ?_
      refine ab_callV (as := [ab_I 1, ab_I _]) X (fun h => by cases h) (s_MO_is u31 1 _ P31.1) lk_MO_188 d_MO_tries_122 rfl rfl (by first | assumption | decide | (show _ < 124; omega) | (show _ < 61; omega) | (show _ < 20; omega)) ⟨by first | exact Nat.le_of_ble_eq_true rfl | (simp only [ab_rm]; omega), by first | exact Nat.le_of_ble_eq_true rfl | (simp only [ab_rm]; omega)⟩ ⟨by first | exact Nat.le_of_ble_eq_true rfl | (simp only [ab_rm]; omega), by first | exact Nat.le_of_ble_eq_true rfl | (simp only [ab_rm]; omega)⟩ (Nat.le_of_ble_eq_true rfl) (fun u122 r122 h122 => ?_)
      obtain ⟨⟨q122, a122⟩, rfl⟩ := h122
      have P122 := P31.trans q122 (by decide)
      refine ab_iload_n X 5 d_MO_tries_125 rfl rfl ?_
      refine ab_bipush (v := 12) X d_MO_tries_126 (by decide) ?_
      refine ab_icmp_ne X 147 d_MO_tries_128 rfl (fun _ => ?_) (fun hb => absurd hb ((by decide)))
      refine ab_iload_n X 5 d_MO_tries_147 rfl rfl ?_
      refine ab_bipush (v := 13) X d_MO_tries_148 (by decide) ?_
      refine ab_icmp_ne X 173 d_MO_tries_150 rfl (fun _ => ?_) (fun hb => absurd hb ((by decide)))
      refine ab_iload_n X 5 d_MO_tries_173 rfl rfl ?_
      refine ab_bipush (v := 14) X d_MO_tries_174 (by decide) ?_
      refine ab_icmp_ne X 199 d_MO_tries_176 rfl (fun _ => ?_) (fun hb => absurd hb ((by decide)))
      refine ab_iload_n X 5 d_MO_tries_199 rfl rfl ?_
      refine ab_bipush (v := 18) X d_MO_tries_200 (by decide) ?_
      refine ab_icmp_ne X 231 d_MO_tries_202 rfl (fun _ => ?_) (fun hb => absurd hb ((by decide)))
      refine ab_iload_n X 5 d_MO_tries_231 rfl rfl ?_
      refine ab_bipush (v := 7) X d_MO_tries_232 (by decide) ?_
      refine ab_icmp_ne X 248 d_MO_tries_234 rfl (fun _ => ?_) (fun hb => absurd hb ((by decide)))
      refine ab_iload_n X 5 d_MO_tries_248 rfl rfl ?_
      refine ab_bipush (v := 21) X d_MO_tries_249 (by decide) ?_
      refine ab_icmp_ne X 274 d_MO_tries_251 rfl (fun _ => ?_) (fun hb => absurd hb ((by decide)))
      refine ab_iload_n X 5 d_MO_tries_274 rfl rfl ?_
      refine ab_bipush (v := 24) X d_MO_tries_275 (by decide) ?_
      refine ab_icmp_ne X 304 d_MO_tries_277 rfl (fun _ => ?_) (fun hb => absurd hb ((by decide)))
      refine ab_iload_n X 2 d_MO_tries_304 rfl rfl ?_
      refine ab_bipush (v := 6) X d_MO_tries_305 (by decide) ?_
      refine ab_icmp_ne X 319 d_MO_tries_307 rfl (fun h307 => ?_) (fun h307 => ?_)
      ·
        have hk6 : ¬ kd p1 = 6 := fun z => h307 (by rw [z]; rfl)
        refine ab_lv (List.forall_mem_cons.mpr ⟨List.mem_of_getElem? (i := 3) rfl, List.forall_mem_cons.mpr ⟨List.mem_of_getElem? (i := 4) rfl, fun _ h => absurd h List.not_mem_nil⟩⟩) ?_
        first | exact yes _ P122 (by unfold app; omega) (a122.trans rfl) | exact no _ P122 (by unfold app; omega) t31
      ·
        have hk6 : kd p1 = 6 := (nI_eq (b := 6) (by omega) (by omega)).mp h307
        refine ab_aload_n X 3 d_MO_tries_310 rfl rfl ?_
        refine ab_iload X 1 d_MO_tries_311 rfl ?_
        refine ab_iload X 0 d_MO_tries_313 rfl ?_
        refine ab_iload_n X 5 d_MO_tries_315 rfl rfl ?_
        refine ab_callV (as := [ab_I _, ab_I _, ab_I (nI 11)]) X (fun h => by cases h) (t_MO_triesOr11 u122 _ _) lk_MO_218 d_MO_tries_316 rfl rfl (by first | assumption | decide | (show _ < 124; omega) | (show _ < 61; omega) | (show _ < 20; omega)) ⟨by first | exact Nat.le_of_ble_eq_true rfl | (simp only [ab_rm]; omega), by first | exact Nat.le_of_ble_eq_true rfl | (simp only [ab_rm]; omega)⟩ ⟨by first | exact Nat.le_of_ble_eq_true rfl | (simp only [ab_rm]; omega), by first | exact Nat.le_of_ble_eq_true rfl | (simp only [ab_rm]; omega)⟩ (Nat.le_of_ble_eq_true rfl) (fun u316 r316 h316 => ?_)
        obtain ⟨e316, rfl⟩ := h316
        subst u316
        refine ab_lv (List.forall_mem_cons.mpr ⟨List.mem_of_getElem? (i := 3) rfl, List.forall_mem_cons.mpr ⟨List.mem_of_getElem? (i := 4) rfl, fun _ h => absurd h List.not_mem_nil⟩⟩) ?_
        first | exact yes _ P122 (by unfold app; omega) (a122.trans rfl) | exact no _ P122 (by unfold app; omega) t31
  ·
    refine ab_aload_n X 0 d_MO_tries_0 rfl rfl ?_
    refine ab_gR X fl_MO_33 d_MO_tries_1 (by first | assumption | decide | (show _ < 124; omega) | (show _ < 61; omega) | (show _ < 20; omega)) (P0.1.mo7) ?_
    refine ab_iload_n X 1 d_MO_tries_4 rfl rfl ?_
    refine ab_iald X (p1) ⟨rfl, rfl⟩ d_MO_tries_5 (by first | assumption | decide | (show _ < 124; omega) | (show _ < 61; omega) | (show _ < 20; omega)) (rfl) (show p1 < 40 by omega) (ab_ln_lt _ _) ?_
    refine ab_top ek ?_
    refine ab_istore_n3 X 0 1 2 d_MO_tries_6 rfl (by decide) rfl rfl rfl rfl rfl rfl ?_
    refine ab_aload_n X 1 d_MO_tries_7 rfl rfl ?_
    refine ab_gR X fl_MO_42 d_MO_tries_8 (by first | assumption | decide | (show _ < 124; omega) | (show _ < 61; omega) | (show _ < 20; omega)) (P0.1.mo10) ?_
    refine ab_iconst (v := 4) X d_MO_tries_11 (by decide) ?_
    refine ab_iload_n X 2 d_MO_tries_12 rfl rfl ?_
    refine ab_imul X d_MO_tries_13 ?_
    refine ab_iald X (4 * p1) ⟨rfl, rfl⟩ d_MO_tries_14 (by first | assumption | decide | (show _ < 124; omega) | (show _ < 61; omega) | (show _ < 20; omega)) (nI_4m p1) (show 4 * p1 < 160 by omega) (ab_ln_lt _ _) ?_
    refine ab_istore4 X 0 1 2 3 d_MO_tries_15 (by decide) rfl rfl rfl rfl rfl rfl rfl rfl ?_
    refine ab_aload_n X 2 d_MO_tries_17 rfl rfl ?_
    refine ab_gR X fl_MO_42 d_MO_tries_18 (by first | assumption | decide | (show _ < 124; omega) | (show _ < 61; omega) | (show _ < 20; omega)) (P0.1.mo10) ?_
    refine ab_iconst (v := 4) X d_MO_tries_21 (by decide) ?_
    refine ab_iload_n X 3 d_MO_tries_22 rfl rfl ?_
    refine ab_imul X d_MO_tries_23 ?_
    refine ab_iconst (v := 1) X d_MO_tries_24 (by decide) ?_
    refine ab_iadd X d_MO_tries_25 ?_
    refine ab_iald X (4 * p1 + 1) ⟨rfl, rfl⟩ d_MO_tries_26 (by first | assumption | decide | (show _ < 124; omega) | (show _ < 61; omega) | (show _ < 20; omega)) (nI_4b p1) (show 4 * p1 + 1 < 160 by omega) (ab_ln_lt _ _) ?_
    refine ab_istore5 X 0 1 2 3 4 d_MO_tries_27 (by decide) rfl rfl rfl rfl rfl rfl rfl rfl rfl rfl ?_
    refine ab_aload_n X 3 d_MO_tries_29 rfl rfl ?_
    refine ab_iconst (v := 0) X d_MO_tries_30 (by decide) ?_
    refine ab_putI X fp_MO_66 d_MO_tries_31 (by first | assumption | decide | (show _ < 124; omega) | (show _ < 61; omega) | (show _ < 20; omega)) rfl rfl ?_
    refine ab_gen (fun u31 e31 => ?_)
    have P31 : gP [18, 19] u u31 := by rw [e31]; exact P0.ui rfl (by decide)
    have t31 : u31.1 17 0 18 = 0 := by rw [e31]; simp [ab_up]
    have L31 : ∀ c, p1 < c → c < P → lk u31 (3 * c) ∧ lk u31 (3 * c + 1) ∧ lk u31 (3 * c + 2) := fun c a b => by unfold lk lnu; simp only [P31.ai (a := 6) (by decide) rfl]; exact hl c a b
    have N31 : ∀ f, lnu u31 f = lnu u f := fun f => by unfold lnu; rw [P31.ai (by decide) rfl]
    have T31 := T.fr P31 (by decide) (by decide) (by decide) (by decide) (by decide)
    refine ab_iload_n X 5 d_MO_tries_34 rfl rfl ?_
    refine ab_iconst (v := 1) X d_MO_tries_35 (by decide) ?_
    refine ab_icmp_ne X 51 d_MO_tries_36 rfl (fun _ => ?_) (fun hb => absurd hb ((by decide)))
    refine ab_iload_n X 5 d_MO_tries_51 rfl rfl ?_
    refine ab_iconst (v := 2) X d_MO_tries_52 (by decide) ?_
    refine ab_icmp_ne X 76 d_MO_tries_53 rfl (fun _ => ?_) (fun hb => absurd hb ((by decide)))
    refine ab_iload_n X 5 d_MO_tries_76 rfl rfl ?_
    refine ab_bipush (v := 8) X d_MO_tries_77 (by decide) ?_
    refine ab_icmp_ne X 108 d_MO_tries_79 rfl (fun _ => ?_) (fun hb => absurd hb ((by decide)))
    refine ab_iload_n X 5 d_MO_tries_108 rfl rfl ?_
    refine ab_bipush (v := 11) X d_MO_tries_109 (by decide) ?_
    refine ab_icmp_ne X 125 d_MO_tries_111 rfl (fun _ => ?_) (fun hb => absurd hb ((by decide)))
    refine ab_iload_n X 5 d_MO_tries_125 rfl rfl ?_
    refine ab_bipush (v := 12) X d_MO_tries_126 (by decide) ?_
    refine ab_icmp_ne X 147 d_MO_tries_128 rfl (fun hb => absurd ((by decide)) hb) (fun _ => ?_)
    refine ab_iload_n X 2 d_MO_tries_131 rfl rfl ?_
    refine ab_iconst (v := 3) X d_MO_tries_132 (by decide) ?_
    refine ab_icmp_eq X 141 d_MO_tries_133 rfl (fun h133 => ?_) (fun h133 => ?_)
    ·
      have hkc : kd p1 = 3 := (nI_eq (b := 3) (by omega) (by omega)).mp h133
      refine ab_aload_n X 3 d_MO_tries_141 rfl rfl ?_
      refine ab_iconst (v := 1) X d_MO_tries_142 (by decide) ?_
      refine ab_iconst (v := 0) X d_MO_tries_143 (by decide) ?_
      refine ab_callV (as := [ab_I 1, ab_I 0]) X (fun h => by cases h) (s_MO_is u31 1 0 P31.1) lk_MO_188 d_MO_tries_144 rfl rfl (by first | assumption | decide | (show _ < 124; omega) | (show _ < 61; omega) | (show _ < 20; omega)) ⟨by first | exact Nat.le_of_ble_eq_true rfl | (simp only [ab_rm]; omega), by first | exact Nat.le_of_ble_eq_true rfl | (simp only [ab_rm]; omega)⟩ ⟨by first | exact Nat.le_of_ble_eq_true rfl | (simp only [ab_rm]; omega), by first | exact Nat.le_of_ble_eq_true rfl | (simp only [ab_rm]; omega)⟩ (Nat.le_of_ble_eq_true rfl) (fun u144 r144 h144 => ?_)
      obtain ⟨⟨q144, a144⟩, rfl⟩ := h144
      have P144 := P31.trans q144 (by decide)
      refine ab_iload_n X 5 d_MO_tries_147 rfl rfl ?_
      refine ab_bipush (v := 13) X d_MO_tries_148 (by decide) ?_
      refine ab_icmp_ne X 173 d_MO_tries_150 rfl (fun _ => ?_) (fun hb => absurd hb ((by decide)))
      refine ab_iload_n X 5 d_MO_tries_173 rfl rfl ?_
      refine ab_bipush (v := 14) X d_MO_tries_174 (by decide) ?_
      refine ab_icmp_ne X 199 d_MO_tries_176 rfl (fun _ => ?_) (fun hb => absurd hb ((by decide)))
      refine ab_iload_n X 5 d_MO_tries_199 rfl rfl ?_
      refine ab_bipush (v := 18) X d_MO_tries_200 (by decide) ?_
      refine ab_icmp_ne X 231 d_MO_tries_202 rfl (fun _ => ?_) (fun hb => absurd hb ((by decide)))
      refine ab_iload_n X 5 d_MO_tries_231 rfl rfl ?_
      refine ab_bipush (v := 7) X d_MO_tries_232 (by decide) ?_
      refine ab_icmp_ne X 248 d_MO_tries_234 rfl (fun _ => ?_) (fun hb => absurd hb ((by decide)))
      refine ab_iload_n X 5 d_MO_tries_248 rfl rfl ?_
      refine ab_bipush (v := 21) X d_MO_tries_249 (by decide) ?_
      refine ab_icmp_ne X 274 d_MO_tries_251 rfl (fun _ => ?_) (fun hb => absurd hb ((by decide)))
      refine ab_iload_n X 5 d_MO_tries_274 rfl rfl ?_
      refine ab_bipush (v := 24) X d_MO_tries_275 (by decide) ?_
      refine ab_icmp_ne X 304 d_MO_tries_277 rfl (fun _ => ?_) (fun hb => absurd hb ((by decide)))
      refine ab_iload_n X 2 d_MO_tries_304 rfl rfl ?_
      refine ab_bipush (v := 6) X d_MO_tries_305 (by decide) ?_
      refine ab_icmp_ne X 319 d_MO_tries_307 rfl (fun h307 => ?_) (fun h307 => ?_)
      ·
        have hk6 : ¬ kd p1 = 6 := fun z => h307 (by rw [z]; rfl)
        refine ab_lv (List.forall_mem_cons.mpr ⟨List.mem_of_getElem? (i := 3) rfl, List.forall_mem_cons.mpr ⟨List.mem_of_getElem? (i := 4) rfl, fun _ h => absurd h List.not_mem_nil⟩⟩) ?_
        first | exact yes _ P144 (by unfold app; omega) (a144.trans rfl) | exact no _ P144 (by unfold app; omega) t31
      ·
        have hk6 : kd p1 = 6 := (nI_eq (b := 6) (by omega) (by omega)).mp h307
        refine ab_aload_n X 3 d_MO_tries_310 rfl rfl ?_
        refine ab_iload X 1 d_MO_tries_311 rfl ?_
        refine ab_iload X 0 d_MO_tries_313 rfl ?_
        refine ab_iload_n X 5 d_MO_tries_315 rfl rfl ?_
        refine ab_callV (as := [ab_I _, ab_I _, ab_I (nI 12)]) X (fun h => by cases h) (t_MO_triesOr12 u144 _ _) lk_MO_218 d_MO_tries_316 rfl rfl (by first | assumption | decide | (show _ < 124; omega) | (show _ < 61; omega) | (show _ < 20; omega)) ⟨by first | exact Nat.le_of_ble_eq_true rfl | (simp only [ab_rm]; omega), by first | exact Nat.le_of_ble_eq_true rfl | (simp only [ab_rm]; omega)⟩ ⟨by first | exact Nat.le_of_ble_eq_true rfl | (simp only [ab_rm]; omega), by first | exact Nat.le_of_ble_eq_true rfl | (simp only [ab_rm]; omega)⟩ (Nat.le_of_ble_eq_true rfl) (fun u316 r316 h316 => ?_)
        obtain ⟨e316, rfl⟩ := h316
        subst u316
        refine ab_lv (List.forall_mem_cons.mpr ⟨List.mem_of_getElem? (i := 3) rfl, List.forall_mem_cons.mpr ⟨List.mem_of_getElem? (i := 4) rfl, fun _ h => absurd h List.not_mem_nil⟩⟩) ?_
        first | exact yes _ P144 (by unfold app; omega) (a144.trans rfl) | exact no _ P144 (by unfold app; omega) t31
    ·
      have hkc : ¬ kd p1 = 3 := fun z => h133 (by rw [z]; rfl)
      refine ab_iload_n X 2 d_MO_tries_136 rfl rfl ?_
      refine ab_iconst (v := 4) X d_MO_tries_137 (by decide) ?_
      refine ab_icmp_ne X 147 d_MO_tries_138 rfl (fun h138 => ?_) (fun h138 => ?_)
      ·
        have hkd : ¬ kd p1 = 4 := fun z => h138 (by rw [z]; rfl)
        refine ab_iload_n X 5 d_MO_tries_147 rfl rfl ?_
        refine ab_bipush (v := 13) X d_MO_tries_148 (by decide) ?_
        refine ab_icmp_ne X 173 d_MO_tries_150 rfl (fun _ => ?_) (fun hb => absurd hb ((by decide)))
        refine ab_iload_n X 5 d_MO_tries_173 rfl rfl ?_
        refine ab_bipush (v := 14) X d_MO_tries_174 (by decide) ?_
        refine ab_icmp_ne X 199 d_MO_tries_176 rfl (fun _ => ?_) (fun hb => absurd hb ((by decide)))
        refine ab_iload_n X 5 d_MO_tries_199 rfl rfl ?_
        refine ab_bipush (v := 18) X d_MO_tries_200 (by decide) ?_
        refine ab_icmp_ne X 231 d_MO_tries_202 rfl (fun _ => ?_) (fun hb => absurd hb ((by decide)))
        refine ab_iload_n X 5 d_MO_tries_231 rfl rfl ?_
        refine ab_bipush (v := 7) X d_MO_tries_232 (by decide) ?_
        refine ab_icmp_ne X 248 d_MO_tries_234 rfl (fun _ => ?_) (fun hb => absurd hb ((by decide)))
        refine ab_iload_n X 5 d_MO_tries_248 rfl rfl ?_
        refine ab_bipush (v := 21) X d_MO_tries_249 (by decide) ?_
        refine ab_icmp_ne X 274 d_MO_tries_251 rfl (fun _ => ?_) (fun hb => absurd hb ((by decide)))
        refine ab_iload_n X 5 d_MO_tries_274 rfl rfl ?_
        refine ab_bipush (v := 24) X d_MO_tries_275 (by decide) ?_
        refine ab_icmp_ne X 304 d_MO_tries_277 rfl (fun _ => ?_) (fun hb => absurd hb ((by decide)))
        refine ab_iload_n X 2 d_MO_tries_304 rfl rfl ?_
        refine ab_bipush (v := 6) X d_MO_tries_305 (by decide) ?_
        refine ab_icmp_ne X 319 d_MO_tries_307 rfl (fun h307 => ?_) (fun h307 => ?_)
        ·
          have hk6 : ¬ kd p1 = 6 := fun z => h307 (by rw [z]; rfl)
          refine ab_lv (List.forall_mem_cons.mpr ⟨List.mem_of_getElem? (i := 3) rfl, List.forall_mem_cons.mpr ⟨List.mem_of_getElem? (i := 4) rfl, fun _ h => absurd h List.not_mem_nil⟩⟩) ?_
          first | exact yes _ P31 (by unfold app; omega) (a144.trans rfl) | exact no _ P31 (by unfold app; omega) t31
        ·
          have hk6 : kd p1 = 6 := (nI_eq (b := 6) (by omega) (by omega)).mp h307
          refine ab_aload_n X 3 d_MO_tries_310 rfl rfl ?_
          refine ab_iload X 1 d_MO_tries_311 rfl ?_
          refine ab_iload X 0 d_MO_tries_313 rfl ?_
          refine ab_iload_n X 5 d_MO_tries_315 rfl rfl ?_
          refine ab_callV (as := [ab_I _, ab_I _, ab_I (nI 12)]) X (fun h => by cases h) (t_MO_triesOr12 u31 _ _) lk_MO_218 d_MO_tries_316 rfl rfl (by first | assumption | decide | (show _ < 124; omega) | (show _ < 61; omega) | (show _ < 20; omega)) ⟨by first | exact Nat.le_of_ble_eq_true rfl | (simp only [ab_rm]; omega), by first | exact Nat.le_of_ble_eq_true rfl | (simp only [ab_rm]; omega)⟩ ⟨by first | exact Nat.le_of_ble_eq_true rfl | (simp only [ab_rm]; omega), by first | exact Nat.le_of_ble_eq_true rfl | (simp only [ab_rm]; omega)⟩ (Nat.le_of_ble_eq_true rfl) (fun u316 r316 h316 => ?_)
          obtain ⟨e316, rfl⟩ := h316
          subst u316
          refine ab_lv (List.forall_mem_cons.mpr ⟨List.mem_of_getElem? (i := 3) rfl, List.forall_mem_cons.mpr ⟨List.mem_of_getElem? (i := 4) rfl, fun _ h => absurd h List.not_mem_nil⟩⟩) ?_
          first | exact yes _ P31 (by unfold app; omega) (a144.trans rfl) | exact no _ P31 (by unfold app; omega) t31
      ·
        have hkd : kd p1 = 4 := (nI_eq (b := 4) (by omega) (by omega)).mp h138
        refine ab_aload_n X 3 d_MO_tries_141 rfl rfl ?_
        refine ab_iconst (v := 1) X d_MO_tries_142 (by decide) ?_
        refine ab_iconst (v := 0) X d_MO_tries_143 (by decide) ?_
        refine ab_callV (as := [ab_I 1, ab_I 0]) X (fun h => by cases h) (s_MO_is u31 1 0 P31.1) lk_MO_188 d_MO_tries_144 rfl rfl (by first | assumption | decide | (show _ < 124; omega) | (show _ < 61; omega) | (show _ < 20; omega)) ⟨by first | exact Nat.le_of_ble_eq_true rfl | (simp only [ab_rm]; omega), by first | exact Nat.le_of_ble_eq_true rfl | (simp only [ab_rm]; omega)⟩ ⟨by first | exact Nat.le_of_ble_eq_true rfl | (simp only [ab_rm]; omega), by first | exact Nat.le_of_ble_eq_true rfl | (simp only [ab_rm]; omega)⟩ (Nat.le_of_ble_eq_true rfl) (fun u144 r144 h144 => ?_)
        obtain ⟨⟨q144, a144⟩, rfl⟩ := h144
        have P144 := P31.trans q144 (by decide)
        refine ab_iload_n X 5 d_MO_tries_147 rfl rfl ?_
        refine ab_bipush (v := 13) X d_MO_tries_148 (by decide) ?_
        refine ab_icmp_ne X 173 d_MO_tries_150 rfl (fun _ => ?_) (fun hb => absurd hb ((by decide)))
        refine ab_iload_n X 5 d_MO_tries_173 rfl rfl ?_
        refine ab_bipush (v := 14) X d_MO_tries_174 (by decide) ?_
        refine ab_icmp_ne X 199 d_MO_tries_176 rfl (fun _ => ?_) (fun hb => absurd hb ((by decide)))
        refine ab_iload_n X 5 d_MO_tries_199 rfl rfl ?_
        refine ab_bipush (v := 18) X d_MO_tries_200 (by decide) ?_
        refine ab_icmp_ne X 231 d_MO_tries_202 rfl (fun _ => ?_) (fun hb => absurd hb ((by decide)))
        refine ab_iload_n X 5 d_MO_tries_231 rfl rfl ?_
        refine ab_bipush (v := 7) X d_MO_tries_232 (by decide) ?_
        refine ab_icmp_ne X 248 d_MO_tries_234 rfl (fun _ => ?_) (fun hb => absurd hb ((by decide)))
        refine ab_iload_n X 5 d_MO_tries_248 rfl rfl ?_
        refine ab_bipush (v := 21) X d_MO_tries_249 (by decide) ?_
        refine ab_icmp_ne X 274 d_MO_tries_251 rfl (fun _ => ?_) (fun hb => absurd hb ((by decide)))
        refine ab_iload_n X 5 d_MO_tries_274 rfl rfl ?_
        refine ab_bipush (v := 24) X d_MO_tries_275 (by decide) ?_
        refine ab_icmp_ne X 304 d_MO_tries_277 rfl (fun _ => ?_) (fun hb => absurd hb ((by decide)))
        refine ab_iload_n X 2 d_MO_tries_304 rfl rfl ?_
        refine ab_bipush (v := 6) X d_MO_tries_305 (by decide) ?_
        refine ab_icmp_ne X 319 d_MO_tries_307 rfl (fun h307 => ?_) (fun h307 => ?_)
        ·
          have hk6 : ¬ kd p1 = 6 := fun z => h307 (by rw [z]; rfl)
          refine ab_lv (List.forall_mem_cons.mpr ⟨List.mem_of_getElem? (i := 3) rfl, List.forall_mem_cons.mpr ⟨List.mem_of_getElem? (i := 4) rfl, fun _ h => absurd h List.not_mem_nil⟩⟩) ?_
          first | exact yes _ P144 (by unfold app; omega) (a144.trans rfl) | exact no _ P144 (by unfold app; omega) t31
        ·
          have hk6 : kd p1 = 6 := (nI_eq (b := 6) (by omega) (by omega)).mp h307
          refine ab_aload_n X 3 d_MO_tries_310 rfl rfl ?_
          refine ab_iload X 1 d_MO_tries_311 rfl ?_
          refine ab_iload X 0 d_MO_tries_313 rfl ?_
          refine ab_iload_n X 5 d_MO_tries_315 rfl rfl ?_
          refine ab_callV (as := [ab_I _, ab_I _, ab_I (nI 12)]) X (fun h => by cases h) (t_MO_triesOr12 u144 _ _) lk_MO_218 d_MO_tries_316 rfl rfl (by first | assumption | decide | (show _ < 124; omega) | (show _ < 61; omega) | (show _ < 20; omega)) ⟨by first | exact Nat.le_of_ble_eq_true rfl | (simp only [ab_rm]; omega), by first | exact Nat.le_of_ble_eq_true rfl | (simp only [ab_rm]; omega)⟩ ⟨by first | exact Nat.le_of_ble_eq_true rfl | (simp only [ab_rm]; omega), by first | exact Nat.le_of_ble_eq_true rfl | (simp only [ab_rm]; omega)⟩ (Nat.le_of_ble_eq_true rfl) (fun u316 r316 h316 => ?_)
          obtain ⟨e316, rfl⟩ := h316
          subst u316
          refine ab_lv (List.forall_mem_cons.mpr ⟨List.mem_of_getElem? (i := 3) rfl, List.forall_mem_cons.mpr ⟨List.mem_of_getElem? (i := 4) rfl, fun _ h => absurd h List.not_mem_nil⟩⟩) ?_
          first | exact yes _ P144 (by unfold app; omega) (a144.trans rfl) | exact no _ P144 (by unfold app; omega) t31
  ·
    refine ab_aload_n X 0 d_MO_tries_0 rfl rfl ?_
    refine ab_gR X fl_MO_33 d_MO_tries_1 (by first | assumption | decide | (show _ < 124; omega) | (show _ < 61; omega) | (show _ < 20; omega)) (P0.1.mo7) ?_
    refine ab_iload_n X 1 d_MO_tries_4 rfl rfl ?_
    refine ab_iald X (p1) ⟨rfl, rfl⟩ d_MO_tries_5 (by first | assumption | decide | (show _ < 124; omega) | (show _ < 61; omega) | (show _ < 20; omega)) (rfl) (show p1 < 40 by omega) (ab_ln_lt _ _) ?_
    refine ab_top ek ?_
    refine ab_istore_n3 X 0 1 2 d_MO_tries_6 rfl (by decide) rfl rfl rfl rfl rfl rfl ?_
    refine ab_aload_n X 1 d_MO_tries_7 rfl rfl ?_
    refine ab_gR X fl_MO_42 d_MO_tries_8 (by first | assumption | decide | (show _ < 124; omega) | (show _ < 61; omega) | (show _ < 20; omega)) (P0.1.mo10) ?_
    refine ab_iconst (v := 4) X d_MO_tries_11 (by decide) ?_
    refine ab_iload_n X 2 d_MO_tries_12 rfl rfl ?_
    refine ab_imul X d_MO_tries_13 ?_
    refine ab_iald X (4 * p1) ⟨rfl, rfl⟩ d_MO_tries_14 (by first | assumption | decide | (show _ < 124; omega) | (show _ < 61; omega) | (show _ < 20; omega)) (nI_4m p1) (show 4 * p1 < 160 by omega) (ab_ln_lt _ _) ?_
    refine ab_istore4 X 0 1 2 3 d_MO_tries_15 (by decide) rfl rfl rfl rfl rfl rfl rfl rfl ?_
    refine ab_aload_n X 2 d_MO_tries_17 rfl rfl ?_
    refine ab_gR X fl_MO_42 d_MO_tries_18 (by first | assumption | decide | (show _ < 124; omega) | (show _ < 61; omega) | (show _ < 20; omega)) (P0.1.mo10) ?_
    refine ab_iconst (v := 4) X d_MO_tries_21 (by decide) ?_
    refine ab_iload_n X 3 d_MO_tries_22 rfl rfl ?_
    refine ab_imul X d_MO_tries_23 ?_
    refine ab_iconst (v := 1) X d_MO_tries_24 (by decide) ?_
    refine ab_iadd X d_MO_tries_25 ?_
    refine ab_iald X (4 * p1 + 1) ⟨rfl, rfl⟩ d_MO_tries_26 (by first | assumption | decide | (show _ < 124; omega) | (show _ < 61; omega) | (show _ < 20; omega)) (nI_4b p1) (show 4 * p1 + 1 < 160 by omega) (ab_ln_lt _ _) ?_
    refine ab_istore5 X 0 1 2 3 4 d_MO_tries_27 (by decide) rfl rfl rfl rfl rfl rfl rfl rfl rfl rfl ?_
    refine ab_aload_n X 3 d_MO_tries_29 rfl rfl ?_
    refine ab_iconst (v := 0) X d_MO_tries_30 (by decide) ?_
    refine ab_putI X fp_MO_66 d_MO_tries_31 (by first | assumption | decide | (show _ < 124; omega) | (show _ < 61; omega) | (show _ < 20; omega)) rfl rfl ?_
    refine ab_gen (fun u31 e31 => ?_)
    have P31 : gP [18, 19] u u31 := by rw [e31]; exact P0.ui rfl (by decide)
    have t31 : u31.1 17 0 18 = 0 := by rw [e31]; simp [ab_up]
    have L31 : ∀ c, p1 < c → c < P → lk u31 (3 * c) ∧ lk u31 (3 * c + 1) ∧ lk u31 (3 * c + 2) := fun c a b => by unfold lk lnu; simp only [P31.ai (a := 6) (by decide) rfl]; exact hl c a b
    have N31 : ∀ f, lnu u31 f = lnu u f := fun f => by unfold lnu; rw [P31.ai (by decide) rfl]
    have T31 := T.fr P31 (by decide) (by decide) (by decide) (by decide) (by decide)
    refine ab_iload_n X 5 d_MO_tries_34 rfl rfl ?_
    refine ab_iconst (v := 1) X d_MO_tries_35 (by decide) ?_
    refine ab_icmp_ne X 51 d_MO_tries_36 rfl (fun _ => ?_) (fun hb => absurd hb ((by decide)))
    refine ab_iload_n X 5 d_MO_tries_51 rfl rfl ?_
    refine ab_iconst (v := 2) X d_MO_tries_52 (by decide) ?_
    refine ab_icmp_ne X 76 d_MO_tries_53 rfl (fun _ => ?_) (fun hb => absurd hb ((by decide)))
    refine ab_iload_n X 5 d_MO_tries_76 rfl rfl ?_
    refine ab_bipush (v := 8) X d_MO_tries_77 (by decide) ?_
    refine ab_icmp_ne X 108 d_MO_tries_79 rfl (fun _ => ?_) (fun hb => absurd hb ((by decide)))
    refine ab_iload_n X 5 d_MO_tries_108 rfl rfl ?_
    refine ab_bipush (v := 11) X d_MO_tries_109 (by decide) ?_
    refine ab_icmp_ne X 125 d_MO_tries_111 rfl (fun _ => ?_) (fun hb => absurd hb ((by decide)))
    refine ab_iload_n X 5 d_MO_tries_125 rfl rfl ?_
    refine ab_bipush (v := 12) X d_MO_tries_126 (by decide) ?_
    refine ab_icmp_ne X 147 d_MO_tries_128 rfl (fun _ => ?_) (fun hb => absurd hb ((by decide)))
    refine ab_iload_n X 5 d_MO_tries_147 rfl rfl ?_
    refine ab_bipush (v := 13) X d_MO_tries_148 (by decide) ?_
    refine ab_icmp_ne X 173 d_MO_tries_150 rfl (fun hb => absurd ((by decide)) hb) (fun _ => ?_)
    refine ab_iload_n X 2 d_MO_tries_153 rfl rfl ?_
    refine ab_iconst (v := 5) X d_MO_tries_154 (by decide) ?_
    refine ab_icmp_ne X 173 d_MO_tries_155 rfl (fun h155 => ?_) (fun h155 => ?_)
    ·
      have hk5 : ¬ kd p1 = 5 := fun z => h155 (by rw [z]; rfl)
      refine ab_iload_n X 5 d_MO_tries_173 rfl rfl ?_
      refine ab_bipush (v := 14) X d_MO_tries_174 (by decide) ?_
      refine ab_icmp_ne X 199 d_MO_tries_176 rfl (fun _ => ?_) (fun hb => absurd hb ((by decide)))
      refine ab_iload_n X 5 d_MO_tries_199 rfl rfl ?_
      refine ab_bipush (v := 18) X d_MO_tries_200 (by decide) ?_
      refine ab_icmp_ne X 231 d_MO_tries_202 rfl (fun _ => ?_) (fun hb => absurd hb ((by decide)))
      refine ab_iload_n X 5 d_MO_tries_231 rfl rfl ?_
      refine ab_bipush (v := 7) X d_MO_tries_232 (by decide) ?_
      refine ab_icmp_ne X 248 d_MO_tries_234 rfl (fun _ => ?_) (fun hb => absurd hb ((by decide)))
      refine ab_iload_n X 5 d_MO_tries_248 rfl rfl ?_
      refine ab_bipush (v := 21) X d_MO_tries_249 (by decide) ?_
      refine ab_icmp_ne X 274 d_MO_tries_251 rfl (fun _ => ?_) (fun hb => absurd hb ((by decide)))
      refine ab_iload_n X 5 d_MO_tries_274 rfl rfl ?_
      refine ab_bipush (v := 24) X d_MO_tries_275 (by decide) ?_
      refine ab_icmp_ne X 304 d_MO_tries_277 rfl (fun _ => ?_) (fun hb => absurd hb ((by decide)))
      refine ab_iload_n X 2 d_MO_tries_304 rfl rfl ?_
      refine ab_bipush (v := 6) X d_MO_tries_305 (by decide) ?_
      refine ab_icmp_ne X 319 d_MO_tries_307 rfl (fun h307 => ?_) (fun h307 => ?_)
      ·
        have hk6 : ¬ kd p1 = 6 := fun z => h307 (by rw [z]; rfl)
        refine ab_lv (List.forall_mem_cons.mpr ⟨List.mem_of_getElem? (i := 3) rfl, List.forall_mem_cons.mpr ⟨List.mem_of_getElem? (i := 4) rfl, fun _ h => absurd h List.not_mem_nil⟩⟩) ?_
        first | exact yes _ P31 (by unfold app; omega) (by rw [a170, N31, N31]; rfl) | exact no _ P31 (by unfold app; omega) t31
      ·
        have hk6 : kd p1 = 6 := (nI_eq (b := 6) (by omega) (by omega)).mp h307
        refine ab_aload_n X 3 d_MO_tries_310 rfl rfl ?_
        refine ab_iload X 1 d_MO_tries_311 rfl ?_
        refine ab_iload X 0 d_MO_tries_313 rfl ?_
        refine ab_iload_n X 5 d_MO_tries_315 rfl rfl ?_
        refine ab_callV (as := [ab_I _, ab_I _, ab_I (nI 13)]) X (fun h => by cases h) (t_MO_triesOr13 u31 _ _) lk_MO_218 d_MO_tries_316 rfl rfl (by first | assumption | decide | (show _ < 124; omega) | (show _ < 61; omega) | (show _ < 20; omega)) ⟨by first | exact Nat.le_of_ble_eq_true rfl | (simp only [ab_rm]; omega), by first | exact Nat.le_of_ble_eq_true rfl | (simp only [ab_rm]; omega)⟩ ⟨by first | exact Nat.le_of_ble_eq_true rfl | (simp only [ab_rm]; omega), by first | exact Nat.le_of_ble_eq_true rfl | (simp only [ab_rm]; omega)⟩ (Nat.le_of_ble_eq_true rfl) (fun u316 r316 h316 => ?_)
        obtain ⟨e316, rfl⟩ := h316
        subst u316
        refine ab_lv (List.forall_mem_cons.mpr ⟨List.mem_of_getElem? (i := 3) rfl, List.forall_mem_cons.mpr ⟨List.mem_of_getElem? (i := 4) rfl, fun _ h => absurd h List.not_mem_nil⟩⟩) ?_
        first | exact yes _ P31 (by unfold app; omega) (by rw [a170, N31, N31]; rfl) | exact no _ P31 (by unfold app; omega) t31
    ·
      have hk5 : kd p1 = 5 := (nI_eq (b := 5) (by omega) (by omega)).mp h155
      obtain ⟨x, y, ex, ey, x1, x2, y1, y2, -, -, -, hx, hy⟩ := W.two T hp (Or.inl hk5)
      rw [ex, ey]
      subst hx hy
      refine ab_aload_n X 3 d_MO_tries_158 rfl rfl ?_
      refine ab_iload X 1 d_MO_tries_159 rfl ?_
      refine ab_callS (as := [ab_I (nI (ch p1 0))]) X (fun h => by cases h) (t_MO_v u31 (ch p1 0)) ls_MO_201 d_MO_tries_161 rfl rfl ⟨by first | exact Nat.le_of_ble_eq_true rfl | (simp only [ab_rm]; omega), by first | exact Nat.le_of_ble_eq_true rfl | (simp only [ab_rm]; omega)⟩ ⟨by first | exact Nat.le_of_ble_eq_true rfl | (simp only [ab_rm]; omega), by first | exact Nat.le_of_ble_eq_true rfl | (simp only [ab_rm]; omega)⟩ (Nat.le_of_ble_eq_true rfl) (fun u161 r161 h161 => ?_)
      obtain ⟨e161, rfl⟩ := h161
      subst u161
      refine ab_iload X 0 d_MO_tries_164 rfl ?_
      refine ab_callS (as := [ab_I (nI (ch p1 1))]) X (fun h => by cases h) (t_MO_b u31 (ch p1 1)) ls_MO_204 d_MO_tries_166 rfl rfl ⟨by first | exact Nat.le_of_ble_eq_true rfl | (simp only [ab_rm]; omega), by first | exact Nat.le_of_ble_eq_true rfl | (simp only [ab_rm]; omega)⟩ ⟨by first | exact Nat.le_of_ble_eq_true rfl | (simp only [ab_rm]; omega), by first | exact Nat.le_of_ble_eq_true rfl | (simp only [ab_rm]; omega)⟩ (Nat.le_of_ble_eq_true rfl) (fun u166 r166 h166 => ?_)
      obtain ⟨e166, rfl⟩ := h166
      subst u166
      refine ab_iconst (v := 0) X d_MO_tries_169 (by decide) ?_
      refine ab_callV (as := [ab_I (nI (3 * ch p1 0 + 2)), ab_I (nI (3 * ch p1 1)), ab_I (nI 0)]) X (fun h => by cases h) (s_MO_both u31 (3 * ch p1 0 + 2) (3 * ch p1 1) 0 P31.1 (by omega) (by omega) (L31 _ x1 x2).2.2 (L31 _ y1 y2).1) lk_MO_207 d_MO_tries_170 rfl rfl (by first | assumption | decide | (show _ < 124; omega) | (show _ < 61; omega) | (show _ < 20; omega)) ⟨by first | exact Nat.le_of_ble_eq_true rfl | (simp only [ab_rm]; omega), by first | exact Nat.le_of_ble_eq_true rfl | (simp only [ab_rm]; omega)⟩ ⟨by first | exact Nat.le_of_ble_eq_true rfl | (simp only [ab_rm]; omega), by first | exact Nat.le_of_ble_eq_true rfl | (simp only [ab_rm]; omega)⟩ (Nat.le_of_ble_eq_true rfl) (fun u170 r170 h170 => ?_)
      obtain ⟨⟨q170, a170⟩, rfl⟩ := h170
      have P170 := P31.trans q170 (by decide)
      refine ab_iload_n X 5 d_MO_tries_173 rfl rfl ?_
      refine ab_bipush (v := 14) X d_MO_tries_174 (by decide) ?_
      refine ab_icmp_ne X 199 d_MO_tries_176 rfl (fun _ => ?_) (fun hb => absurd hb ((by decide)))
      refine ab_iload_n X 5 d_MO_tries_199 rfl rfl ?_
      refine ab_bipush (v := 18) X d_MO_tries_200 (by decide) ?_
      refine ab_icmp_ne X 231 d_MO_tries_202 rfl (fun _ => ?_) (fun hb => absurd hb ((by decide)))
      refine ab_iload_n X 5 d_MO_tries_231 rfl rfl ?_
      refine ab_bipush (v := 7) X d_MO_tries_232 (by decide) ?_
      refine ab_icmp_ne X 248 d_MO_tries_234 rfl (fun _ => ?_) (fun hb => absurd hb ((by decide)))
      refine ab_iload_n X 5 d_MO_tries_248 rfl rfl ?_
      refine ab_bipush (v := 21) X d_MO_tries_249 (by decide) ?_
      refine ab_icmp_ne X 274 d_MO_tries_251 rfl (fun _ => ?_) (fun hb => absurd hb ((by decide)))
      refine ab_iload_n X 5 d_MO_tries_274 rfl rfl ?_
      refine ab_bipush (v := 24) X d_MO_tries_275 (by decide) ?_
      refine ab_icmp_ne X 304 d_MO_tries_277 rfl (fun _ => ?_) (fun hb => absurd hb ((by decide)))
      refine ab_iload_n X 2 d_MO_tries_304 rfl rfl ?_
      refine ab_bipush (v := 6) X d_MO_tries_305 (by decide) ?_
      refine ab_icmp_ne X 319 d_MO_tries_307 rfl (fun h307 => ?_) (fun h307 => ?_)
      ·
        have hk6 : ¬ kd p1 = 6 := fun z => h307 (by rw [z]; rfl)
        refine ab_lv (List.forall_mem_cons.mpr ⟨List.mem_of_getElem? (i := 3) rfl, List.forall_mem_cons.mpr ⟨List.mem_of_getElem? (i := 4) rfl, fun _ h => absurd h List.not_mem_nil⟩⟩) ?_
        first | exact yes _ P170 (by unfold app; omega) (by rw [a170, N31, N31]; rfl) | exact no _ P170 (by unfold app; omega) t31
      ·
        have hk6 : kd p1 = 6 := (nI_eq (b := 6) (by omega) (by omega)).mp h307
        refine ab_aload_n X 3 d_MO_tries_310 rfl rfl ?_
        refine ab_iload X 1 d_MO_tries_311 rfl ?_
        refine ab_iload X 0 d_MO_tries_313 rfl ?_
        refine ab_iload_n X 5 d_MO_tries_315 rfl rfl ?_
        refine ab_callV (as := [ab_I _, ab_I _, ab_I (nI 13)]) X (fun h => by cases h) (t_MO_triesOr13 u170 _ _) lk_MO_218 d_MO_tries_316 rfl rfl (by first | assumption | decide | (show _ < 124; omega) | (show _ < 61; omega) | (show _ < 20; omega)) ⟨by first | exact Nat.le_of_ble_eq_true rfl | (simp only [ab_rm]; omega), by first | exact Nat.le_of_ble_eq_true rfl | (simp only [ab_rm]; omega)⟩ ⟨by first | exact Nat.le_of_ble_eq_true rfl | (simp only [ab_rm]; omega), by first | exact Nat.le_of_ble_eq_true rfl | (simp only [ab_rm]; omega)⟩ (Nat.le_of_ble_eq_true rfl) (fun u316 r316 h316 => ?_)
        obtain ⟨e316, rfl⟩ := h316
        subst u316
        refine ab_lv (List.forall_mem_cons.mpr ⟨List.mem_of_getElem? (i := 3) rfl, List.forall_mem_cons.mpr ⟨List.mem_of_getElem? (i := 4) rfl, fun _ h => absurd h List.not_mem_nil⟩⟩) ?_
        first | exact yes _ P170 (by unfold app; omega) (by rw [a170, N31, N31]; rfl) | exact no _ P170 (by unfold app; omega) t31
  ·
    refine ab_aload_n X 0 d_MO_tries_0 rfl rfl ?_
    refine ab_gR X fl_MO_33 d_MO_tries_1 (by first | assumption | decide | (show _ < 124; omega) | (show _ < 61; omega) | (show _ < 20; omega)) (P0.1.mo7) ?_
    refine ab_iload_n X 1 d_MO_tries_4 rfl rfl ?_
    refine ab_iald X (p1) ⟨rfl, rfl⟩ d_MO_tries_5 (by first | assumption | decide | (show _ < 124; omega) | (show _ < 61; omega) | (show _ < 20; omega)) (rfl) (show p1 < 40 by omega) (ab_ln_lt _ _) ?_
    refine ab_top ek ?_
    refine ab_istore_n3 X 0 1 2 d_MO_tries_6 rfl (by decide) rfl rfl rfl rfl rfl rfl ?_
    refine ab_aload_n X 1 d_MO_tries_7 rfl rfl ?_
    refine ab_gR X fl_MO_42 d_MO_tries_8 (by first | assumption | decide | (show _ < 124; omega) | (show _ < 61; omega) | (show _ < 20; omega)) (P0.1.mo10) ?_
    refine ab_iconst (v := 4) X d_MO_tries_11 (by decide) ?_
    refine ab_iload_n X 2 d_MO_tries_12 rfl rfl ?_
    refine ab_imul X d_MO_tries_13 ?_
    refine ab_iald X (4 * p1) ⟨rfl, rfl⟩ d_MO_tries_14 (by first | assumption | decide | (show _ < 124; omega) | (show _ < 61; omega) | (show _ < 20; omega)) (nI_4m p1) (show 4 * p1 < 160 by omega) (ab_ln_lt _ _) ?_
    refine ab_istore4 X 0 1 2 3 d_MO_tries_15 (by decide) rfl rfl rfl rfl rfl rfl rfl rfl ?_
    refine ab_aload_n X 2 d_MO_tries_17 rfl rfl ?_
    refine ab_gR X fl_MO_42 d_MO_tries_18 (by first | assumption | decide | (show _ < 124; omega) | (show _ < 61; omega) | (show _ < 20; omega)) (P0.1.mo10) ?_
    refine ab_iconst (v := 4) X d_MO_tries_21 (by decide) ?_
    refine ab_iload_n X 3 d_MO_tries_22 rfl rfl ?_
    refine ab_imul X d_MO_tries_23 ?_
    refine ab_iconst (v := 1) X d_MO_tries_24 (by decide) ?_
    refine ab_iadd X d_MO_tries_25 ?_
    refine ab_iald X (4 * p1 + 1) ⟨rfl, rfl⟩ d_MO_tries_26 (by first | assumption | decide | (show _ < 124; omega) | (show _ < 61; omega) | (show _ < 20; omega)) (nI_4b p1) (show 4 * p1 + 1 < 160 by omega) (ab_ln_lt _ _) ?_
    refine ab_istore5 X 0 1 2 3 4 d_MO_tries_27 (by decide) rfl rfl rfl rfl rfl rfl rfl rfl rfl rfl ?_
    refine ab_aload_n X 3 d_MO_tries_29 rfl rfl ?_
    refine ab_iconst (v := 0) X d_MO_tries_30 (by decide) ?_
    refine ab_putI X fp_MO_66 d_MO_tries_31 (by first | assumption | decide | (show _ < 124; omega) | (show _ < 61; omega) | (show _ < 20; omega)) rfl rfl ?_
    refine ab_gen (fun u31 e31 => ?_)
    have P31 : gP [18, 19] u u31 := by rw [e31]; exact P0.ui rfl (by decide)
    have t31 : u31.1 17 0 18 = 0 := by rw [e31]; simp [ab_up]
    have L31 : ∀ c, p1 < c → c < P → lk u31 (3 * c) ∧ lk u31 (3 * c + 1) ∧ lk u31 (3 * c + 2) := fun c a b => by unfold lk lnu; simp only [P31.ai (a := 6) (by decide) rfl]; exact hl c a b
    have N31 : ∀ f, lnu u31 f = lnu u f := fun f => by unfold lnu; rw [P31.ai (by decide) rfl]
    have T31 := T.fr P31 (by decide) (by decide) (by decide) (by decide) (by decide)
    refine ab_iload_n X 5 d_MO_tries_34 rfl rfl ?_
    refine ab_iconst (v := 1) X d_MO_tries_35 (by decide) ?_
    refine ab_icmp_ne X 51 d_MO_tries_36 rfl (fun _ => ?_) (fun hb => absurd hb ((by decide)))
    refine ab_iload_n X 5 d_MO_tries_51 rfl rfl ?_
    refine ab_iconst (v := 2) X d_MO_tries_52 (by decide) ?_
    refine ab_icmp_ne X 76 d_MO_tries_53 rfl (fun _ => ?_) (fun hb => absurd hb ((by decide)))
    refine ab_iload_n X 5 d_MO_tries_76 rfl rfl ?_
    refine ab_bipush (v := 8) X d_MO_tries_77 (by decide) ?_
    refine ab_icmp_ne X 108 d_MO_tries_79 rfl (fun _ => ?_) (fun hb => absurd hb ((by decide)))
    refine ab_iload_n X 5 d_MO_tries_108 rfl rfl ?_
    refine ab_bipush (v := 11) X d_MO_tries_109 (by decide) ?_
    refine ab_icmp_ne X 125 d_MO_tries_111 rfl (fun _ => ?_) (fun hb => absurd hb ((by decide)))
    refine ab_iload_n X 5 d_MO_tries_125 rfl rfl ?_
    refine ab_bipush (v := 12) X d_MO_tries_126 (by decide) ?_
    refine ab_icmp_ne X 147 d_MO_tries_128 rfl (fun _ => ?_) (fun hb => absurd hb ((by decide)))
    refine ab_iload_n X 5 d_MO_tries_147 rfl rfl ?_
    refine ab_bipush (v := 13) X d_MO_tries_148 (by decide) ?_
    refine ab_icmp_ne X 173 d_MO_tries_150 rfl (fun _ => ?_) (fun hb => absurd hb ((by decide)))
    refine ab_iload_n X 5 d_MO_tries_173 rfl rfl ?_
    refine ab_bipush (v := 14) X d_MO_tries_174 (by decide) ?_
    refine ab_icmp_ne X 199 d_MO_tries_176 rfl (fun hb => absurd ((by decide)) hb) (fun _ => ?_)
    refine ab_iload_n X 2 d_MO_tries_179 rfl rfl ?_
    refine ab_iconst (v := 5) X d_MO_tries_180 (by decide) ?_
    refine ab_icmp_ne X 199 d_MO_tries_181 rfl (fun h181 => ?_) (fun h181 => ?_)
    ·
      have hk5 : ¬ kd p1 = 5 := fun z => h181 (by rw [z]; rfl)
      refine ab_iload_n X 5 d_MO_tries_199 rfl rfl ?_
      refine ab_bipush (v := 18) X d_MO_tries_200 (by decide) ?_
      refine ab_icmp_ne X 231 d_MO_tries_202 rfl (fun _ => ?_) (fun hb => absurd hb ((by decide)))
      refine ab_iload_n X 5 d_MO_tries_231 rfl rfl ?_
      refine ab_bipush (v := 7) X d_MO_tries_232 (by decide) ?_
      refine ab_icmp_ne X 248 d_MO_tries_234 rfl (fun _ => ?_) (fun hb => absurd hb ((by decide)))
      refine ab_iload_n X 5 d_MO_tries_248 rfl rfl ?_
      refine ab_bipush (v := 21) X d_MO_tries_249 (by decide) ?_
      refine ab_icmp_ne X 274 d_MO_tries_251 rfl (fun _ => ?_) (fun hb => absurd hb ((by decide)))
      refine ab_iload_n X 5 d_MO_tries_274 rfl rfl ?_
      refine ab_bipush (v := 24) X d_MO_tries_275 (by decide) ?_
      refine ab_icmp_ne X 304 d_MO_tries_277 rfl (fun _ => ?_) (fun hb => absurd hb ((by decide)))
      refine ab_iload_n X 2 d_MO_tries_304 rfl rfl ?_
      refine ab_bipush (v := 6) X d_MO_tries_305 (by decide) ?_
      refine ab_icmp_ne X 319 d_MO_tries_307 rfl (fun h307 => ?_) (fun h307 => ?_)
      ·
        have hk6 : ¬ kd p1 = 6 := fun z => h307 (by rw [z]; rfl)
        refine ab_lv (List.forall_mem_cons.mpr ⟨List.mem_of_getElem? (i := 3) rfl, List.forall_mem_cons.mpr ⟨List.mem_of_getElem? (i := 4) rfl, fun _ h => absurd h List.not_mem_nil⟩⟩) ?_
        first | exact yes _ P31 (by unfold app; omega) (by rw [a196, N31, N31]; rfl) | exact no _ P31 (by unfold app; omega) t31
      ·
        have hk6 : kd p1 = 6 := (nI_eq (b := 6) (by omega) (by omega)).mp h307
        refine ab_aload_n X 3 d_MO_tries_310 rfl rfl ?_
        refine ab_iload X 1 d_MO_tries_311 rfl ?_
        refine ab_iload X 0 d_MO_tries_313 rfl ?_
        refine ab_iload_n X 5 d_MO_tries_315 rfl rfl ?_
        refine ab_callV (as := [ab_I _, ab_I _, ab_I (nI 14)]) X (fun h => by cases h) (t_MO_triesOr14 u31 _ _) lk_MO_218 d_MO_tries_316 rfl rfl (by first | assumption | decide | (show _ < 124; omega) | (show _ < 61; omega) | (show _ < 20; omega)) ⟨by first | exact Nat.le_of_ble_eq_true rfl | (simp only [ab_rm]; omega), by first | exact Nat.le_of_ble_eq_true rfl | (simp only [ab_rm]; omega)⟩ ⟨by first | exact Nat.le_of_ble_eq_true rfl | (simp only [ab_rm]; omega), by first | exact Nat.le_of_ble_eq_true rfl | (simp only [ab_rm]; omega)⟩ (Nat.le_of_ble_eq_true rfl) (fun u316 r316 h316 => ?_)
        obtain ⟨e316, rfl⟩ := h316
        subst u316
        refine ab_lv (List.forall_mem_cons.mpr ⟨List.mem_of_getElem? (i := 3) rfl, List.forall_mem_cons.mpr ⟨List.mem_of_getElem? (i := 4) rfl, fun _ h => absurd h List.not_mem_nil⟩⟩) ?_
        first | exact yes _ P31 (by unfold app; omega) (by rw [a196, N31, N31]; rfl) | exact no _ P31 (by unfold app; omega) t31
    ·
      have hk5 : kd p1 = 5 := (nI_eq (b := 5) (by omega) (by omega)).mp h181
      obtain ⟨x, y, ex, ey, x1, x2, y1, y2, -, -, -, hx, hy⟩ := W.two T hp (Or.inl hk5)
      rw [ex, ey]
      subst hx hy
      refine ab_aload_n X 3 d_MO_tries_184 rfl rfl ?_
      refine ab_iload X 0 d_MO_tries_185 rfl ?_
      refine ab_callS (as := [ab_I (nI (ch p1 1))]) X (fun h => by cases h) (t_MO_v u31 (ch p1 1)) ls_MO_201 d_MO_tries_187 rfl rfl ⟨by first | exact Nat.le_of_ble_eq_true rfl | (simp only [ab_rm]; omega), by first | exact Nat.le_of_ble_eq_true rfl | (simp only [ab_rm]; omega)⟩ ⟨by first | exact Nat.le_of_ble_eq_true rfl | (simp only [ab_rm]; omega), by first | exact Nat.le_of_ble_eq_true rfl | (simp only [ab_rm]; omega)⟩ (Nat.le_of_ble_eq_true rfl) (fun u187 r187 h187 => ?_)
      obtain ⟨e187, rfl⟩ := h187
      subst u187
      refine ab_iload X 1 d_MO_tries_190 rfl ?_
      refine ab_callS (as := [ab_I (nI (ch p1 0))]) X (fun h => by cases h) (t_MO_b u31 (ch p1 0)) ls_MO_204 d_MO_tries_192 rfl rfl ⟨by first | exact Nat.le_of_ble_eq_true rfl | (simp only [ab_rm]; omega), by first | exact Nat.le_of_ble_eq_true rfl | (simp only [ab_rm]; omega)⟩ ⟨by first | exact Nat.le_of_ble_eq_true rfl | (simp only [ab_rm]; omega), by first | exact Nat.le_of_ble_eq_true rfl | (simp only [ab_rm]; omega)⟩ (Nat.le_of_ble_eq_true rfl) (fun u192 r192 h192 => ?_)
      obtain ⟨e192, rfl⟩ := h192
      subst u192
      refine ab_iconst (v := 0) X d_MO_tries_195 (by decide) ?_
      refine ab_callV (as := [ab_I (nI (3 * ch p1 1 + 2)), ab_I (nI (3 * ch p1 0)), ab_I (nI 0)]) X (fun h => by cases h) (s_MO_both u31 (3 * ch p1 1 + 2) (3 * ch p1 0) 0 P31.1 (by omega) (by omega) (L31 _ y1 y2).2.2 (L31 _ x1 x2).1) lk_MO_207 d_MO_tries_196 rfl rfl (by first | assumption | decide | (show _ < 124; omega) | (show _ < 61; omega) | (show _ < 20; omega)) ⟨by first | exact Nat.le_of_ble_eq_true rfl | (simp only [ab_rm]; omega), by first | exact Nat.le_of_ble_eq_true rfl | (simp only [ab_rm]; omega)⟩ ⟨by first | exact Nat.le_of_ble_eq_true rfl | (simp only [ab_rm]; omega), by first | exact Nat.le_of_ble_eq_true rfl | (simp only [ab_rm]; omega)⟩ (Nat.le_of_ble_eq_true rfl) (fun u196 r196 h196 => ?_)
      obtain ⟨⟨q196, a196⟩, rfl⟩ := h196
      have P196 := P31.trans q196 (by decide)
      refine ab_iload_n X 5 d_MO_tries_199 rfl rfl ?_
      refine ab_bipush (v := 18) X d_MO_tries_200 (by decide) ?_
      refine ab_icmp_ne X 231 d_MO_tries_202 rfl (fun _ => ?_) (fun hb => absurd hb ((by decide)))
      refine ab_iload_n X 5 d_MO_tries_231 rfl rfl ?_
      refine ab_bipush (v := 7) X d_MO_tries_232 (by decide) ?_
      refine ab_icmp_ne X 248 d_MO_tries_234 rfl (fun _ => ?_) (fun hb => absurd hb ((by decide)))
      refine ab_iload_n X 5 d_MO_tries_248 rfl rfl ?_
      refine ab_bipush (v := 21) X d_MO_tries_249 (by decide) ?_
      refine ab_icmp_ne X 274 d_MO_tries_251 rfl (fun _ => ?_) (fun hb => absurd hb ((by decide)))
      refine ab_iload_n X 5 d_MO_tries_274 rfl rfl ?_
      refine ab_bipush (v := 24) X d_MO_tries_275 (by decide) ?_
      refine ab_icmp_ne X 304 d_MO_tries_277 rfl (fun _ => ?_) (fun hb => absurd hb ((by decide)))
      refine ab_iload_n X 2 d_MO_tries_304 rfl rfl ?_
      refine ab_bipush (v := 6) X d_MO_tries_305 (by decide) ?_
      refine ab_icmp_ne X 319 d_MO_tries_307 rfl (fun h307 => ?_) (fun h307 => ?_)
      ·
        have hk6 : ¬ kd p1 = 6 := fun z => h307 (by rw [z]; rfl)
        refine ab_lv (List.forall_mem_cons.mpr ⟨List.mem_of_getElem? (i := 3) rfl, List.forall_mem_cons.mpr ⟨List.mem_of_getElem? (i := 4) rfl, fun _ h => absurd h List.not_mem_nil⟩⟩) ?_
        first | exact yes _ P196 (by unfold app; omega) (by rw [a196, N31, N31]; rfl) | exact no _ P196 (by unfold app; omega) t31
      ·
        have hk6 : kd p1 = 6 := (nI_eq (b := 6) (by omega) (by omega)).mp h307
        refine ab_aload_n X 3 d_MO_tries_310 rfl rfl ?_
        refine ab_iload X 1 d_MO_tries_311 rfl ?_
        refine ab_iload X 0 d_MO_tries_313 rfl ?_
        refine ab_iload_n X 5 d_MO_tries_315 rfl rfl ?_
        refine ab_callV (as := [ab_I _, ab_I _, ab_I (nI 14)]) X (fun h => by cases h) (t_MO_triesOr14 u196 _ _) lk_MO_218 d_MO_tries_316 rfl rfl (by first | assumption | decide | (show _ < 124; omega) | (show _ < 61; omega) | (show _ < 20; omega)) ⟨by first | exact Nat.le_of_ble_eq_true rfl | (simp only [ab_rm]; omega), by first | exact Nat.le_of_ble_eq_true rfl | (simp only [ab_rm]; omega)⟩ ⟨by first | exact Nat.le_of_ble_eq_true rfl | (simp only [ab_rm]; omega), by first | exact Nat.le_of_ble_eq_true rfl | (simp only [ab_rm]; omega)⟩ (Nat.le_of_ble_eq_true rfl) (fun u316 r316 h316 => ?_)
        obtain ⟨e316, rfl⟩ := h316
        subst u316
        refine ab_lv (List.forall_mem_cons.mpr ⟨List.mem_of_getElem? (i := 3) rfl, List.forall_mem_cons.mpr ⟨List.mem_of_getElem? (i := 4) rfl, fun _ h => absurd h List.not_mem_nil⟩⟩) ?_
        first | exact yes _ P196 (by unfold app; omega) (by rw [a196, N31, N31]; rfl) | exact no _ P196 (by unfold app; omega) t31
  ·
    refine ab_aload_n X 0 d_MO_tries_0 rfl rfl ?_
    refine ab_gR X fl_MO_33 d_MO_tries_1 (by first | assumption | decide | (show _ < 124; omega) | (show _ < 61; omega) | (show _ < 20; omega)) (P0.1.mo7) ?_
    refine ab_iload_n X 1 d_MO_tries_4 rfl rfl ?_
    refine ab_iald X (p1) ⟨rfl, rfl⟩ d_MO_tries_5 (by first | assumption | decide | (show _ < 124; omega) | (show _ < 61; omega) | (show _ < 20; omega)) (rfl) (show p1 < 40 by omega) (ab_ln_lt _ _) ?_
    refine ab_top ek ?_
    refine ab_istore_n3 X 0 1 2 d_MO_tries_6 rfl (by decide) rfl rfl rfl rfl rfl rfl ?_
    refine ab_aload_n X 1 d_MO_tries_7 rfl rfl ?_
    refine ab_gR X fl_MO_42 d_MO_tries_8 (by first | assumption | decide | (show _ < 124; omega) | (show _ < 61; omega) | (show _ < 20; omega)) (P0.1.mo10) ?_
    refine ab_iconst (v := 4) X d_MO_tries_11 (by decide) ?_
    refine ab_iload_n X 2 d_MO_tries_12 rfl rfl ?_
    refine ab_imul X d_MO_tries_13 ?_
    refine ab_iald X (4 * p1) ⟨rfl, rfl⟩ d_MO_tries_14 (by first | assumption | decide | (show _ < 124; omega) | (show _ < 61; omega) | (show _ < 20; omega)) (nI_4m p1) (show 4 * p1 < 160 by omega) (ab_ln_lt _ _) ?_
    refine ab_istore4 X 0 1 2 3 d_MO_tries_15 (by decide) rfl rfl rfl rfl rfl rfl rfl rfl ?_
    refine ab_aload_n X 2 d_MO_tries_17 rfl rfl ?_
    refine ab_gR X fl_MO_42 d_MO_tries_18 (by first | assumption | decide | (show _ < 124; omega) | (show _ < 61; omega) | (show _ < 20; omega)) (P0.1.mo10) ?_
    refine ab_iconst (v := 4) X d_MO_tries_21 (by decide) ?_
    refine ab_iload_n X 3 d_MO_tries_22 rfl rfl ?_
    refine ab_imul X d_MO_tries_23 ?_
    refine ab_iconst (v := 1) X d_MO_tries_24 (by decide) ?_
    refine ab_iadd X d_MO_tries_25 ?_
    refine ab_iald X (4 * p1 + 1) ⟨rfl, rfl⟩ d_MO_tries_26 (by first | assumption | decide | (show _ < 124; omega) | (show _ < 61; omega) | (show _ < 20; omega)) (nI_4b p1) (show 4 * p1 + 1 < 160 by omega) (ab_ln_lt _ _) ?_
    refine ab_istore5 X 0 1 2 3 4 d_MO_tries_27 (by decide) rfl rfl rfl rfl rfl rfl rfl rfl rfl rfl ?_
    refine ab_aload_n X 3 d_MO_tries_29 rfl rfl ?_
    refine ab_iconst (v := 0) X d_MO_tries_30 (by decide) ?_
    refine ab_putI X fp_MO_66 d_MO_tries_31 (by first | assumption | decide | (show _ < 124; omega) | (show _ < 61; omega) | (show _ < 20; omega)) rfl rfl ?_
    refine ab_gen (fun u31 e31 => ?_)
    have P31 : gP [18, 19] u u31 := by rw [e31]; exact P0.ui rfl (by decide)
    have t31 : u31.1 17 0 18 = 0 := by rw [e31]; simp [ab_up]
    have L31 : ∀ c, p1 < c → c < P → lk u31 (3 * c) ∧ lk u31 (3 * c + 1) ∧ lk u31 (3 * c + 2) := fun c a b => by unfold lk lnu; simp only [P31.ai (a := 6) (by decide) rfl]; exact hl c a b
    have N31 : ∀ f, lnu u31 f = lnu u f := fun f => by unfold lnu; rw [P31.ai (by decide) rfl]
    have T31 := T.fr P31 (by decide) (by decide) (by decide) (by decide) (by decide)
    refine ab_iload_n X 5 d_MO_tries_34 rfl rfl ?_
    refine ab_iconst (v := 1) X d_MO_tries_35 (by decide) ?_
    refine ab_icmp_ne X 51 d_MO_tries_36 rfl (fun _ => ?_) (fun hb => absurd hb ((by decide)))
    refine ab_iload_n X 5 d_MO_tries_51 rfl rfl ?_
    refine ab_iconst (v := 2) X d_MO_tries_52 (by decide) ?_
    refine ab_icmp_ne X 76 d_MO_tries_53 rfl (fun _ => ?_) (fun hb => absurd hb ((by decide)))
    refine ab_iload_n X 5 d_MO_tries_76 rfl rfl ?_
    refine ab_bipush (v := 8) X d_MO_tries_77 (by decide) ?_
    refine ab_icmp_ne X 108 d_MO_tries_79 rfl (fun _ => ?_) (fun hb => absurd hb ((by decide)))
    refine ab_iload_n X 5 d_MO_tries_108 rfl rfl ?_
    refine ab_bipush (v := 11) X d_MO_tries_109 (by decide) ?_
    refine ab_icmp_ne X 125 d_MO_tries_111 rfl (fun _ => ?_) (fun hb => absurd hb ((by decide)))
    refine ab_iload_n X 5 d_MO_tries_125 rfl rfl ?_
    refine ab_bipush (v := 12) X d_MO_tries_126 (by decide) ?_
    refine ab_icmp_ne X 147 d_MO_tries_128 rfl (fun _ => ?_) (fun hb => absurd hb ((by decide)))
    refine ab_iload_n X 5 d_MO_tries_147 rfl rfl ?_
    refine ab_bipush (v := 13) X d_MO_tries_148 (by decide) ?_
    refine ab_icmp_ne X 173 d_MO_tries_150 rfl (fun _ => ?_) (fun hb => absurd hb ((by decide)))
    refine ab_iload_n X 5 d_MO_tries_173 rfl rfl ?_
    refine ab_bipush (v := 14) X d_MO_tries_174 (by decide) ?_
    refine ab_icmp_ne X 199 d_MO_tries_176 rfl (fun _ => ?_) (fun hb => absurd hb ((by decide)))
    refine ab_iload_n X 5 d_MO_tries_199 rfl rfl ?_
    refine ab_bipush (v := 18) X d_MO_tries_200 (by decide) ?_
    refine ab_icmp_ne X 231 d_MO_tries_202 rfl (fun _ => ?_) (fun hb => absurd hb ((by decide)))
    refine ab_iload_n X 5 d_MO_tries_231 rfl rfl ?_
    refine ab_bipush (v := 7) X d_MO_tries_232 (by decide) ?_
    refine ab_icmp_ne X 248 d_MO_tries_234 rfl (fun _ => ?_) (fun hb => absurd hb ((by decide)))
    refine ab_iload_n X 5 d_MO_tries_248 rfl rfl ?_
    refine ab_bipush (v := 21) X d_MO_tries_249 (by decide) ?_
    refine ab_icmp_ne X 274 d_MO_tries_251 rfl (fun _ => ?_) (fun hb => absurd hb ((by decide)))
    refine ab_iload_n X 5 d_MO_tries_274 rfl rfl ?_
    refine ab_bipush (v := 24) X d_MO_tries_275 (by decide) ?_
    refine ab_icmp_ne X 304 d_MO_tries_277 rfl (fun _ => ?_) (fun hb => absurd hb ((by decide)))
    refine ab_iload_n X 2 d_MO_tries_304 rfl rfl ?_
    refine ab_bipush (v := 6) X d_MO_tries_305 (by decide) ?_
    refine ab_icmp_ne X 319 d_MO_tries_307 rfl (fun h307 => ?_) (fun h307 => ?_)
    ·
      have hk6 : ¬ kd p1 = 6 := fun z => h307 (by rw [z]; rfl)
      refine ab_lv (List.forall_mem_cons.mpr ⟨List.mem_of_getElem? (i := 3) rfl, List.forall_mem_cons.mpr ⟨List.mem_of_getElem? (i := 4) rfl, fun _ h => absurd h List.not_mem_nil⟩⟩) ?_
      first | exact yes _ P31 (by unfold app; omega) (by rw [a316, N31, N31]; rfl) | exact no _ P31 (by unfold app; omega) t31
    ·
      have hk6 : kd p1 = 6 := (nI_eq (b := 6) (by omega) (by omega)).mp h307
      obtain ⟨x, y, ex, ey, x1, x2, y1, y2, -, -, -, hx, hy⟩ := W.two T hp (Or.inr hk6)
      rw [ex, ey]
      subst hx hy
      refine ab_aload_n X 3 d_MO_tries_310 rfl rfl ?_
      refine ab_iload X 1 d_MO_tries_311 rfl ?_
      refine ab_iload X 0 d_MO_tries_313 rfl ?_
      refine ab_iload_n X 5 d_MO_tries_315 rfl rfl ?_
      refine ab_callV (as := [ab_I (nI (ch p1 0)), ab_I (nI (ch p1 1)), ab_I (nI 15)]) X (fun h => by cases h) (s_MO_triesOr15 u31 (ch p1 0) (ch p1 1) P31.1 (by omega) (by omega) (L31 _ x1 x2) (L31 _ y1 y2)) lk_MO_218 d_MO_tries_316 rfl rfl (by first | assumption | decide | (show _ < 124; omega) | (show _ < 61; omega) | (show _ < 20; omega)) ⟨by first | exact Nat.le_of_ble_eq_true rfl | (simp only [ab_rm]; omega), by first | exact Nat.le_of_ble_eq_true rfl | (simp only [ab_rm]; omega)⟩ ⟨by first | exact Nat.le_of_ble_eq_true rfl | (simp only [ab_rm]; omega), by first | exact Nat.le_of_ble_eq_true rfl | (simp only [ab_rm]; omega)⟩ (Nat.le_of_ble_eq_true rfl) (fun u316 r316 h316 => ?_)
      obtain ⟨⟨q316, a316⟩, rfl⟩ := h316
      have P316 := P31.trans q316 (by decide)
      refine ab_lv (List.forall_mem_cons.mpr ⟨List.mem_of_getElem? (i := 3) rfl, List.forall_mem_cons.mpr ⟨List.mem_of_getElem? (i := 4) rfl, fun _ h => absurd h List.not_mem_nil⟩⟩) ?_
      first | exact yes _ P316 (by unfold app; omega) (by rw [a316, N31, N31]; rfl) | exact no _ P316 (by unfold app; omega) t31
  ·
    refine ab_aload_n X 0 d_MO_tries_0 rfl rfl ?_
    refine ab_gR X fl_MO_33 d_MO_tries_1 (by first | assumption | decide | (show _ < 124; omega) | (show _ < 61; omega) | (show _ < 20; omega)) (P0.1.mo7) ?_
    refine ab_iload_n X 1 d_MO_tries_4 rfl rfl ?_
    refine ab_iald X (p1) ⟨rfl, rfl⟩ d_MO_tries_5 (by first | assumption | decide | (show _ < 124; omega) | (show _ < 61; omega) | (show _ < 20; omega)) (rfl) (show p1 < 40 by omega) (ab_ln_lt _ _) ?_
    refine ab_top ek ?_
    refine ab_istore_n3 X 0 1 2 d_MO_tries_6 rfl (by decide) rfl rfl rfl rfl rfl rfl ?_
    refine ab_aload_n X 1 d_MO_tries_7 rfl rfl ?_
    refine ab_gR X fl_MO_42 d_MO_tries_8 (by first | assumption | decide | (show _ < 124; omega) | (show _ < 61; omega) | (show _ < 20; omega)) (P0.1.mo10) ?_
    refine ab_iconst (v := 4) X d_MO_tries_11 (by decide) ?_
    refine ab_iload_n X 2 d_MO_tries_12 rfl rfl ?_
    refine ab_imul X d_MO_tries_13 ?_
    refine ab_iald X (4 * p1) ⟨rfl, rfl⟩ d_MO_tries_14 (by first | assumption | decide | (show _ < 124; omega) | (show _ < 61; omega) | (show _ < 20; omega)) (nI_4m p1) (show 4 * p1 < 160 by omega) (ab_ln_lt _ _) ?_
    refine ab_istore4 X 0 1 2 3 d_MO_tries_15 (by decide) rfl rfl rfl rfl rfl rfl rfl rfl ?_
    refine ab_aload_n X 2 d_MO_tries_17 rfl rfl ?_
    refine ab_gR X fl_MO_42 d_MO_tries_18 (by first | assumption | decide | (show _ < 124; omega) | (show _ < 61; omega) | (show _ < 20; omega)) (P0.1.mo10) ?_
    refine ab_iconst (v := 4) X d_MO_tries_21 (by decide) ?_
    refine ab_iload_n X 3 d_MO_tries_22 rfl rfl ?_
    refine ab_imul X d_MO_tries_23 ?_
    refine ab_iconst (v := 1) X d_MO_tries_24 (by decide) ?_
    refine ab_iadd X d_MO_tries_25 ?_
    refine ab_iald X (4 * p1 + 1) ⟨rfl, rfl⟩ d_MO_tries_26 (by first | assumption | decide | (show _ < 124; omega) | (show _ < 61; omega) | (show _ < 20; omega)) (nI_4b p1) (show 4 * p1 + 1 < 160 by omega) (ab_ln_lt _ _) ?_
    refine ab_istore5 X 0 1 2 3 4 d_MO_tries_27 (by decide) rfl rfl rfl rfl rfl rfl rfl rfl rfl rfl ?_
    refine ab_aload_n X 3 d_MO_tries_29 rfl rfl ?_
    refine ab_iconst (v := 0) X d_MO_tries_30 (by decide) ?_
    refine ab_putI X fp_MO_66 d_MO_tries_31 (by first | assumption | decide | (show _ < 124; omega) | (show _ < 61; omega) | (show _ < 20; omega)) rfl rfl ?_
    refine ab_gen (fun u31 e31 => ?_)
    have P31 : gP [18, 19] u u31 := by rw [e31]; exact P0.ui rfl (by decide)
    have t31 : u31.1 17 0 18 = 0 := by rw [e31]; simp [ab_up]
    have L31 : ∀ c, p1 < c → c < P → lk u31 (3 * c) ∧ lk u31 (3 * c + 1) ∧ lk u31 (3 * c + 2) := fun c a b => by unfold lk lnu; simp only [P31.ai (a := 6) (by decide) rfl]; exact hl c a b
    have N31 : ∀ f, lnu u31 f = lnu u f := fun f => by unfold lnu; rw [P31.ai (by decide) rfl]
    have T31 := T.fr P31 (by decide) (by decide) (by decide) (by decide) (by decide)
    refine ab_iload_n X 5 d_MO_tries_34 rfl rfl ?_
    refine ab_iconst (v := 1) X d_MO_tries_35 (by decide) ?_
    refine ab_icmp_ne X 51 d_MO_tries_36 rfl (fun _ => ?_) (fun hb => absurd hb ((by decide)))
    refine ab_iload_n X 5 d_MO_tries_51 rfl rfl ?_
    refine ab_iconst (v := 2) X d_MO_tries_52 (by decide) ?_
    refine ab_icmp_ne X 76 d_MO_tries_53 rfl (fun _ => ?_) (fun hb => absurd hb ((by decide)))
    refine ab_iload_n X 5 d_MO_tries_76 rfl rfl ?_
    refine ab_bipush (v := 8) X d_MO_tries_77 (by decide) ?_
    refine ab_icmp_ne X 108 d_MO_tries_79 rfl (fun _ => ?_) (fun hb => absurd hb ((by decide)))
    refine ab_iload_n X 5 d_MO_tries_108 rfl rfl ?_
    refine ab_bipush (v := 11) X d_MO_tries_109 (by decide) ?_
    refine ab_icmp_ne X 125 d_MO_tries_111 rfl (fun _ => ?_) (fun hb => absurd hb ((by decide)))
    refine ab_iload_n X 5 d_MO_tries_125 rfl rfl ?_
    refine ab_bipush (v := 12) X d_MO_tries_126 (by decide) ?_
    refine ab_icmp_ne X 147 d_MO_tries_128 rfl (fun _ => ?_) (fun hb => absurd hb ((by decide)))
    refine ab_iload_n X 5 d_MO_tries_147 rfl rfl ?_
    refine ab_bipush (v := 13) X d_MO_tries_148 (by decide) ?_
    refine ab_icmp_ne X 173 d_MO_tries_150 rfl (fun _ => ?_) (fun hb => absurd hb ((by decide)))
    refine ab_iload_n X 5 d_MO_tries_173 rfl rfl ?_
    refine ab_bipush (v := 14) X d_MO_tries_174 (by decide) ?_
    refine ab_icmp_ne X 199 d_MO_tries_176 rfl (fun _ => ?_) (fun hb => absurd hb ((by decide)))
    refine ab_iload_n X 5 d_MO_tries_199 rfl rfl ?_
    refine ab_bipush (v := 18) X d_MO_tries_200 (by decide) ?_
    refine ab_icmp_ne X 231 d_MO_tries_202 rfl (fun _ => ?_) (fun hb => absurd hb ((by decide)))
    refine ab_iload_n X 5 d_MO_tries_231 rfl rfl ?_
    refine ab_bipush (v := 7) X d_MO_tries_232 (by decide) ?_
    refine ab_icmp_ne X 248 d_MO_tries_234 rfl (fun _ => ?_) (fun hb => absurd hb ((by decide)))
    refine ab_iload_n X 5 d_MO_tries_248 rfl rfl ?_
    refine ab_bipush (v := 21) X d_MO_tries_249 (by decide) ?_
    refine ab_icmp_ne X 274 d_MO_tries_251 rfl (fun _ => ?_) (fun hb => absurd hb ((by decide)))
    refine ab_iload_n X 5 d_MO_tries_274 rfl rfl ?_
    refine ab_bipush (v := 24) X d_MO_tries_275 (by decide) ?_
    refine ab_icmp_ne X 304 d_MO_tries_277 rfl (fun _ => ?_) (fun hb => absurd hb ((by decide)))
    refine ab_iload_n X 2 d_MO_tries_304 rfl rfl ?_
    refine ab_bipush (v := 6) X d_MO_tries_305 (by decide) ?_
    refine ab_icmp_ne X 319 d_MO_tries_307 rfl (fun h307 => ?_) (fun h307 => ?_)
    ·
      have hk6 : ¬ kd p1 = 6 := fun z => h307 (by rw [z]; rfl)
      refine ab_lv (List.forall_mem_cons.mpr ⟨List.mem_of_getElem? (i := 3) rfl, List.forall_mem_cons.mpr ⟨List.mem_of_getElem? (i := 4) rfl, fun _ h => absurd h List.not_mem_nil⟩⟩) ?_
      first | exact yes _ P31 (by unfold app; omega) (by rw [a316, N31, N31]; rfl) | exact no _ P31 (by unfold app; omega) t31
    ·
      have hk6 : kd p1 = 6 := (nI_eq (b := 6) (by omega) (by omega)).mp h307
      obtain ⟨x, y, ex, ey, x1, x2, y1, y2, -, -, -, hx, hy⟩ := W.two T hp (Or.inr hk6)
      rw [ex, ey]
      subst hx hy
      refine ab_aload_n X 3 d_MO_tries_310 rfl rfl ?_
      refine ab_iload X 1 d_MO_tries_311 rfl ?_
      refine ab_iload X 0 d_MO_tries_313 rfl ?_
      refine ab_iload_n X 5 d_MO_tries_315 rfl rfl ?_
      refine ab_callV (as := [ab_I (nI (ch p1 0)), ab_I (nI (ch p1 1)), ab_I (nI 16)]) X (fun h => by cases h) (s_MO_triesOr16 u31 (ch p1 0) (ch p1 1) P31.1 (by omega) (by omega) (L31 _ x1 x2) (L31 _ y1 y2)) lk_MO_218 d_MO_tries_316 rfl rfl (by first | assumption | decide | (show _ < 124; omega) | (show _ < 61; omega) | (show _ < 20; omega)) ⟨by first | exact Nat.le_of_ble_eq_true rfl | (simp only [ab_rm]; omega), by first | exact Nat.le_of_ble_eq_true rfl | (simp only [ab_rm]; omega)⟩ ⟨by first | exact Nat.le_of_ble_eq_true rfl | (simp only [ab_rm]; omega), by first | exact Nat.le_of_ble_eq_true rfl | (simp only [ab_rm]; omega)⟩ (Nat.le_of_ble_eq_true rfl) (fun u316 r316 h316 => ?_)
      obtain ⟨⟨q316, a316⟩, rfl⟩ := h316
      have P316 := P31.trans q316 (by decide)
      refine ab_lv (List.forall_mem_cons.mpr ⟨List.mem_of_getElem? (i := 3) rfl, List.forall_mem_cons.mpr ⟨List.mem_of_getElem? (i := 4) rfl, fun _ h => absurd h List.not_mem_nil⟩⟩) ?_
      first | exact yes _ P316 (by unfold app; omega) (by rw [a316, N31, N31]; rfl) | exact no _ P316 (by unfold app; omega) t31
  ·
    refine ab_aload_n X 0 d_MO_tries_0 rfl rfl ?_
    refine ab_gR X fl_MO_33 d_MO_tries_1 (by first | assumption | decide | (show _ < 124; omega) | (show _ < 61; omega) | (show _ < 20; omega)) (P0.1.mo7) ?_
    refine ab_iload_n X 1 d_MO_tries_4 rfl rfl ?_
    refine ab_iald X (p1) ⟨rfl, rfl⟩ d_MO_tries_5 (by first | assumption | decide | (show _ < 124; omega) | (show _ < 61; omega) | (show _ < 20; omega)) (rfl) (show p1 < 40 by omega) (ab_ln_lt _ _) ?_
    refine ab_top ek ?_
    refine ab_istore_n3 X 0 1 2 d_MO_tries_6 rfl (by decide) rfl rfl rfl rfl rfl rfl ?_
    refine ab_aload_n X 1 d_MO_tries_7 rfl rfl ?_
    refine ab_gR X fl_MO_42 d_MO_tries_8 (by first | assumption | decide | (show _ < 124; omega) | (show _ < 61; omega) | (show _ < 20; omega)) (P0.1.mo10) ?_
    refine ab_iconst (v := 4) X d_MO_tries_11 (by decide) ?_
    refine ab_iload_n X 2 d_MO_tries_12 rfl rfl ?_
    refine ab_imul X d_MO_tries_13 ?_
    refine ab_iald X (4 * p1) ⟨rfl, rfl⟩ d_MO_tries_14 (by first | assumption | decide | (show _ < 124; omega) | (show _ < 61; omega) | (show _ < 20; omega)) (nI_4m p1) (show 4 * p1 < 160 by omega) (ab_ln_lt _ _) ?_
    refine ab_istore4 X 0 1 2 3 d_MO_tries_15 (by decide) rfl rfl rfl rfl rfl rfl rfl rfl ?_
    refine ab_aload_n X 2 d_MO_tries_17 rfl rfl ?_
    refine ab_gR X fl_MO_42 d_MO_tries_18 (by first | assumption | decide | (show _ < 124; omega) | (show _ < 61; omega) | (show _ < 20; omega)) (P0.1.mo10) ?_
    refine ab_iconst (v := 4) X d_MO_tries_21 (by decide) ?_
    refine ab_iload_n X 3 d_MO_tries_22 rfl rfl ?_
    refine ab_imul X d_MO_tries_23 ?_
    refine ab_iconst (v := 1) X d_MO_tries_24 (by decide) ?_
    refine ab_iadd X d_MO_tries_25 ?_
    refine ab_iald X (4 * p1 + 1) ⟨rfl, rfl⟩ d_MO_tries_26 (by first | assumption | decide | (show _ < 124; omega) | (show _ < 61; omega) | (show _ < 20; omega)) (nI_4b p1) (show 4 * p1 + 1 < 160 by omega) (ab_ln_lt _ _) ?_
    refine ab_istore5 X 0 1 2 3 4 d_MO_tries_27 (by decide) rfl rfl rfl rfl rfl rfl rfl rfl rfl rfl ?_
    refine ab_aload_n X 3 d_MO_tries_29 rfl rfl ?_
    refine ab_iconst (v := 0) X d_MO_tries_30 (by decide) ?_
    refine ab_putI X fp_MO_66 d_MO_tries_31 (by first | assumption | decide | (show _ < 124; omega) | (show _ < 61; omega) | (show _ < 20; omega)) rfl rfl ?_
    refine ab_gen (fun u31 e31 => ?_)
    have P31 : gP [18, 19] u u31 := by rw [e31]; exact P0.ui rfl (by decide)
    have t31 : u31.1 17 0 18 = 0 := by rw [e31]; simp [ab_up]
    have L31 : ∀ c, p1 < c → c < P → lk u31 (3 * c) ∧ lk u31 (3 * c + 1) ∧ lk u31 (3 * c + 2) := fun c a b => by unfold lk lnu; simp only [P31.ai (a := 6) (by decide) rfl]; exact hl c a b
    have N31 : ∀ f, lnu u31 f = lnu u f := fun f => by unfold lnu; rw [P31.ai (by decide) rfl]
    have T31 := T.fr P31 (by decide) (by decide) (by decide) (by decide) (by decide)
    refine ab_iload_n X 5 d_MO_tries_34 rfl rfl ?_
    refine ab_iconst (v := 1) X d_MO_tries_35 (by decide) ?_
    refine ab_icmp_ne X 51 d_MO_tries_36 rfl (fun _ => ?_) (fun hb => absurd hb ((by decide)))
    refine ab_iload_n X 5 d_MO_tries_51 rfl rfl ?_
    refine ab_iconst (v := 2) X d_MO_tries_52 (by decide) ?_
    refine ab_icmp_ne X 76 d_MO_tries_53 rfl (fun _ => ?_) (fun hb => absurd hb ((by decide)))
    refine ab_iload_n X 5 d_MO_tries_76 rfl rfl ?_
    refine ab_bipush (v := 8) X d_MO_tries_77 (by decide) ?_
    refine ab_icmp_ne X 108 d_MO_tries_79 rfl (fun _ => ?_) (fun hb => absurd hb ((by decide)))
    refine ab_iload_n X 5 d_MO_tries_108 rfl rfl ?_
    refine ab_bipush (v := 11) X d_MO_tries_109 (by decide) ?_
    refine ab_icmp_ne X 125 d_MO_tries_111 rfl (fun _ => ?_) (fun hb => absurd hb ((by decide)))
    refine ab_iload_n X 5 d_MO_tries_125 rfl rfl ?_
    refine ab_bipush (v := 12) X d_MO_tries_126 (by decide) ?_
    refine ab_icmp_ne X 147 d_MO_tries_128 rfl (fun _ => ?_) (fun hb => absurd hb ((by decide)))
    refine ab_iload_n X 5 d_MO_tries_147 rfl rfl ?_
    refine ab_bipush (v := 13) X d_MO_tries_148 (by decide) ?_
    refine ab_icmp_ne X 173 d_MO_tries_150 rfl (fun _ => ?_) (fun hb => absurd hb ((by decide)))
    refine ab_iload_n X 5 d_MO_tries_173 rfl rfl ?_
    refine ab_bipush (v := 14) X d_MO_tries_174 (by decide) ?_
    refine ab_icmp_ne X 199 d_MO_tries_176 rfl (fun _ => ?_) (fun hb => absurd hb ((by decide)))
    refine ab_iload_n X 5 d_MO_tries_199 rfl rfl ?_
    refine ab_bipush (v := 18) X d_MO_tries_200 (by decide) ?_
    refine ab_icmp_ne X 231 d_MO_tries_202 rfl (fun _ => ?_) (fun hb => absurd hb ((by decide)))
    refine ab_iload_n X 5 d_MO_tries_231 rfl rfl ?_
    refine ab_bipush (v := 7) X d_MO_tries_232 (by decide) ?_
    refine ab_icmp_ne X 248 d_MO_tries_234 rfl (fun _ => ?_) (fun hb => absurd hb ((by decide)))
    refine ab_iload_n X 5 d_MO_tries_248 rfl rfl ?_
    refine ab_bipush (v := 21) X d_MO_tries_249 (by decide) ?_
    refine ab_icmp_ne X 274 d_MO_tries_251 rfl (fun _ => ?_) (fun hb => absurd hb ((by decide)))
    refine ab_iload_n X 5 d_MO_tries_274 rfl rfl ?_
    refine ab_bipush (v := 24) X d_MO_tries_275 (by decide) ?_
    refine ab_icmp_ne X 304 d_MO_tries_277 rfl (fun _ => ?_) (fun hb => absurd hb ((by decide)))
    refine ab_iload_n X 2 d_MO_tries_304 rfl rfl ?_
    refine ab_bipush (v := 6) X d_MO_tries_305 (by decide) ?_
    refine ab_icmp_ne X 319 d_MO_tries_307 rfl (fun h307 => ?_) (fun h307 => ?_)
    ·
      have hk6 : ¬ kd p1 = 6 := fun z => h307 (by rw [z]; rfl)
      refine ab_lv (List.forall_mem_cons.mpr ⟨List.mem_of_getElem? (i := 3) rfl, List.forall_mem_cons.mpr ⟨List.mem_of_getElem? (i := 4) rfl, fun _ h => absurd h List.not_mem_nil⟩⟩) ?_
      first | exact yes _ P31 (by unfold app; omega) (by rw [a316, N31, N31]; rfl) | exact no _ P31 (by unfold app; omega) t31
    ·
      have hk6 : kd p1 = 6 := (nI_eq (b := 6) (by omega) (by omega)).mp h307
      obtain ⟨x, y, ex, ey, x1, x2, y1, y2, -, -, -, hx, hy⟩ := W.two T hp (Or.inr hk6)
      rw [ex, ey]
      subst hx hy
      refine ab_aload_n X 3 d_MO_tries_310 rfl rfl ?_
      refine ab_iload X 1 d_MO_tries_311 rfl ?_
      refine ab_iload X 0 d_MO_tries_313 rfl ?_
      refine ab_iload_n X 5 d_MO_tries_315 rfl rfl ?_
      refine ab_callV (as := [ab_I (nI (ch p1 0)), ab_I (nI (ch p1 1)), ab_I (nI 17)]) X (fun h => by cases h) (s_MO_triesOr17 u31 (ch p1 0) (ch p1 1) P31.1 (by omega) (by omega) (L31 _ x1 x2) (L31 _ y1 y2)) lk_MO_218 d_MO_tries_316 rfl rfl (by first | assumption | decide | (show _ < 124; omega) | (show _ < 61; omega) | (show _ < 20; omega)) ⟨by first | exact Nat.le_of_ble_eq_true rfl | (simp only [ab_rm]; omega), by first | exact Nat.le_of_ble_eq_true rfl | (simp only [ab_rm]; omega)⟩ ⟨by first | exact Nat.le_of_ble_eq_true rfl | (simp only [ab_rm]; omega), by first | exact Nat.le_of_ble_eq_true rfl | (simp only [ab_rm]; omega)⟩ (Nat.le_of_ble_eq_true rfl) (fun u316 r316 h316 => ?_)
      obtain ⟨⟨q316, a316⟩, rfl⟩ := h316
      have P316 := P31.trans q316 (by decide)
      refine ab_lv (List.forall_mem_cons.mpr ⟨List.mem_of_getElem? (i := 3) rfl, List.forall_mem_cons.mpr ⟨List.mem_of_getElem? (i := 4) rfl, fun _ h => absurd h List.not_mem_nil⟩⟩) ?_
      first | exact yes _ P316 (by unfold app; omega) (by rw [a316, N31, N31]; rfl) | exact no _ P316 (by unfold app; omega) t31
  ·
    refine ab_aload_n X 0 d_MO_tries_0 rfl rfl ?_
    refine ab_gR X fl_MO_33 d_MO_tries_1 (by first | assumption | decide | (show _ < 124; omega) | (show _ < 61; omega) | (show _ < 20; omega)) (P0.1.mo7) ?_
    refine ab_iload_n X 1 d_MO_tries_4 rfl rfl ?_
    refine ab_iald X (p1) ⟨rfl, rfl⟩ d_MO_tries_5 (by first | assumption | decide | (show _ < 124; omega) | (show _ < 61; omega) | (show _ < 20; omega)) (rfl) (show p1 < 40 by omega) (ab_ln_lt _ _) ?_
    refine ab_top ek ?_
    refine ab_istore_n3 X 0 1 2 d_MO_tries_6 rfl (by decide) rfl rfl rfl rfl rfl rfl ?_
    refine ab_aload_n X 1 d_MO_tries_7 rfl rfl ?_
    refine ab_gR X fl_MO_42 d_MO_tries_8 (by first | assumption | decide | (show _ < 124; omega) | (show _ < 61; omega) | (show _ < 20; omega)) (P0.1.mo10) ?_
    refine ab_iconst (v := 4) X d_MO_tries_11 (by decide) ?_
    refine ab_iload_n X 2 d_MO_tries_12 rfl rfl ?_
    refine ab_imul X d_MO_tries_13 ?_
    refine ab_iald X (4 * p1) ⟨rfl, rfl⟩ d_MO_tries_14 (by first | assumption | decide | (show _ < 124; omega) | (show _ < 61; omega) | (show _ < 20; omega)) (nI_4m p1) (show 4 * p1 < 160 by omega) (ab_ln_lt _ _) ?_
    refine ab_istore4 X 0 1 2 3 d_MO_tries_15 (by decide) rfl rfl rfl rfl rfl rfl rfl rfl ?_
    refine ab_aload_n X 2 d_MO_tries_17 rfl rfl ?_
    refine ab_gR X fl_MO_42 d_MO_tries_18 (by first | assumption | decide | (show _ < 124; omega) | (show _ < 61; omega) | (show _ < 20; omega)) (P0.1.mo10) ?_
    refine ab_iconst (v := 4) X d_MO_tries_21 (by decide) ?_
    refine ab_iload_n X 3 d_MO_tries_22 rfl rfl ?_
    refine ab_imul X d_MO_tries_23 ?_
    refine ab_iconst (v := 1) X d_MO_tries_24 (by decide) ?_
    refine ab_iadd X d_MO_tries_25 ?_
    refine ab_iald X (4 * p1 + 1) ⟨rfl, rfl⟩ d_MO_tries_26 (by first | assumption | decide | (show _ < 124; omega) | (show _ < 61; omega) | (show _ < 20; omega)) (nI_4b p1) (show 4 * p1 + 1 < 160 by omega) (ab_ln_lt _ _) ?_
    refine ab_istore5 X 0 1 2 3 4 d_MO_tries_27 (by decide) rfl rfl rfl rfl rfl rfl rfl rfl rfl rfl ?_
    refine ab_aload_n X 3 d_MO_tries_29 rfl rfl ?_
    refine ab_iconst (v := 0) X d_MO_tries_30 (by decide) ?_
    refine ab_putI X fp_MO_66 d_MO_tries_31 (by first | assumption | decide | (show _ < 124; omega) | (show _ < 61; omega) | (show _ < 20; omega)) rfl rfl ?_
    refine ab_gen (fun u31 e31 => ?_)
    have P31 : gP [18, 19] u u31 := by rw [e31]; exact P0.ui rfl (by decide)
    have t31 : u31.1 17 0 18 = 0 := by rw [e31]; simp [ab_up]
    have L31 : ∀ c, p1 < c → c < P → lk u31 (3 * c) ∧ lk u31 (3 * c + 1) ∧ lk u31 (3 * c + 2) := fun c a b => by unfold lk lnu; simp only [P31.ai (a := 6) (by decide) rfl]; exact hl c a b
    have N31 : ∀ f, lnu u31 f = lnu u f := fun f => by unfold lnu; rw [P31.ai (by decide) rfl]
    have T31 := T.fr P31 (by decide) (by decide) (by decide) (by decide) (by decide)
    refine ab_iload_n X 5 d_MO_tries_34 rfl rfl ?_
    refine ab_iconst (v := 1) X d_MO_tries_35 (by decide) ?_
    refine ab_icmp_ne X 51 d_MO_tries_36 rfl (fun _ => ?_) (fun hb => absurd hb ((by decide)))
    refine ab_iload_n X 5 d_MO_tries_51 rfl rfl ?_
    refine ab_iconst (v := 2) X d_MO_tries_52 (by decide) ?_
    refine ab_icmp_ne X 76 d_MO_tries_53 rfl (fun _ => ?_) (fun hb => absurd hb ((by decide)))
    refine ab_iload_n X 5 d_MO_tries_76 rfl rfl ?_
    refine ab_bipush (v := 8) X d_MO_tries_77 (by decide) ?_
    refine ab_icmp_ne X 108 d_MO_tries_79 rfl (fun _ => ?_) (fun hb => absurd hb ((by decide)))
    refine ab_iload_n X 5 d_MO_tries_108 rfl rfl ?_
    refine ab_bipush (v := 11) X d_MO_tries_109 (by decide) ?_
    refine ab_icmp_ne X 125 d_MO_tries_111 rfl (fun _ => ?_) (fun hb => absurd hb ((by decide)))
    refine ab_iload_n X 5 d_MO_tries_125 rfl rfl ?_
    refine ab_bipush (v := 12) X d_MO_tries_126 (by decide) ?_
    refine ab_icmp_ne X 147 d_MO_tries_128 rfl (fun _ => ?_) (fun hb => absurd hb ((by decide)))
    refine ab_iload_n X 5 d_MO_tries_147 rfl rfl ?_
    refine ab_bipush (v := 13) X d_MO_tries_148 (by decide) ?_
    refine ab_icmp_ne X 173 d_MO_tries_150 rfl (fun _ => ?_) (fun hb => absurd hb ((by decide)))
    refine ab_iload_n X 5 d_MO_tries_173 rfl rfl ?_
    refine ab_bipush (v := 14) X d_MO_tries_174 (by decide) ?_
    refine ab_icmp_ne X 199 d_MO_tries_176 rfl (fun _ => ?_) (fun hb => absurd hb ((by decide)))
    refine ab_iload_n X 5 d_MO_tries_199 rfl rfl ?_
    refine ab_bipush (v := 18) X d_MO_tries_200 (by decide) ?_
    refine ab_icmp_ne X 231 d_MO_tries_202 rfl (fun hb => absurd ((by decide)) hb) (fun _ => ?_)
    refine ab_iload_n X 2 d_MO_tries_205 rfl rfl ?_
    refine ab_bipush (v := 7) X d_MO_tries_206 (by decide) ?_
    refine ab_icmp_ne X 231 d_MO_tries_208 rfl (fun h208 => ?_) (fun h208 => ?_)
    ·
      have hk7 : ¬ kd p1 = 7 := fun z => h208 (by rw [z]; rfl)
      refine ab_iload_n X 5 d_MO_tries_231 rfl rfl ?_
      refine ab_bipush (v := 7) X d_MO_tries_232 (by decide) ?_
      refine ab_icmp_ne X 248 d_MO_tries_234 rfl (fun _ => ?_) (fun hb => absurd hb ((by decide)))
      refine ab_iload_n X 5 d_MO_tries_248 rfl rfl ?_
      refine ab_bipush (v := 21) X d_MO_tries_249 (by decide) ?_
      refine ab_icmp_ne X 274 d_MO_tries_251 rfl (fun _ => ?_) (fun hb => absurd hb ((by decide)))
      refine ab_iload_n X 5 d_MO_tries_274 rfl rfl ?_
      refine ab_bipush (v := 24) X d_MO_tries_275 (by decide) ?_
      refine ab_icmp_ne X 304 d_MO_tries_277 rfl (fun _ => ?_) (fun hb => absurd hb ((by decide)))
      refine ab_iload_n X 2 d_MO_tries_304 rfl rfl ?_
      refine ab_bipush (v := 6) X d_MO_tries_305 (by decide) ?_
      refine ab_icmp_ne X 319 d_MO_tries_307 rfl (fun h307 => ?_) (fun h307 => ?_)
      ·
        have hk6 : ¬ kd p1 = 6 := fun z => h307 (by rw [z]; rfl)
        refine ab_lv (List.forall_mem_cons.mpr ⟨List.mem_of_getElem? (i := 3) rfl, List.forall_mem_cons.mpr ⟨List.mem_of_getElem? (i := 4) rfl, fun _ h => absurd h List.not_mem_nil⟩⟩) ?_
        first | exact yes _ P31 (by unfold app; omega) (by rw [a228]; unfold wl; simp only [N31]) | exact no _ P31 (by unfold app; omega) t31
      ·
        have hk6 : kd p1 = 6 := (nI_eq (b := 6) (by omega) (by omega)).mp h307
        refine ab_aload_n X 3 d_MO_tries_310 rfl rfl ?_
        refine ab_iload X 1 d_MO_tries_311 rfl ?_
        refine ab_iload X 0 d_MO_tries_313 rfl ?_
        refine ab_iload_n X 5 d_MO_tries_315 rfl rfl ?_
        refine ab_callV (as := [ab_I _, ab_I _, ab_I (nI 18)]) X (fun h => by cases h) (t_MO_triesOr18 u31 _ _) lk_MO_218 d_MO_tries_316 rfl rfl (by first | assumption | decide | (show _ < 124; omega) | (show _ < 61; omega) | (show _ < 20; omega)) ⟨by first | exact Nat.le_of_ble_eq_true rfl | (simp only [ab_rm]; omega), by first | exact Nat.le_of_ble_eq_true rfl | (simp only [ab_rm]; omega)⟩ ⟨by first | exact Nat.le_of_ble_eq_true rfl | (simp only [ab_rm]; omega), by first | exact Nat.le_of_ble_eq_true rfl | (simp only [ab_rm]; omega)⟩ (Nat.le_of_ble_eq_true rfl) (fun u316 r316 h316 => ?_)
        obtain ⟨e316, rfl⟩ := h316
        subst u316
        refine ab_lv (List.forall_mem_cons.mpr ⟨List.mem_of_getElem? (i := 3) rfl, List.forall_mem_cons.mpr ⟨List.mem_of_getElem? (i := 4) rfl, fun _ h => absurd h List.not_mem_nil⟩⟩) ?_
        first | exact yes _ P31 (by unfold app; omega) (by rw [a228]; unfold wl; simp only [N31]) | exact no _ P31 (by unfold app; omega) t31
    ·
      have hk7 : kd p1 = 7 := (nI_eq (b := 7) (by omega) (by omega)).mp h208
      refine ab_aload_n X 3 d_MO_tries_211 rfl rfl ?_
      refine ab_gR X fl_MO_36 d_MO_tries_212 (by first | assumption | decide | (show _ < 124; omega) | (show _ < 61; omega) | (show _ < 20; omega)) (P31.1.mo8) ?_
      refine ab_iload_n X 4 d_MO_tries_215 rfl rfl ?_
      refine ab_iald X (p1) ⟨rfl, rfl⟩ d_MO_tries_216 (by first | assumption | decide | (show _ < 124; omega) | (show _ < 61; omega) | (show _ < 20; omega)) (rfl) (show p1 < 40 by omega) (ab_ln_lt _ _) ?_
      refine ab_top (P31.ai (by decide) ea) ?_
      refine ab_aload_n X 3 d_MO_tries_217 rfl rfl ?_
      refine ab_gR X fl_MO_39 d_MO_tries_218 (by first | assumption | decide | (show _ < 124; omega) | (show _ < 61; omega) | (show _ < 20; omega)) (P31.1.mo9) ?_
      refine ab_iload_n X 4 d_MO_tries_221 rfl rfl ?_
      refine ab_iald X (p1) ⟨rfl, rfl⟩ d_MO_tries_222 (by first | assumption | decide | (show _ < 124; omega) | (show _ < 61; omega) | (show _ < 20; omega)) (rfl) (show p1 < 40 by omega) (ab_ln_lt _ _) ?_
      refine ab_top (P31.ai (by decide) ec) ?_
      have r1 := (W.2.2 p1 hp).1.2.2.2.2
      have r2 := ((W.2.2 p1 hp).2.2 (by omega)).2.1
      refine ab_icmp_ne X 231 d_MO_tries_223 rfl (fun h223 => ?_) (fun h223 => ?_)
      ·
        have hac : ¬ ar p1 = cn p1 := fun z => h223 (by rw [z])
        refine ab_iload_n X 5 d_MO_tries_231 rfl rfl ?_
        refine ab_bipush (v := 7) X d_MO_tries_232 (by decide) ?_
        refine ab_icmp_ne X 248 d_MO_tries_234 rfl (fun _ => ?_) (fun hb => absurd hb ((by decide)))
        refine ab_iload_n X 5 d_MO_tries_248 rfl rfl ?_
        refine ab_bipush (v := 21) X d_MO_tries_249 (by decide) ?_
        refine ab_icmp_ne X 274 d_MO_tries_251 rfl (fun _ => ?_) (fun hb => absurd hb ((by decide)))
        refine ab_iload_n X 5 d_MO_tries_274 rfl rfl ?_
        refine ab_bipush (v := 24) X d_MO_tries_275 (by decide) ?_
        refine ab_icmp_ne X 304 d_MO_tries_277 rfl (fun _ => ?_) (fun hb => absurd hb ((by decide)))
        refine ab_iload_n X 2 d_MO_tries_304 rfl rfl ?_
        refine ab_bipush (v := 6) X d_MO_tries_305 (by decide) ?_
        refine ab_icmp_ne X 319 d_MO_tries_307 rfl (fun h307 => ?_) (fun h307 => ?_)
        ·
          have hk6 : ¬ kd p1 = 6 := fun z => h307 (by rw [z]; rfl)
          refine ab_lv (List.forall_mem_cons.mpr ⟨List.mem_of_getElem? (i := 3) rfl, List.forall_mem_cons.mpr ⟨List.mem_of_getElem? (i := 4) rfl, fun _ h => absurd h List.not_mem_nil⟩⟩) ?_
          first | exact yes _ P31 (by unfold app; omega) (by rw [a228]; unfold wl; simp only [N31]) | exact no _ P31 (by unfold app; omega) t31
        ·
          have hk6 : kd p1 = 6 := (nI_eq (b := 6) (by omega) (by omega)).mp h307
          refine ab_aload_n X 3 d_MO_tries_310 rfl rfl ?_
          refine ab_iload X 1 d_MO_tries_311 rfl ?_
          refine ab_iload X 0 d_MO_tries_313 rfl ?_
          refine ab_iload_n X 5 d_MO_tries_315 rfl rfl ?_
          refine ab_callV (as := [ab_I _, ab_I _, ab_I (nI 18)]) X (fun h => by cases h) (t_MO_triesOr18 u31 _ _) lk_MO_218 d_MO_tries_316 rfl rfl (by first | assumption | decide | (show _ < 124; omega) | (show _ < 61; omega) | (show _ < 20; omega)) ⟨by first | exact Nat.le_of_ble_eq_true rfl | (simp only [ab_rm]; omega), by first | exact Nat.le_of_ble_eq_true rfl | (simp only [ab_rm]; omega)⟩ ⟨by first | exact Nat.le_of_ble_eq_true rfl | (simp only [ab_rm]; omega), by first | exact Nat.le_of_ble_eq_true rfl | (simp only [ab_rm]; omega)⟩ (Nat.le_of_ble_eq_true rfl) (fun u316 r316 h316 => ?_)
          obtain ⟨e316, rfl⟩ := h316
          subst u316
          refine ab_lv (List.forall_mem_cons.mpr ⟨List.mem_of_getElem? (i := 3) rfl, List.forall_mem_cons.mpr ⟨List.mem_of_getElem? (i := 4) rfl, fun _ h => absurd h List.not_mem_nil⟩⟩) ?_
          first | exact yes _ P31 (by unfold app; omega) (by rw [a228]; unfold wl; simp only [N31]) | exact no _ P31 (by unfold app; omega) t31
      ·
        have hac : ar p1 = cn p1 := (nI_eq (by omega) (by omega)).mp h223
        refine ab_aload_n X 3 d_MO_tries_226 rfl rfl ?_
        refine ab_iload_n X 4 d_MO_tries_227 rfl rfl ?_
        refine ab_callV (as := [ab_I (nI p1)]) X (fun h => by cases h) (s_MO_allOf u31 P kd ar cn lf ch W T31 p1 P31.1 hp hk7 L31) lk_MO_211 d_MO_tries_228 rfl rfl (by first | assumption | decide | (show _ < 124; omega) | (show _ < 61; omega) | (show _ < 20; omega)) ⟨by first | exact Nat.le_of_ble_eq_true rfl | (simp only [ab_rm]; omega), by first | exact Nat.le_of_ble_eq_true rfl | (simp only [ab_rm]; omega)⟩ ⟨by first | exact Nat.le_of_ble_eq_true rfl | (simp only [ab_rm]; omega), by first | exact Nat.le_of_ble_eq_true rfl | (simp only [ab_rm]; omega)⟩ (Nat.le_of_ble_eq_true rfl) (fun u228 r228 h228 => ?_)
        obtain ⟨⟨q228, a228⟩, rfl⟩ := h228
        have P228 := P31.trans q228 (by decide)
        refine ab_iload_n X 5 d_MO_tries_231 rfl rfl ?_
        refine ab_bipush (v := 7) X d_MO_tries_232 (by decide) ?_
        refine ab_icmp_ne X 248 d_MO_tries_234 rfl (fun _ => ?_) (fun hb => absurd hb ((by decide)))
        refine ab_iload_n X 5 d_MO_tries_248 rfl rfl ?_
        refine ab_bipush (v := 21) X d_MO_tries_249 (by decide) ?_
        refine ab_icmp_ne X 274 d_MO_tries_251 rfl (fun _ => ?_) (fun hb => absurd hb ((by decide)))
        refine ab_iload_n X 5 d_MO_tries_274 rfl rfl ?_
        refine ab_bipush (v := 24) X d_MO_tries_275 (by decide) ?_
        refine ab_icmp_ne X 304 d_MO_tries_277 rfl (fun _ => ?_) (fun hb => absurd hb ((by decide)))
        refine ab_iload_n X 2 d_MO_tries_304 rfl rfl ?_
        refine ab_bipush (v := 6) X d_MO_tries_305 (by decide) ?_
        refine ab_icmp_ne X 319 d_MO_tries_307 rfl (fun h307 => ?_) (fun h307 => ?_)
        ·
          have hk6 : ¬ kd p1 = 6 := fun z => h307 (by rw [z]; rfl)
          refine ab_lv (List.forall_mem_cons.mpr ⟨List.mem_of_getElem? (i := 3) rfl, List.forall_mem_cons.mpr ⟨List.mem_of_getElem? (i := 4) rfl, fun _ h => absurd h List.not_mem_nil⟩⟩) ?_
          first | exact yes _ P228 (by unfold app; omega) (by rw [a228]; unfold wl; simp only [N31]) | exact no _ P228 (by unfold app; omega) t31
        ·
          have hk6 : kd p1 = 6 := (nI_eq (b := 6) (by omega) (by omega)).mp h307
          refine ab_aload_n X 3 d_MO_tries_310 rfl rfl ?_
          refine ab_iload X 1 d_MO_tries_311 rfl ?_
          refine ab_iload X 0 d_MO_tries_313 rfl ?_
          refine ab_iload_n X 5 d_MO_tries_315 rfl rfl ?_
          refine ab_callV (as := [ab_I _, ab_I _, ab_I (nI 18)]) X (fun h => by cases h) (t_MO_triesOr18 u228 _ _) lk_MO_218 d_MO_tries_316 rfl rfl (by first | assumption | decide | (show _ < 124; omega) | (show _ < 61; omega) | (show _ < 20; omega)) ⟨by first | exact Nat.le_of_ble_eq_true rfl | (simp only [ab_rm]; omega), by first | exact Nat.le_of_ble_eq_true rfl | (simp only [ab_rm]; omega)⟩ ⟨by first | exact Nat.le_of_ble_eq_true rfl | (simp only [ab_rm]; omega), by first | exact Nat.le_of_ble_eq_true rfl | (simp only [ab_rm]; omega)⟩ (Nat.le_of_ble_eq_true rfl) (fun u316 r316 h316 => ?_)
          obtain ⟨e316, rfl⟩ := h316
          subst u316
          refine ab_lv (List.forall_mem_cons.mpr ⟨List.mem_of_getElem? (i := 3) rfl, List.forall_mem_cons.mpr ⟨List.mem_of_getElem? (i := 4) rfl, fun _ h => absurd h List.not_mem_nil⟩⟩) ?_
          first | exact yes _ P228 (by unfold app; omega) (by rw [a228]; unfold wl; simp only [N31]) | exact no _ P228 (by unfold app; omega) t31
  ·
    refine ab_aload_n X 0 d_MO_tries_0 rfl rfl ?_
    refine ab_gR X fl_MO_33 d_MO_tries_1 (by first | assumption | decide | (show _ < 124; omega) | (show _ < 61; omega) | (show _ < 20; omega)) (P0.1.mo7) ?_
    refine ab_iload_n X 1 d_MO_tries_4 rfl rfl ?_
    refine ab_iald X (p1) ⟨rfl, rfl⟩ d_MO_tries_5 (by first | assumption | decide | (show _ < 124; omega) | (show _ < 61; omega) | (show _ < 20; omega)) (rfl) (show p1 < 40 by omega) (ab_ln_lt _ _) ?_
    refine ab_top ek ?_
    refine ab_istore_n3 X 0 1 2 d_MO_tries_6 rfl (by decide) rfl rfl rfl rfl rfl rfl ?_
    refine ab_aload_n X 1 d_MO_tries_7 rfl rfl ?_
    refine ab_gR X fl_MO_42 d_MO_tries_8 (by first | assumption | decide | (show _ < 124; omega) | (show _ < 61; omega) | (show _ < 20; omega)) (P0.1.mo10) ?_
    refine ab_iconst (v := 4) X d_MO_tries_11 (by decide) ?_
    refine ab_iload_n X 2 d_MO_tries_12 rfl rfl ?_
    refine ab_imul X d_MO_tries_13 ?_
    refine ab_iald X (4 * p1) ⟨rfl, rfl⟩ d_MO_tries_14 (by first | assumption | decide | (show _ < 124; omega) | (show _ < 61; omega) | (show _ < 20; omega)) (nI_4m p1) (show 4 * p1 < 160 by omega) (ab_ln_lt _ _) ?_
    refine ab_istore4 X 0 1 2 3 d_MO_tries_15 (by decide) rfl rfl rfl rfl rfl rfl rfl rfl ?_
    refine ab_aload_n X 2 d_MO_tries_17 rfl rfl ?_
    refine ab_gR X fl_MO_42 d_MO_tries_18 (by first | assumption | decide | (show _ < 124; omega) | (show _ < 61; omega) | (show _ < 20; omega)) (P0.1.mo10) ?_
    refine ab_iconst (v := 4) X d_MO_tries_21 (by decide) ?_
    refine ab_iload_n X 3 d_MO_tries_22 rfl rfl ?_
    refine ab_imul X d_MO_tries_23 ?_
    refine ab_iconst (v := 1) X d_MO_tries_24 (by decide) ?_
    refine ab_iadd X d_MO_tries_25 ?_
    refine ab_iald X (4 * p1 + 1) ⟨rfl, rfl⟩ d_MO_tries_26 (by first | assumption | decide | (show _ < 124; omega) | (show _ < 61; omega) | (show _ < 20; omega)) (nI_4b p1) (show 4 * p1 + 1 < 160 by omega) (ab_ln_lt _ _) ?_
    refine ab_istore5 X 0 1 2 3 4 d_MO_tries_27 (by decide) rfl rfl rfl rfl rfl rfl rfl rfl rfl rfl ?_
    refine ab_aload_n X 3 d_MO_tries_29 rfl rfl ?_
    refine ab_iconst (v := 0) X d_MO_tries_30 (by decide) ?_
    refine ab_putI X fp_MO_66 d_MO_tries_31 (by first | assumption | decide | (show _ < 124; omega) | (show _ < 61; omega) | (show _ < 20; omega)) rfl rfl ?_
    refine ab_gen (fun u31 e31 => ?_)
    have P31 : gP [18, 19] u u31 := by rw [e31]; exact P0.ui rfl (by decide)
    have t31 : u31.1 17 0 18 = 0 := by rw [e31]; simp [ab_up]
    have L31 : ∀ c, p1 < c → c < P → lk u31 (3 * c) ∧ lk u31 (3 * c + 1) ∧ lk u31 (3 * c + 2) := fun c a b => by unfold lk lnu; simp only [P31.ai (a := 6) (by decide) rfl]; exact hl c a b
    have N31 : ∀ f, lnu u31 f = lnu u f := fun f => by unfold lnu; rw [P31.ai (by decide) rfl]
    have T31 := T.fr P31 (by decide) (by decide) (by decide) (by decide) (by decide)
    refine ab_iload_n X 5 d_MO_tries_34 rfl rfl ?_
    refine ab_iconst (v := 1) X d_MO_tries_35 (by decide) ?_
    refine ab_icmp_ne X 51 d_MO_tries_36 rfl (fun _ => ?_) (fun hb => absurd hb ((by decide)))
    refine ab_iload_n X 5 d_MO_tries_51 rfl rfl ?_
    refine ab_iconst (v := 2) X d_MO_tries_52 (by decide) ?_
    refine ab_icmp_ne X 76 d_MO_tries_53 rfl (fun _ => ?_) (fun hb => absurd hb ((by decide)))
    refine ab_iload_n X 5 d_MO_tries_76 rfl rfl ?_
    refine ab_bipush (v := 8) X d_MO_tries_77 (by decide) ?_
    refine ab_icmp_ne X 108 d_MO_tries_79 rfl (fun _ => ?_) (fun hb => absurd hb ((by decide)))
    refine ab_iload_n X 5 d_MO_tries_108 rfl rfl ?_
    refine ab_bipush (v := 11) X d_MO_tries_109 (by decide) ?_
    refine ab_icmp_ne X 125 d_MO_tries_111 rfl (fun _ => ?_) (fun hb => absurd hb ((by decide)))
    refine ab_iload_n X 5 d_MO_tries_125 rfl rfl ?_
    refine ab_bipush (v := 12) X d_MO_tries_126 (by decide) ?_
    refine ab_icmp_ne X 147 d_MO_tries_128 rfl (fun _ => ?_) (fun hb => absurd hb ((by decide)))
    refine ab_iload_n X 5 d_MO_tries_147 rfl rfl ?_
    refine ab_bipush (v := 13) X d_MO_tries_148 (by decide) ?_
    refine ab_icmp_ne X 173 d_MO_tries_150 rfl (fun _ => ?_) (fun hb => absurd hb ((by decide)))
    refine ab_iload_n X 5 d_MO_tries_173 rfl rfl ?_
    refine ab_bipush (v := 14) X d_MO_tries_174 (by decide) ?_
    refine ab_icmp_ne X 199 d_MO_tries_176 rfl (fun _ => ?_) (fun hb => absurd hb ((by decide)))
    refine ab_iload_n X 5 d_MO_tries_199 rfl rfl ?_
    refine ab_bipush (v := 18) X d_MO_tries_200 (by decide) ?_
    refine ab_icmp_ne X 231 d_MO_tries_202 rfl (fun _ => ?_) (fun hb => absurd hb ((by decide)))
    refine ab_iload_n X 5 d_MO_tries_231 rfl rfl ?_
    refine ab_bipush (v := 7) X d_MO_tries_232 (by decide) ?_
    refine ab_icmp_ne X 248 d_MO_tries_234 rfl (fun _ => ?_) (fun hb => absurd hb ((by decide)))
    refine ab_iload_n X 5 d_MO_tries_248 rfl rfl ?_
    refine ab_bipush (v := 21) X d_MO_tries_249 (by decide) ?_
    refine ab_icmp_ne X 274 d_MO_tries_251 rfl (fun hb => absurd ((by decide)) hb) (fun _ => ?_)
    refine ab_iload_n X 2 d_MO_tries_254 rfl rfl ?_
    refine ab_iconst (v := 5) X d_MO_tries_255 (by decide) ?_
    refine ab_icmp_ne X 274 d_MO_tries_256 rfl (fun h256 => ?_) (fun h256 => ?_)
    ·
      have hk5 : ¬ kd p1 = 5 := fun z => h256 (by rw [z]; rfl)
      refine ab_iload_n X 5 d_MO_tries_274 rfl rfl ?_
      refine ab_bipush (v := 24) X d_MO_tries_275 (by decide) ?_
      refine ab_icmp_ne X 304 d_MO_tries_277 rfl (fun _ => ?_) (fun hb => absurd hb ((by decide)))
      refine ab_iload_n X 2 d_MO_tries_304 rfl rfl ?_
      refine ab_bipush (v := 6) X d_MO_tries_305 (by decide) ?_
      refine ab_icmp_ne X 319 d_MO_tries_307 rfl (fun h307 => ?_) (fun h307 => ?_)
      ·
        have hk6 : ¬ kd p1 = 6 := fun z => h307 (by rw [z]; rfl)
        refine ab_lv (List.forall_mem_cons.mpr ⟨List.mem_of_getElem? (i := 3) rfl, List.forall_mem_cons.mpr ⟨List.mem_of_getElem? (i := 4) rfl, fun _ h => absurd h List.not_mem_nil⟩⟩) ?_
        first | exact yes _ P31 (by unfold app; omega) (by rw [a271, N31, N31]; rfl) | exact no _ P31 (by unfold app; omega) t31
      ·
        have hk6 : kd p1 = 6 := (nI_eq (b := 6) (by omega) (by omega)).mp h307
        refine ab_aload_n X 3 d_MO_tries_310 rfl rfl ?_
        refine ab_iload X 1 d_MO_tries_311 rfl ?_
        refine ab_iload X 0 d_MO_tries_313 rfl ?_
        refine ab_iload_n X 5 d_MO_tries_315 rfl rfl ?_
        refine ab_callV (as := [ab_I _, ab_I _, ab_I (nI 21)]) X (fun h => by cases h) (t_MO_triesOr21 u31 _ _) lk_MO_218 d_MO_tries_316 rfl rfl (by first | assumption | decide | (show _ < 124; omega) | (show _ < 61; omega) | (show _ < 20; omega)) ⟨by first | exact Nat.le_of_ble_eq_true rfl | (simp only [ab_rm]; omega), by first | exact Nat.le_of_ble_eq_true rfl | (simp only [ab_rm]; omega)⟩ ⟨by first | exact Nat.le_of_ble_eq_true rfl | (simp only [ab_rm]; omega), by first | exact Nat.le_of_ble_eq_true rfl | (simp only [ab_rm]; omega)⟩ (Nat.le_of_ble_eq_true rfl) (fun u316 r316 h316 => ?_)
        obtain ⟨e316, rfl⟩ := h316
        subst u316
        refine ab_lv (List.forall_mem_cons.mpr ⟨List.mem_of_getElem? (i := 3) rfl, List.forall_mem_cons.mpr ⟨List.mem_of_getElem? (i := 4) rfl, fun _ h => absurd h List.not_mem_nil⟩⟩) ?_
        first | exact yes _ P31 (by unfold app; omega) (by rw [a271, N31, N31]; rfl) | exact no _ P31 (by unfold app; omega) t31
    ·
      have hk5 : kd p1 = 5 := (nI_eq (b := 5) (by omega) (by omega)).mp h256
      obtain ⟨x, y, ex, ey, x1, x2, y1, y2, -, -, -, hx, hy⟩ := W.two T hp (Or.inl hk5)
      rw [ex, ey]
      subst hx hy
      refine ab_aload_n X 3 d_MO_tries_259 rfl rfl ?_
      refine ab_iload X 1 d_MO_tries_260 rfl ?_
      refine ab_callS (as := [ab_I (nI (ch p1 0))]) X (fun h => by cases h) (t_MO_v u31 (ch p1 0)) ls_MO_201 d_MO_tries_262 rfl rfl ⟨by first | exact Nat.le_of_ble_eq_true rfl | (simp only [ab_rm]; omega), by first | exact Nat.le_of_ble_eq_true rfl | (simp only [ab_rm]; omega)⟩ ⟨by first | exact Nat.le_of_ble_eq_true rfl | (simp only [ab_rm]; omega), by first | exact Nat.le_of_ble_eq_true rfl | (simp only [ab_rm]; omega)⟩ (Nat.le_of_ble_eq_true rfl) (fun u262 r262 h262 => ?_)
      obtain ⟨e262, rfl⟩ := h262
      subst u262
      refine ab_iload X 0 d_MO_tries_265 rfl ?_
      refine ab_callS (as := [ab_I (nI (ch p1 1))]) X (fun h => by cases h) (t_MO_v u31 (ch p1 1)) ls_MO_201 d_MO_tries_267 rfl rfl ⟨by first | exact Nat.le_of_ble_eq_true rfl | (simp only [ab_rm]; omega), by first | exact Nat.le_of_ble_eq_true rfl | (simp only [ab_rm]; omega)⟩ ⟨by first | exact Nat.le_of_ble_eq_true rfl | (simp only [ab_rm]; omega), by first | exact Nat.le_of_ble_eq_true rfl | (simp only [ab_rm]; omega)⟩ (Nat.le_of_ble_eq_true rfl) (fun u267 r267 h267 => ?_)
      obtain ⟨e267, rfl⟩ := h267
      subst u267
      refine ab_iconst (v := 0) X d_MO_tries_270 (by decide) ?_
      refine ab_callV (as := [ab_I (nI (3 * ch p1 0 + 2)), ab_I (nI (3 * ch p1 1 + 2)), ab_I (nI 0)]) X (fun h => by cases h) (s_MO_both u31 (3 * ch p1 0 + 2) (3 * ch p1 1 + 2) 0 P31.1 (by omega) (by omega) (L31 _ x1 x2).2.2 (L31 _ y1 y2).2.2) lk_MO_207 d_MO_tries_271 rfl rfl (by first | assumption | decide | (show _ < 124; omega) | (show _ < 61; omega) | (show _ < 20; omega)) ⟨by first | exact Nat.le_of_ble_eq_true rfl | (simp only [ab_rm]; omega), by first | exact Nat.le_of_ble_eq_true rfl | (simp only [ab_rm]; omega)⟩ ⟨by first | exact Nat.le_of_ble_eq_true rfl | (simp only [ab_rm]; omega), by first | exact Nat.le_of_ble_eq_true rfl | (simp only [ab_rm]; omega)⟩ (Nat.le_of_ble_eq_true rfl) (fun u271 r271 h271 => ?_)
      obtain ⟨⟨q271, a271⟩, rfl⟩ := h271
      have P271 := P31.trans q271 (by decide)
      refine ab_iload_n X 5 d_MO_tries_274 rfl rfl ?_
      refine ab_bipush (v := 24) X d_MO_tries_275 (by decide) ?_
      refine ab_icmp_ne X 304 d_MO_tries_277 rfl (fun _ => ?_) (fun hb => absurd hb ((by decide)))
      refine ab_iload_n X 2 d_MO_tries_304 rfl rfl ?_
      refine ab_bipush (v := 6) X d_MO_tries_305 (by decide) ?_
      refine ab_icmp_ne X 319 d_MO_tries_307 rfl (fun h307 => ?_) (fun h307 => ?_)
      ·
        have hk6 : ¬ kd p1 = 6 := fun z => h307 (by rw [z]; rfl)
        refine ab_lv (List.forall_mem_cons.mpr ⟨List.mem_of_getElem? (i := 3) rfl, List.forall_mem_cons.mpr ⟨List.mem_of_getElem? (i := 4) rfl, fun _ h => absurd h List.not_mem_nil⟩⟩) ?_
        first | exact yes _ P271 (by unfold app; omega) (by rw [a271, N31, N31]; rfl) | exact no _ P271 (by unfold app; omega) t31
      ·
        have hk6 : kd p1 = 6 := (nI_eq (b := 6) (by omega) (by omega)).mp h307
        refine ab_aload_n X 3 d_MO_tries_310 rfl rfl ?_
        refine ab_iload X 1 d_MO_tries_311 rfl ?_
        refine ab_iload X 0 d_MO_tries_313 rfl ?_
        refine ab_iload_n X 5 d_MO_tries_315 rfl rfl ?_
        refine ab_callV (as := [ab_I _, ab_I _, ab_I (nI 21)]) X (fun h => by cases h) (t_MO_triesOr21 u271 _ _) lk_MO_218 d_MO_tries_316 rfl rfl (by first | assumption | decide | (show _ < 124; omega) | (show _ < 61; omega) | (show _ < 20; omega)) ⟨by first | exact Nat.le_of_ble_eq_true rfl | (simp only [ab_rm]; omega), by first | exact Nat.le_of_ble_eq_true rfl | (simp only [ab_rm]; omega)⟩ ⟨by first | exact Nat.le_of_ble_eq_true rfl | (simp only [ab_rm]; omega), by first | exact Nat.le_of_ble_eq_true rfl | (simp only [ab_rm]; omega)⟩ (Nat.le_of_ble_eq_true rfl) (fun u316 r316 h316 => ?_)
        obtain ⟨e316, rfl⟩ := h316
        subst u316
        refine ab_lv (List.forall_mem_cons.mpr ⟨List.mem_of_getElem? (i := 3) rfl, List.forall_mem_cons.mpr ⟨List.mem_of_getElem? (i := 4) rfl, fun _ h => absurd h List.not_mem_nil⟩⟩) ?_
        first | exact yes _ P271 (by unfold app; omega) (by rw [a271, N31, N31]; rfl) | exact no _ P271 (by unfold app; omega) t31
  ·
    refine ab_aload_n X 0 d_MO_tries_0 rfl rfl ?_
    refine ab_gR X fl_MO_33 d_MO_tries_1 (by first | assumption | decide | (show _ < 124; omega) | (show _ < 61; omega) | (show _ < 20; omega)) (P0.1.mo7) ?_
    refine ab_iload_n X 1 d_MO_tries_4 rfl rfl ?_
    refine ab_iald X (p1) ⟨rfl, rfl⟩ d_MO_tries_5 (by first | assumption | decide | (show _ < 124; omega) | (show _ < 61; omega) | (show _ < 20; omega)) (rfl) (show p1 < 40 by omega) (ab_ln_lt _ _) ?_
    refine ab_top ek ?_
    refine ab_istore_n3 X 0 1 2 d_MO_tries_6 rfl (by decide) rfl rfl rfl rfl rfl rfl ?_
    refine ab_aload_n X 1 d_MO_tries_7 rfl rfl ?_
    refine ab_gR X fl_MO_42 d_MO_tries_8 (by first | assumption | decide | (show _ < 124; omega) | (show _ < 61; omega) | (show _ < 20; omega)) (P0.1.mo10) ?_
    refine ab_iconst (v := 4) X d_MO_tries_11 (by decide) ?_
    refine ab_iload_n X 2 d_MO_tries_12 rfl rfl ?_
    refine ab_imul X d_MO_tries_13 ?_
    refine ab_iald X (4 * p1) ⟨rfl, rfl⟩ d_MO_tries_14 (by first | assumption | decide | (show _ < 124; omega) | (show _ < 61; omega) | (show _ < 20; omega)) (nI_4m p1) (show 4 * p1 < 160 by omega) (ab_ln_lt _ _) ?_
    refine ab_istore4 X 0 1 2 3 d_MO_tries_15 (by decide) rfl rfl rfl rfl rfl rfl rfl rfl ?_
    refine ab_aload_n X 2 d_MO_tries_17 rfl rfl ?_
    refine ab_gR X fl_MO_42 d_MO_tries_18 (by first | assumption | decide | (show _ < 124; omega) | (show _ < 61; omega) | (show _ < 20; omega)) (P0.1.mo10) ?_
    refine ab_iconst (v := 4) X d_MO_tries_21 (by decide) ?_
    refine ab_iload_n X 3 d_MO_tries_22 rfl rfl ?_
    refine ab_imul X d_MO_tries_23 ?_
    refine ab_iconst (v := 1) X d_MO_tries_24 (by decide) ?_
    refine ab_iadd X d_MO_tries_25 ?_
    refine ab_iald X (4 * p1 + 1) ⟨rfl, rfl⟩ d_MO_tries_26 (by first | assumption | decide | (show _ < 124; omega) | (show _ < 61; omega) | (show _ < 20; omega)) (nI_4b p1) (show 4 * p1 + 1 < 160 by omega) (ab_ln_lt _ _) ?_
    refine ab_istore5 X 0 1 2 3 4 d_MO_tries_27 (by decide) rfl rfl rfl rfl rfl rfl rfl rfl rfl rfl ?_
    refine ab_aload_n X 3 d_MO_tries_29 rfl rfl ?_
    refine ab_iconst (v := 0) X d_MO_tries_30 (by decide) ?_
    refine ab_putI X fp_MO_66 d_MO_tries_31 (by first | assumption | decide | (show _ < 124; omega) | (show _ < 61; omega) | (show _ < 20; omega)) rfl rfl ?_
    refine ab_gen (fun u31 e31 => ?_)
    have P31 : gP [18, 19] u u31 := by rw [e31]; exact P0.ui rfl (by decide)
    have t31 : u31.1 17 0 18 = 0 := by rw [e31]; simp [ab_up]
    have L31 : ∀ c, p1 < c → c < P → lk u31 (3 * c) ∧ lk u31 (3 * c + 1) ∧ lk u31 (3 * c + 2) := fun c a b => by unfold lk lnu; simp only [P31.ai (a := 6) (by decide) rfl]; exact hl c a b
    have N31 : ∀ f, lnu u31 f = lnu u f := fun f => by unfold lnu; rw [P31.ai (by decide) rfl]
    have T31 := T.fr P31 (by decide) (by decide) (by decide) (by decide) (by decide)
    refine ab_iload_n X 5 d_MO_tries_34 rfl rfl ?_
    refine ab_iconst (v := 1) X d_MO_tries_35 (by decide) ?_
    refine ab_icmp_ne X 51 d_MO_tries_36 rfl (fun _ => ?_) (fun hb => absurd hb ((by decide)))
    refine ab_iload_n X 5 d_MO_tries_51 rfl rfl ?_
    refine ab_iconst (v := 2) X d_MO_tries_52 (by decide) ?_
    refine ab_icmp_ne X 76 d_MO_tries_53 rfl (fun _ => ?_) (fun hb => absurd hb ((by decide)))
    refine ab_iload_n X 5 d_MO_tries_76 rfl rfl ?_
    refine ab_bipush (v := 8) X d_MO_tries_77 (by decide) ?_
    refine ab_icmp_ne X 108 d_MO_tries_79 rfl (fun _ => ?_) (fun hb => absurd hb ((by decide)))
    refine ab_iload_n X 5 d_MO_tries_108 rfl rfl ?_
    refine ab_bipush (v := 11) X d_MO_tries_109 (by decide) ?_
    refine ab_icmp_ne X 125 d_MO_tries_111 rfl (fun _ => ?_) (fun hb => absurd hb ((by decide)))
    refine ab_iload_n X 5 d_MO_tries_125 rfl rfl ?_
    refine ab_bipush (v := 12) X d_MO_tries_126 (by decide) ?_
    refine ab_icmp_ne X 147 d_MO_tries_128 rfl (fun _ => ?_) (fun hb => absurd hb ((by decide)))
    refine ab_iload_n X 5 d_MO_tries_147 rfl rfl ?_
    refine ab_bipush (v := 13) X d_MO_tries_148 (by decide) ?_
    refine ab_icmp_ne X 173 d_MO_tries_150 rfl (fun _ => ?_) (fun hb => absurd hb ((by decide)))
    refine ab_iload_n X 5 d_MO_tries_173 rfl rfl ?_
    refine ab_bipush (v := 14) X d_MO_tries_174 (by decide) ?_
    refine ab_icmp_ne X 199 d_MO_tries_176 rfl (fun _ => ?_) (fun hb => absurd hb ((by decide)))
    refine ab_iload_n X 5 d_MO_tries_199 rfl rfl ?_
    refine ab_bipush (v := 18) X d_MO_tries_200 (by decide) ?_
    refine ab_icmp_ne X 231 d_MO_tries_202 rfl (fun _ => ?_) (fun hb => absurd hb ((by decide)))
    refine ab_iload_n X 5 d_MO_tries_231 rfl rfl ?_
    refine ab_bipush (v := 7) X d_MO_tries_232 (by decide) ?_
    refine ab_icmp_ne X 248 d_MO_tries_234 rfl (fun _ => ?_) (fun hb => absurd hb ((by decide)))
    refine ab_iload_n X 5 d_MO_tries_248 rfl rfl ?_
    refine ab_bipush (v := 21) X d_MO_tries_249 (by decide) ?_
    refine ab_icmp_ne X 274 d_MO_tries_251 rfl (fun _ => ?_) (fun hb => absurd hb ((by decide)))
    refine ab_iload_n X 5 d_MO_tries_274 rfl rfl ?_
    refine ab_bipush (v := 24) X d_MO_tries_275 (by decide) ?_
    refine ab_icmp_ne X 304 d_MO_tries_277 rfl (fun _ => ?_) (fun hb => absurd hb ((by decide)))
    refine ab_iload_n X 2 d_MO_tries_304 rfl rfl ?_
    refine ab_bipush (v := 6) X d_MO_tries_305 (by decide) ?_
    refine ab_icmp_ne X 319 d_MO_tries_307 rfl (fun h307 => ?_) (fun h307 => ?_)
    ·
      have hk6 : ¬ kd p1 = 6 := fun z => h307 (by rw [z]; rfl)
      refine ab_lv (List.forall_mem_cons.mpr ⟨List.mem_of_getElem? (i := 3) rfl, List.forall_mem_cons.mpr ⟨List.mem_of_getElem? (i := 4) rfl, fun _ h => absurd h List.not_mem_nil⟩⟩) ?_
      first | exact yes _ P31 (by unfold app; omega) (by rw [a316, N31, N31]; rfl) | exact no _ P31 (by unfold app; omega) t31
    ·
      have hk6 : kd p1 = 6 := (nI_eq (b := 6) (by omega) (by omega)).mp h307
      obtain ⟨x, y, ex, ey, x1, x2, y1, y2, -, -, -, hx, hy⟩ := W.two T hp (Or.inr hk6)
      rw [ex, ey]
      subst hx hy
      refine ab_aload_n X 3 d_MO_tries_310 rfl rfl ?_
      refine ab_iload X 1 d_MO_tries_311 rfl ?_
      refine ab_iload X 0 d_MO_tries_313 rfl ?_
      refine ab_iload_n X 5 d_MO_tries_315 rfl rfl ?_
      refine ab_callV (as := [ab_I (nI (ch p1 0)), ab_I (nI (ch p1 1)), ab_I (nI 22)]) X (fun h => by cases h) (s_MO_triesOr22 u31 (ch p1 0) (ch p1 1) P31.1 (by omega) (by omega) (L31 _ x1 x2) (L31 _ y1 y2)) lk_MO_218 d_MO_tries_316 rfl rfl (by first | assumption | decide | (show _ < 124; omega) | (show _ < 61; omega) | (show _ < 20; omega)) ⟨by first | exact Nat.le_of_ble_eq_true rfl | (simp only [ab_rm]; omega), by first | exact Nat.le_of_ble_eq_true rfl | (simp only [ab_rm]; omega)⟩ ⟨by first | exact Nat.le_of_ble_eq_true rfl | (simp only [ab_rm]; omega), by first | exact Nat.le_of_ble_eq_true rfl | (simp only [ab_rm]; omega)⟩ (Nat.le_of_ble_eq_true rfl) (fun u316 r316 h316 => ?_)
      obtain ⟨⟨q316, a316⟩, rfl⟩ := h316
      have P316 := P31.trans q316 (by decide)
      refine ab_lv (List.forall_mem_cons.mpr ⟨List.mem_of_getElem? (i := 3) rfl, List.forall_mem_cons.mpr ⟨List.mem_of_getElem? (i := 4) rfl, fun _ h => absurd h List.not_mem_nil⟩⟩) ?_
      first | exact yes _ P316 (by unfold app; omega) (by rw [a316, N31, N31]; rfl) | exact no _ P316 (by unfold app; omega) t31
  ·
    refine ab_aload_n X 0 d_MO_tries_0 rfl rfl ?_
    refine ab_gR X fl_MO_33 d_MO_tries_1 (by first | assumption | decide | (show _ < 124; omega) | (show _ < 61; omega) | (show _ < 20; omega)) (P0.1.mo7) ?_
    refine ab_iload_n X 1 d_MO_tries_4 rfl rfl ?_
    refine ab_iald X (p1) ⟨rfl, rfl⟩ d_MO_tries_5 (by first | assumption | decide | (show _ < 124; omega) | (show _ < 61; omega) | (show _ < 20; omega)) (rfl) (show p1 < 40 by omega) (ab_ln_lt _ _) ?_
    refine ab_top ek ?_
    refine ab_istore_n3 X 0 1 2 d_MO_tries_6 rfl (by decide) rfl rfl rfl rfl rfl rfl ?_
    refine ab_aload_n X 1 d_MO_tries_7 rfl rfl ?_
    refine ab_gR X fl_MO_42 d_MO_tries_8 (by first | assumption | decide | (show _ < 124; omega) | (show _ < 61; omega) | (show _ < 20; omega)) (P0.1.mo10) ?_
    refine ab_iconst (v := 4) X d_MO_tries_11 (by decide) ?_
    refine ab_iload_n X 2 d_MO_tries_12 rfl rfl ?_
    refine ab_imul X d_MO_tries_13 ?_
    refine ab_iald X (4 * p1) ⟨rfl, rfl⟩ d_MO_tries_14 (by first | assumption | decide | (show _ < 124; omega) | (show _ < 61; omega) | (show _ < 20; omega)) (nI_4m p1) (show 4 * p1 < 160 by omega) (ab_ln_lt _ _) ?_
    refine ab_istore4 X 0 1 2 3 d_MO_tries_15 (by decide) rfl rfl rfl rfl rfl rfl rfl rfl ?_
    refine ab_aload_n X 2 d_MO_tries_17 rfl rfl ?_
    refine ab_gR X fl_MO_42 d_MO_tries_18 (by first | assumption | decide | (show _ < 124; omega) | (show _ < 61; omega) | (show _ < 20; omega)) (P0.1.mo10) ?_
    refine ab_iconst (v := 4) X d_MO_tries_21 (by decide) ?_
    refine ab_iload_n X 3 d_MO_tries_22 rfl rfl ?_
    refine ab_imul X d_MO_tries_23 ?_
    refine ab_iconst (v := 1) X d_MO_tries_24 (by decide) ?_
    refine ab_iadd X d_MO_tries_25 ?_
    refine ab_iald X (4 * p1 + 1) ⟨rfl, rfl⟩ d_MO_tries_26 (by first | assumption | decide | (show _ < 124; omega) | (show _ < 61; omega) | (show _ < 20; omega)) (nI_4b p1) (show 4 * p1 + 1 < 160 by omega) (ab_ln_lt _ _) ?_
    refine ab_istore5 X 0 1 2 3 4 d_MO_tries_27 (by decide) rfl rfl rfl rfl rfl rfl rfl rfl rfl rfl ?_
    refine ab_aload_n X 3 d_MO_tries_29 rfl rfl ?_
    refine ab_iconst (v := 0) X d_MO_tries_30 (by decide) ?_
    refine ab_putI X fp_MO_66 d_MO_tries_31 (by first | assumption | decide | (show _ < 124; omega) | (show _ < 61; omega) | (show _ < 20; omega)) rfl rfl ?_
    refine ab_gen (fun u31 e31 => ?_)
    have P31 : gP [18, 19] u u31 := by rw [e31]; exact P0.ui rfl (by decide)
    have t31 : u31.1 17 0 18 = 0 := by rw [e31]; simp [ab_up]
    have L31 : ∀ c, p1 < c → c < P → lk u31 (3 * c) ∧ lk u31 (3 * c + 1) ∧ lk u31 (3 * c + 2) := fun c a b => by unfold lk lnu; simp only [P31.ai (a := 6) (by decide) rfl]; exact hl c a b
    have N31 : ∀ f, lnu u31 f = lnu u f := fun f => by unfold lnu; rw [P31.ai (by decide) rfl]
    have T31 := T.fr P31 (by decide) (by decide) (by decide) (by decide) (by decide)
    refine ab_iload_n X 5 d_MO_tries_34 rfl rfl ?_
    refine ab_iconst (v := 1) X d_MO_tries_35 (by decide) ?_
    refine ab_icmp_ne X 51 d_MO_tries_36 rfl (fun _ => ?_) (fun hb => absurd hb ((by decide)))
    refine ab_iload_n X 5 d_MO_tries_51 rfl rfl ?_
    refine ab_iconst (v := 2) X d_MO_tries_52 (by decide) ?_
    refine ab_icmp_ne X 76 d_MO_tries_53 rfl (fun _ => ?_) (fun hb => absurd hb ((by decide)))
    refine ab_iload_n X 5 d_MO_tries_76 rfl rfl ?_
    refine ab_bipush (v := 8) X d_MO_tries_77 (by decide) ?_
    refine ab_icmp_ne X 108 d_MO_tries_79 rfl (fun _ => ?_) (fun hb => absurd hb ((by decide)))
    refine ab_iload_n X 5 d_MO_tries_108 rfl rfl ?_
    refine ab_bipush (v := 11) X d_MO_tries_109 (by decide) ?_
    refine ab_icmp_ne X 125 d_MO_tries_111 rfl (fun _ => ?_) (fun hb => absurd hb ((by decide)))
    refine ab_iload_n X 5 d_MO_tries_125 rfl rfl ?_
    refine ab_bipush (v := 12) X d_MO_tries_126 (by decide) ?_
    refine ab_icmp_ne X 147 d_MO_tries_128 rfl (fun _ => ?_) (fun hb => absurd hb ((by decide)))
    refine ab_iload_n X 5 d_MO_tries_147 rfl rfl ?_
    refine ab_bipush (v := 13) X d_MO_tries_148 (by decide) ?_
    refine ab_icmp_ne X 173 d_MO_tries_150 rfl (fun _ => ?_) (fun hb => absurd hb ((by decide)))
    refine ab_iload_n X 5 d_MO_tries_173 rfl rfl ?_
    refine ab_bipush (v := 14) X d_MO_tries_174 (by decide) ?_
    refine ab_icmp_ne X 199 d_MO_tries_176 rfl (fun _ => ?_) (fun hb => absurd hb ((by decide)))
    refine ab_iload_n X 5 d_MO_tries_199 rfl rfl ?_
    refine ab_bipush (v := 18) X d_MO_tries_200 (by decide) ?_
    refine ab_icmp_ne X 231 d_MO_tries_202 rfl (fun _ => ?_) (fun hb => absurd hb ((by decide)))
    refine ab_iload_n X 5 d_MO_tries_231 rfl rfl ?_
    refine ab_bipush (v := 7) X d_MO_tries_232 (by decide) ?_
    refine ab_icmp_ne X 248 d_MO_tries_234 rfl (fun _ => ?_) (fun hb => absurd hb ((by decide)))
    refine ab_iload_n X 5 d_MO_tries_248 rfl rfl ?_
    refine ab_bipush (v := 21) X d_MO_tries_249 (by decide) ?_
    refine ab_icmp_ne X 274 d_MO_tries_251 rfl (fun _ => ?_) (fun hb => absurd hb ((by decide)))
    refine ab_iload_n X 5 d_MO_tries_274 rfl rfl ?_
    refine ab_bipush (v := 24) X d_MO_tries_275 (by decide) ?_
    refine ab_icmp_ne X 304 d_MO_tries_277 rfl (fun _ => ?_) (fun hb => absurd hb ((by decide)))
    refine ab_iload_n X 2 d_MO_tries_304 rfl rfl ?_
    refine ab_bipush (v := 6) X d_MO_tries_305 (by decide) ?_
    refine ab_icmp_ne X 319 d_MO_tries_307 rfl (fun h307 => ?_) (fun h307 => ?_)
    ·
      have hk6 : ¬ kd p1 = 6 := fun z => h307 (by rw [z]; rfl)
      refine ab_lv (List.forall_mem_cons.mpr ⟨List.mem_of_getElem? (i := 3) rfl, List.forall_mem_cons.mpr ⟨List.mem_of_getElem? (i := 4) rfl, fun _ h => absurd h List.not_mem_nil⟩⟩) ?_
      first | exact yes _ P31 (by unfold app; omega) (by rw [a316, N31, N31]; rfl) | exact no _ P31 (by unfold app; omega) t31
    ·
      have hk6 : kd p1 = 6 := (nI_eq (b := 6) (by omega) (by omega)).mp h307
      obtain ⟨x, y, ex, ey, x1, x2, y1, y2, -, -, -, hx, hy⟩ := W.two T hp (Or.inr hk6)
      rw [ex, ey]
      subst hx hy
      refine ab_aload_n X 3 d_MO_tries_310 rfl rfl ?_
      refine ab_iload X 1 d_MO_tries_311 rfl ?_
      refine ab_iload X 0 d_MO_tries_313 rfl ?_
      refine ab_iload_n X 5 d_MO_tries_315 rfl rfl ?_
      refine ab_callV (as := [ab_I (nI (ch p1 0)), ab_I (nI (ch p1 1)), ab_I (nI 23)]) X (fun h => by cases h) (s_MO_triesOr23 u31 (ch p1 0) (ch p1 1) P31.1 (by omega) (by omega) (L31 _ x1 x2) (L31 _ y1 y2)) lk_MO_218 d_MO_tries_316 rfl rfl (by first | assumption | decide | (show _ < 124; omega) | (show _ < 61; omega) | (show _ < 20; omega)) ⟨by first | exact Nat.le_of_ble_eq_true rfl | (simp only [ab_rm]; omega), by first | exact Nat.le_of_ble_eq_true rfl | (simp only [ab_rm]; omega)⟩ ⟨by first | exact Nat.le_of_ble_eq_true rfl | (simp only [ab_rm]; omega), by first | exact Nat.le_of_ble_eq_true rfl | (simp only [ab_rm]; omega)⟩ (Nat.le_of_ble_eq_true rfl) (fun u316 r316 h316 => ?_)
      obtain ⟨⟨q316, a316⟩, rfl⟩ := h316
      have P316 := P31.trans q316 (by decide)
      refine ab_lv (List.forall_mem_cons.mpr ⟨List.mem_of_getElem? (i := 3) rfl, List.forall_mem_cons.mpr ⟨List.mem_of_getElem? (i := 4) rfl, fun _ h => absurd h List.not_mem_nil⟩⟩) ?_
      first | exact yes _ P316 (by unfold app; omega) (by rw [a316, N31, N31]; rfl) | exact no _ P316 (by unfold app; omega) t31
  ·
    refine ab_aload_n X 0 d_MO_tries_0 rfl rfl ?_
    refine ab_gR X fl_MO_33 d_MO_tries_1 (by first | assumption | decide | (show _ < 124; omega) | (show _ < 61; omega) | (show _ < 20; omega)) (P0.1.mo7) ?_
    refine ab_iload_n X 1 d_MO_tries_4 rfl rfl ?_
    refine ab_iald X (p1) ⟨rfl, rfl⟩ d_MO_tries_5 (by first | assumption | decide | (show _ < 124; omega) | (show _ < 61; omega) | (show _ < 20; omega)) (rfl) (show p1 < 40 by omega) (ab_ln_lt _ _) ?_
    refine ab_top ek ?_
    refine ab_istore_n3 X 0 1 2 d_MO_tries_6 rfl (by decide) rfl rfl rfl rfl rfl rfl ?_
    refine ab_aload_n X 1 d_MO_tries_7 rfl rfl ?_
    refine ab_gR X fl_MO_42 d_MO_tries_8 (by first | assumption | decide | (show _ < 124; omega) | (show _ < 61; omega) | (show _ < 20; omega)) (P0.1.mo10) ?_
    refine ab_iconst (v := 4) X d_MO_tries_11 (by decide) ?_
    refine ab_iload_n X 2 d_MO_tries_12 rfl rfl ?_
    refine ab_imul X d_MO_tries_13 ?_
    refine ab_iald X (4 * p1) ⟨rfl, rfl⟩ d_MO_tries_14 (by first | assumption | decide | (show _ < 124; omega) | (show _ < 61; omega) | (show _ < 20; omega)) (nI_4m p1) (show 4 * p1 < 160 by omega) (ab_ln_lt _ _) ?_
    refine ab_istore4 X 0 1 2 3 d_MO_tries_15 (by decide) rfl rfl rfl rfl rfl rfl rfl rfl ?_
    refine ab_aload_n X 2 d_MO_tries_17 rfl rfl ?_
    refine ab_gR X fl_MO_42 d_MO_tries_18 (by first | assumption | decide | (show _ < 124; omega) | (show _ < 61; omega) | (show _ < 20; omega)) (P0.1.mo10) ?_
    refine ab_iconst (v := 4) X d_MO_tries_21 (by decide) ?_
    refine ab_iload_n X 3 d_MO_tries_22 rfl rfl ?_
    refine ab_imul X d_MO_tries_23 ?_
    refine ab_iconst (v := 1) X d_MO_tries_24 (by decide) ?_
    refine ab_iadd X d_MO_tries_25 ?_
    refine ab_iald X (4 * p1 + 1) ⟨rfl, rfl⟩ d_MO_tries_26 (by first | assumption | decide | (show _ < 124; omega) | (show _ < 61; omega) | (show _ < 20; omega)) (nI_4b p1) (show 4 * p1 + 1 < 160 by omega) (ab_ln_lt _ _) ?_
    refine ab_istore5 X 0 1 2 3 4 d_MO_tries_27 (by decide) rfl rfl rfl rfl rfl rfl rfl rfl rfl rfl ?_
    refine ab_aload_n X 3 d_MO_tries_29 rfl rfl ?_
    refine ab_iconst (v := 0) X d_MO_tries_30 (by decide) ?_
    refine ab_putI X fp_MO_66 d_MO_tries_31 (by first | assumption | decide | (show _ < 124; omega) | (show _ < 61; omega) | (show _ < 20; omega)) rfl rfl ?_
    refine ab_gen (fun u31 e31 => ?_)
    have P31 : gP [18, 19] u u31 := by rw [e31]; exact P0.ui rfl (by decide)
    have t31 : u31.1 17 0 18 = 0 := by rw [e31]; simp [ab_up]
    have L31 : ∀ c, p1 < c → c < P → lk u31 (3 * c) ∧ lk u31 (3 * c + 1) ∧ lk u31 (3 * c + 2) := fun c a b => by unfold lk lnu; simp only [P31.ai (a := 6) (by decide) rfl]; exact hl c a b
    have N31 : ∀ f, lnu u31 f = lnu u f := fun f => by unfold lnu; rw [P31.ai (by decide) rfl]
    have T31 := T.fr P31 (by decide) (by decide) (by decide) (by decide) (by decide)
    refine ab_iload_n X 5 d_MO_tries_34 rfl rfl ?_
    refine ab_iconst (v := 1) X d_MO_tries_35 (by decide) ?_
    refine ab_icmp_ne X 51 d_MO_tries_36 rfl (fun _ => ?_) (fun hb => absurd hb ((by decide)))
    refine ab_iload_n X 5 d_MO_tries_51 rfl rfl ?_
    refine ab_iconst (v := 2) X d_MO_tries_52 (by decide) ?_
    refine ab_icmp_ne X 76 d_MO_tries_53 rfl (fun _ => ?_) (fun hb => absurd hb ((by decide)))
    refine ab_iload_n X 5 d_MO_tries_76 rfl rfl ?_
    refine ab_bipush (v := 8) X d_MO_tries_77 (by decide) ?_
    refine ab_icmp_ne X 108 d_MO_tries_79 rfl (fun _ => ?_) (fun hb => absurd hb ((by decide)))
    refine ab_iload_n X 5 d_MO_tries_108 rfl rfl ?_
    refine ab_bipush (v := 11) X d_MO_tries_109 (by decide) ?_
    refine ab_icmp_ne X 125 d_MO_tries_111 rfl (fun _ => ?_) (fun hb => absurd hb ((by decide)))
    refine ab_iload_n X 5 d_MO_tries_125 rfl rfl ?_
    refine ab_bipush (v := 12) X d_MO_tries_126 (by decide) ?_
    refine ab_icmp_ne X 147 d_MO_tries_128 rfl (fun _ => ?_) (fun hb => absurd hb ((by decide)))
    refine ab_iload_n X 5 d_MO_tries_147 rfl rfl ?_
    refine ab_bipush (v := 13) X d_MO_tries_148 (by decide) ?_
    refine ab_icmp_ne X 173 d_MO_tries_150 rfl (fun _ => ?_) (fun hb => absurd hb ((by decide)))
    refine ab_iload_n X 5 d_MO_tries_173 rfl rfl ?_
    refine ab_bipush (v := 14) X d_MO_tries_174 (by decide) ?_
    refine ab_icmp_ne X 199 d_MO_tries_176 rfl (fun _ => ?_) (fun hb => absurd hb ((by decide)))
    refine ab_iload_n X 5 d_MO_tries_199 rfl rfl ?_
    refine ab_bipush (v := 18) X d_MO_tries_200 (by decide) ?_
    refine ab_icmp_ne X 231 d_MO_tries_202 rfl (fun _ => ?_) (fun hb => absurd hb ((by decide)))
    refine ab_iload_n X 5 d_MO_tries_231 rfl rfl ?_
    refine ab_bipush (v := 7) X d_MO_tries_232 (by decide) ?_
    refine ab_icmp_ne X 248 d_MO_tries_234 rfl (fun _ => ?_) (fun hb => absurd hb ((by decide)))
    refine ab_iload_n X 5 d_MO_tries_248 rfl rfl ?_
    refine ab_bipush (v := 21) X d_MO_tries_249 (by decide) ?_
    refine ab_icmp_ne X 274 d_MO_tries_251 rfl (fun _ => ?_) (fun hb => absurd hb ((by decide)))
    refine ab_iload_n X 5 d_MO_tries_274 rfl rfl ?_
    refine ab_bipush (v := 24) X d_MO_tries_275 (by decide) ?_
    refine ab_icmp_ne X 304 d_MO_tries_277 rfl (fun hb => absurd ((by decide)) hb) (fun _ => ?_)
    refine ab_aload_n X 3 d_MO_tries_280 rfl rfl ?_
    refine ab_aload_n X 3 d_MO_tries_281 rfl rfl ?_
    refine ab_gR X fl_MO_48 d_MO_tries_282 (by first | assumption | decide | (show _ < 124; omega) | (show _ < 61; omega) | (show _ < 20; omega)) (P31.1.mo12) ?_
    refine ab_iload_n X 4 d_MO_tries_285 rfl rfl ?_
    refine ab_callS (as := [ab_I (nI p1)]) X (fun h => by cases h) (t_MO_b u31 p1) ls_MO_204 d_MO_tries_286 rfl rfl ⟨by first | exact Nat.le_of_ble_eq_true rfl | (simp only [ab_rm]; omega), by first | exact Nat.le_of_ble_eq_true rfl | (simp only [ab_rm]; omega)⟩ ⟨by first | exact Nat.le_of_ble_eq_true rfl | (simp only [ab_rm]; omega), by first | exact Nat.le_of_ble_eq_true rfl | (simp only [ab_rm]; omega)⟩ (Nat.le_of_ble_eq_true rfl) (fun u286 r286 h286 => ?_)
    obtain ⟨e286, rfl⟩ := h286
    subst u286
    refine ab_iald X (3 * p1) ⟨rfl, rfl⟩ d_MO_tries_289 (by first | assumption | decide | (show _ < 124; omega) | (show _ < 61; omega) | (show _ < 20; omega)) (rfl) (show 3 * p1 < 72 by omega) (ab_ln_lt _ _) ?_
    refine ab_top (P31.ai (by decide) (hB (by omega)).1) ?_
    refine ab_iconst (v := 1) X d_MO_tries_290 (by decide) ?_
    refine ab_iadd X d_MO_tries_291 ?_
    refine ab_top (nI_add _ 1) ?_
    refine ab_aload_n X 3 d_MO_tries_292 rfl rfl ?_
    refine ab_gR X fl_MO_51 d_MO_tries_293 (by first | assumption | decide | (show _ < 124; omega) | (show _ < 61; omega) | (show _ < 20; omega)) (P31.1.mo13) ?_
    refine ab_iload_n X 4 d_MO_tries_296 rfl rfl ?_
    refine ab_callS (as := [ab_I (nI p1)]) X (fun h => by cases h) (t_MO_b u31 p1) ls_MO_204 d_MO_tries_297 rfl rfl ⟨by first | exact Nat.le_of_ble_eq_true rfl | (simp only [ab_rm]; omega), by first | exact Nat.le_of_ble_eq_true rfl | (simp only [ab_rm]; omega)⟩ ⟨by first | exact Nat.le_of_ble_eq_true rfl | (simp only [ab_rm]; omega), by first | exact Nat.le_of_ble_eq_true rfl | (simp only [ab_rm]; omega)⟩ (Nat.le_of_ble_eq_true rfl) (fun u297 r297 h297 => ?_)
    obtain ⟨e297, rfl⟩ := h297
    subst u297
    refine ab_iald X (3 * p1) ⟨rfl, rfl⟩ d_MO_tries_300 (by first | assumption | decide | (show _ < 124; omega) | (show _ < 61; omega) | (show _ < 20; omega)) (rfl) (show 3 * p1 < 72 by omega) (ab_ln_lt _ _) ?_
    refine ab_callV (as := [ab_I _, ab_I _]) X (fun h => by cases h) (s_MO_is u31 _ _ P31.1) lk_MO_188 d_MO_tries_301 rfl rfl (by first | assumption | decide | (show _ < 124; omega) | (show _ < 61; omega) | (show _ < 20; omega)) ⟨by first | exact Nat.le_of_ble_eq_true rfl | (simp only [ab_rm]; omega), by first | exact Nat.le_of_ble_eq_true rfl | (simp only [ab_rm]; omega)⟩ ⟨by first | exact Nat.le_of_ble_eq_true rfl | (simp only [ab_rm]; omega), by first | exact Nat.le_of_ble_eq_true rfl | (simp only [ab_rm]; omega)⟩ (Nat.le_of_ble_eq_true rfl) (fun u301 r301 h301 => ?_)
    obtain ⟨⟨q301, a301⟩, rfl⟩ := h301
    have P301 := P31.trans q301 (by decide)
    refine ab_iload_n X 2 d_MO_tries_304 rfl rfl ?_
    refine ab_bipush (v := 6) X d_MO_tries_305 (by decide) ?_
    refine ab_icmp_ne X 319 d_MO_tries_307 rfl (fun h307 => ?_) (fun h307 => ?_)
    ·
      have hk6 : ¬ kd p1 = 6 := fun z => h307 (by rw [z]; rfl)
      refine ab_lv (List.forall_mem_cons.mpr ⟨List.mem_of_getElem? (i := 3) rfl, List.forall_mem_cons.mpr ⟨List.mem_of_getElem? (i := 4) rfl, fun _ h => absurd h List.not_mem_nil⟩⟩) ?_
      exact yes _ P301 (by unfold app; omega) (a301.trans rfl)
    ·
      have hk6 : kd p1 = 6 := (nI_eq (b := 6) (by omega) (by omega)).mp h307
      refine ab_aload_n X 3 d_MO_tries_310 rfl rfl ?_
      refine ab_iload X 1 d_MO_tries_311 rfl ?_
      refine ab_iload X 0 d_MO_tries_313 rfl ?_
      refine ab_iload_n X 5 d_MO_tries_315 rfl rfl ?_
      refine ab_callV (as := [ab_I _, ab_I _, ab_I (nI 24)]) X (fun h => by cases h) (t_MO_triesOr24 u301 _ _) lk_MO_218 d_MO_tries_316 rfl rfl (by first | assumption | decide | (show _ < 124; omega) | (show _ < 61; omega) | (show _ < 20; omega)) ⟨by first | exact Nat.le_of_ble_eq_true rfl | (simp only [ab_rm]; omega), by first | exact Nat.le_of_ble_eq_true rfl | (simp only [ab_rm]; omega)⟩ ⟨by first | exact Nat.le_of_ble_eq_true rfl | (simp only [ab_rm]; omega), by first | exact Nat.le_of_ble_eq_true rfl | (simp only [ab_rm]; omega)⟩ (Nat.le_of_ble_eq_true rfl) (fun u316 r316 h316 => ?_)
      obtain ⟨e316, rfl⟩ := h316
      subst u316
      refine ab_lv (List.forall_mem_cons.mpr ⟨List.mem_of_getElem? (i := 3) rfl, List.forall_mem_cons.mpr ⟨List.mem_of_getElem? (i := 4) rfl, fun _ h => absurd h List.not_mem_nil⟩⟩) ?_
      exact yes _ P301 (by unfold app; omega) (a301.trans rfl)
end SaMTry

