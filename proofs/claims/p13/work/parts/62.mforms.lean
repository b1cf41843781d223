section SaMForms
variable {l : Launch} {D : va_G} {ca : Nat → ClassId}
abbrev b_MO_forms : ByteArray := prog_10_method_25_code
def y_MO_forms : MethodName := ⟨"PolicyForgeModel", "forms", "(I)V"⟩
theorem d_MO_forms_0 : decode b_MO_forms 0 = .ok (.aload_n 0, 1) := by decide +kernel
theorem d_MO_forms_1 : decode b_MO_forms 1 = .ok (.iload_n 1, 1) := by decide +kernel
theorem d_MO_forms_2 : decode b_MO_forms 2 = .ok (.iload_n 1, 1) := by decide +kernel
theorem d_MO_forms_3 : decode b_MO_forms 3 = .ok (.invokestatic 204, 3) := by decide +kernel
theorem d_MO_forms_6 : decode b_MO_forms 6 = .ok (.bipush 11, 2) := by decide +kernel
theorem d_MO_forms_8 : decode b_MO_forms 8 = .ok (.bipush 18, 2) := by decide +kernel
theorem d_MO_forms_10 : decode b_MO_forms 10 = .ok (.iconst 1, 1) := by decide +kernel
theorem d_MO_forms_11 : decode b_MO_forms 11 = .ok (.bipush 7, 2) := by decide +kernel
theorem d_MO_forms_13 : decode b_MO_forms 13 = .ok (.invokevirtual 232, 3) := by decide +kernel
theorem d_MO_forms_16 : decode b_MO_forms 16 = .ok (.aload_n 0, 1) := by decide +kernel
theorem d_MO_forms_17 : decode b_MO_forms 17 = .ok (.iload_n 1, 1) := by decide +kernel
theorem d_MO_forms_18 : decode b_MO_forms 18 = .ok (.iload_n 1, 1) := by decide +kernel
theorem d_MO_forms_19 : decode b_MO_forms 19 = .ok (.invokestatic 195, 3) := by decide +kernel
theorem d_MO_forms_22 : decode b_MO_forms 22 = .ok (.iconst 1, 1) := by decide +kernel
theorem d_MO_forms_23 : decode b_MO_forms 23 = .ok (.bipush 8, 2) := by decide +kernel
theorem d_MO_forms_25 : decode b_MO_forms 25 = .ok (.iconst 1, 1) := by decide +kernel
theorem d_MO_forms_26 : decode b_MO_forms 26 = .ok (.iconst 0, 1) := by decide +kernel
theorem d_MO_forms_27 : decode b_MO_forms 27 = .ok (.invokevirtual 232, 3) := by decide +kernel
theorem d_MO_forms_30 : decode b_MO_forms 30 = .ok (.aload_n 0, 1) := by decide +kernel
theorem d_MO_forms_31 : decode b_MO_forms 31 = .ok (.iload_n 1, 1) := by decide +kernel
theorem d_MO_forms_32 : decode b_MO_forms 32 = .ok (.iload_n 1, 1) := by decide +kernel
theorem d_MO_forms_33 : decode b_MO_forms 33 = .ok (.invokestatic 201, 3) := by decide +kernel
theorem d_MO_forms_36 : decode b_MO_forms 36 = .ok (.bipush 21, 2) := by decide +kernel
theorem d_MO_forms_38 : decode b_MO_forms 38 = .ok (.bipush 24, 2) := by decide +kernel
theorem d_MO_forms_40 : decode b_MO_forms 40 = .ok (.iconst 1, 1) := by decide +kernel
theorem d_MO_forms_41 : decode b_MO_forms 41 = .ok (.iconst 0, 1) := by decide +kernel
theorem d_MO_forms_42 : decode b_MO_forms 42 = .ok (.invokevirtual 232, 3) := by decide +kernel
theorem d_MO_forms_45 : decode b_MO_forms 45 = .ok (.aload_n 0, 1) := by decide +kernel
theorem d_MO_forms_46 : decode b_MO_forms 46 = .ok (.getfield 45, 3) := by decide +kernel
theorem d_MO_forms_49 : decode b_MO_forms 49 = .ok (.iload_n 1, 1) := by decide +kernel
theorem d_MO_forms_50 : decode b_MO_forms 50 = .ok (.invokestatic 195, 3) := by decide +kernel
theorem d_MO_forms_53 : decode b_MO_forms 53 = .ok (.iaload, 1) := by decide +kernel
theorem d_MO_forms_54 : decode b_MO_forms 54 = .ok (.istore_n 2, 1) := by decide +kernel
theorem d_MO_forms_55 : decode b_MO_forms 55 = .ok (.aload_n 0, 1) := by decide +kernel
theorem d_MO_forms_56 : decode b_MO_forms 56 = .ok (.getfield 42, 3) := by decide +kernel
theorem d_MO_forms_59 : decode b_MO_forms 59 = .ok (.iconst 4, 1) := by decide +kernel
theorem d_MO_forms_60 : decode b_MO_forms 60 = .ok (.iload_n 1, 1) := by decide +kernel
theorem d_MO_forms_61 : decode b_MO_forms 61 = .ok (.imul, 1) := by decide +kernel
theorem d_MO_forms_62 : decode b_MO_forms 62 = .ok (.iaload, 1) := by decide +kernel
theorem d_MO_forms_63 : decode b_MO_forms 63 = .ok (.istore_n 3, 1) := by decide +kernel
theorem d_MO_forms_64 : decode b_MO_forms 64 = .ok (.aload_n 0, 1) := by decide +kernel
theorem d_MO_forms_65 : decode b_MO_forms 65 = .ok (.getfield 42, 3) := by decide +kernel
theorem d_MO_forms_68 : decode b_MO_forms 68 = .ok (.iconst 4, 1) := by decide +kernel
theorem d_MO_forms_69 : decode b_MO_forms 69 = .ok (.iload_n 1, 1) := by decide +kernel
theorem d_MO_forms_70 : decode b_MO_forms 70 = .ok (.imul, 1) := by decide +kernel
theorem d_MO_forms_71 : decode b_MO_forms 71 = .ok (.iconst 1, 1) := by decide +kernel
theorem d_MO_forms_72 : decode b_MO_forms 72 = .ok (.iadd, 1) := by decide +kernel
theorem d_MO_forms_73 : decode b_MO_forms 73 = .ok (.iaload, 1) := by decide +kernel
theorem d_MO_forms_74 : decode b_MO_forms 74 = .ok (.istore 4, 2) := by decide +kernel
theorem d_MO_forms_76 : decode b_MO_forms 76 = .ok (.aload_n 0, 1) := by decide +kernel
theorem d_MO_forms_77 : decode b_MO_forms 77 = .ok (.getfield 54, 3) := by decide +kernel
theorem d_MO_forms_80 : decode b_MO_forms 80 = .ok (.iload_n 1, 1) := by decide +kernel
theorem d_MO_forms_81 : decode b_MO_forms 81 = .ok (.iload_n 2, 1) := by decide +kernel
theorem d_MO_forms_82 : decode b_MO_forms 82 = .ok (.iconst 1, 1) := by decide +kernel
theorem d_MO_forms_83 : decode b_MO_forms 83 = .ok (.if_icmp .eq 9, 3) := by decide +kernel
theorem d_MO_forms_86 : decode b_MO_forms 86 = .ok (.iload_n 2, 1) := by decide +kernel
theorem d_MO_forms_87 : decode b_MO_forms 87 = .ok (.bipush 8, 2) := by decide +kernel
theorem d_MO_forms_89 : decode b_MO_forms 89 = .ok (.if_icmp .ne 7, 3) := by decide +kernel
theorem d_MO_forms_92 : decode b_MO_forms 92 = .ok (.iconst 1, 1) := by decide +kernel
theorem d_MO_forms_93 : decode b_MO_forms 93 = .ok (.goto 38, 3) := by decide +kernel
theorem d_MO_forms_96 : decode b_MO_forms 96 = .ok (.iload_n 2, 1) := by decide +kernel
theorem d_MO_forms_97 : decode b_MO_forms 97 = .ok (.iconst 5, 1) := by decide +kernel
theorem d_MO_forms_98 : decode b_MO_forms 98 = .ok (.if_icmp .ne 14, 3) := by decide +kernel
theorem d_MO_forms_101 : decode b_MO_forms 101 = .ok (.iconst 1, 1) := by decide +kernel
theorem d_MO_forms_102 : decode b_MO_forms 102 = .ok (.aload_n 0, 1) := by decide +kernel
theorem d_MO_forms_103 : decode b_MO_forms 103 = .ok (.getfield 54, 3) := by decide +kernel
theorem d_MO_forms_106 : decode b_MO_forms 106 = .ok (.iload_n 3, 1) := by decide +kernel
theorem d_MO_forms_107 : decode b_MO_forms 107 = .ok (.iaload, 1) := by decide +kernel
theorem d_MO_forms_108 : decode b_MO_forms 108 = .ok (.iadd, 1) := by decide +kernel
theorem d_MO_forms_109 : decode b_MO_forms 109 = .ok (.goto 22, 3) := by decide +kernel
theorem d_MO_forms_112 : decode b_MO_forms 112 = .ok (.iload_n 2, 1) := by decide +kernel
theorem d_MO_forms_113 : decode b_MO_forms 113 = .ok (.bipush 6, 2) := by decide +kernel
theorem d_MO_forms_115 : decode b_MO_forms 115 = .ok (.if_icmp .ne 15, 3) := by decide +kernel
theorem d_MO_forms_118 : decode b_MO_forms 118 = .ok (.iconst 1, 1) := by decide +kernel
theorem d_MO_forms_119 : decode b_MO_forms 119 = .ok (.aload_n 0, 1) := by decide +kernel
theorem d_MO_forms_120 : decode b_MO_forms 120 = .ok (.getfield 54, 3) := by decide +kernel
theorem d_MO_forms_123 : decode b_MO_forms 123 = .ok (.iload 4, 2) := by decide +kernel
theorem d_MO_forms_125 : decode b_MO_forms 125 = .ok (.iaload, 1) := by decide +kernel
theorem d_MO_forms_126 : decode b_MO_forms 126 = .ok (.iadd, 1) := by decide +kernel
theorem d_MO_forms_127 : decode b_MO_forms 127 = .ok (.goto 4, 3) := by decide +kernel
theorem d_MO_forms_130 : decode b_MO_forms 130 = .ok (.iconst 0, 1) := by decide +kernel
theorem d_MO_forms_131 : decode b_MO_forms 131 = .ok (.iastore, 1) := by decide +kernel
theorem d_MO_forms_132 : decode b_MO_forms 132 = .ok (.iconst 0, 1) := by decide +kernel
theorem d_MO_forms_133 : decode b_MO_forms 133 = .ok (.istore 5, 2) := by decide +kernel
theorem d_MO_forms_135 : decode b_MO_forms 135 = .ok (.iload 5, 2) := by decide +kernel
theorem d_MO_forms_137 : decode b_MO_forms 137 = .ok (.aload_n 0, 1) := by decide +kernel
theorem d_MO_forms_138 : decode b_MO_forms 138 = .ok (.getfield 39, 3) := by decide +kernel
theorem d_MO_forms_141 : decode b_MO_forms 141 = .ok (.iload_n 1, 1) := by decide +kernel
theorem d_MO_forms_142 : decode b_MO_forms 142 = .ok (.iaload, 1) := by decide +kernel
theorem d_MO_forms_143 : decode b_MO_forms 143 = .ok (.if_icmp .ge 49, 3) := by decide +kernel
theorem d_MO_forms_146 : decode b_MO_forms 146 = .ok (.iload_n 2, 1) := by decide +kernel
theorem d_MO_forms_147 : decode b_MO_forms 147 = .ok (.iconst 5, 1) := by decide +kernel
theorem d_MO_forms_148 : decode b_MO_forms 148 = .ok (.if_icmp .lt 9, 3) := by decide +kernel
theorem d_MO_forms_151 : decode b_MO_forms 151 = .ok (.iload_n 2, 1) := by decide +kernel
theorem d_MO_forms_152 : decode b_MO_forms 152 = .ok (.bipush 7, 2) := by decide +kernel
theorem d_MO_forms_154 : decode b_MO_forms 154 = .ok (.if_icmp .ne 38, 3) := by decide +kernel
theorem d_MO_forms_157 : decode b_MO_forms 157 = .ok (.aload_n 0, 1) := by decide +kernel
theorem d_MO_forms_158 : decode b_MO_forms 158 = .ok (.getfield 54, 3) := by decide +kernel
theorem d_MO_forms_161 : decode b_MO_forms 161 = .ok (.iload_n 1, 1) := by decide +kernel
theorem d_MO_forms_162 : decode b_MO_forms 162 = .ok (.aload_n 0, 1) := by decide +kernel
theorem d_MO_forms_163 : decode b_MO_forms 163 = .ok (.getfield 54, 3) := by decide +kernel
theorem d_MO_forms_166 : decode b_MO_forms 166 = .ok (.iload_n 1, 1) := by decide +kernel
theorem d_MO_forms_167 : decode b_MO_forms 167 = .ok (.iaload, 1) := by decide +kernel
theorem d_MO_forms_168 : decode b_MO_forms 168 = .ok (.aload_n 0, 1) := by decide +kernel
theorem d_MO_forms_169 : decode b_MO_forms 169 = .ok (.getfield 54, 3) := by decide +kernel
theorem d_MO_forms_172 : decode b_MO_forms 172 = .ok (.aload_n 0, 1) := by decide +kernel
theorem d_MO_forms_173 : decode b_MO_forms 173 = .ok (.getfield 42, 3) := by decide +kernel
theorem d_MO_forms_176 : decode b_MO_forms 176 = .ok (.iconst 4, 1) := by decide +kernel
theorem d_MO_forms_177 : decode b_MO_forms 177 = .ok (.iload_n 1, 1) := by decide +kernel
theorem d_MO_forms_178 : decode b_MO_forms 178 = .ok (.imul, 1) := by decide +kernel
theorem d_MO_forms_179 : decode b_MO_forms 179 = .ok (.iload 5, 2) := by decide +kernel
theorem d_MO_forms_181 : decode b_MO_forms 181 = .ok (.iadd, 1) := by decide +kernel
theorem d_MO_forms_182 : decode b_MO_forms 182 = .ok (.iaload, 1) := by decide +kernel
theorem d_MO_forms_183 : decode b_MO_forms 183 = .ok (.iaload, 1) := by decide +kernel
theorem d_MO_forms_184 : decode b_MO_forms 184 = .ok (.iadd, 1) := by decide +kernel
theorem d_MO_forms_185 : decode b_MO_forms 185 = .ok (.iastore, 1) := by decide +kernel
theorem d_MO_forms_186 : decode b_MO_forms 186 = .ok (.iinc 5 1, 3) := by decide +kernel
theorem d_MO_forms_189 : decode b_MO_forms 189 = .ok (.goto (-54), 3) := by decide +kernel
theorem d_MO_forms_192 : decode b_MO_forms 192 = .ok (.iconst 0, 1) := by decide +kernel
theorem d_MO_forms_193 : decode b_MO_forms 193 = .ok (.istore 5, 2) := by decide +kernel
theorem d_MO_forms_195 : decode b_MO_forms 195 = .ok (.iload 5, 2) := by decide +kernel
theorem d_MO_forms_197 : decode b_MO_forms 197 = .ok (.iconst 3, 1) := by decide +kernel
theorem d_MO_forms_198 : decode b_MO_forms 198 = .ok (.if_icmp .ge 20, 3) := by decide +kernel
theorem d_MO_forms_201 : decode b_MO_forms 201 = .ok (.aload_n 0, 1) := by decide +kernel
theorem d_MO_forms_202 : decode b_MO_forms 202 = .ok (.iload_n 1, 1) := by decide +kernel
theorem d_MO_forms_203 : decode b_MO_forms 203 = .ok (.iconst 3, 1) := by decide +kernel
theorem d_MO_forms_204 : decode b_MO_forms 204 = .ok (.iload_n 1, 1) := by decide +kernel
theorem d_MO_forms_205 : decode b_MO_forms 205 = .ok (.imul, 1) := by decide +kernel
theorem d_MO_forms_206 : decode b_MO_forms 206 = .ok (.iload 5, 2) := by decide +kernel
theorem d_MO_forms_208 : decode b_MO_forms 208 = .ok (.iadd, 1) := by decide +kernel
theorem d_MO_forms_209 : decode b_MO_forms 209 = .ok (.invokevirtual 236, 3) := by decide +kernel
theorem d_MO_forms_212 : decode b_MO_forms 212 = .ok (.iinc 5 1, 3) := by decide +kernel
theorem d_MO_forms_215 : decode b_MO_forms 215 = .ok (.goto (-20), 3) := by decide +kernel
theorem d_MO_forms_218 : decode b_MO_forms 218 = .ok (.return_, 1) := by decide +kernel
theorem lk_MO_232 : ab_lk "PolicyForgeModel" 232 y_MO_choose b_MO_choose 9 none 6 17 := ⟨⟨rfl, T_MO, 44, rfl⟩, List.forall_mem_cons.mpr ⟨(ab_in 1120 (by decide +kernel) (by decide +kernel)), List.forall_mem_cons.mpr ⟨(ab_in 1122 (by decide +kernel) (by decide +kernel)), List.forall_mem_cons.mpr ⟨(ab_in 54 (by decide +kernel) (by decide +kernel)), List.forall_mem_cons.mpr ⟨(ab_in 100 (by decide +kernel) (by decide +kernel)), List.forall_mem_cons.mpr ⟨(ab_in 1123 (by decide +kernel) (by decide +kernel)), fun _ h => absurd h List.not_mem_nil⟩⟩⟩⟩⟩, ⟨by decide +kernel, by decide +kernel, by decide +kernel⟩, by decide⟩
theorem lk_MO_236 : ab_lk "PolicyForgeModel" 236 y_MO_write b_MO_write 6 none 2 17 := ⟨⟨rfl, T_MO, 44, rfl⟩, List.forall_mem_cons.mpr ⟨(ab_in 1169 (by decide +kernel) (by decide +kernel)), List.forall_mem_cons.mpr ⟨(ab_in 1171 (by decide +kernel) (by decide +kernel)), List.forall_mem_cons.mpr ⟨(ab_in 64 (by decide +kernel) (by decide +kernel)), List.forall_mem_cons.mpr ⟨(ab_in 100 (by decide +kernel) (by decide +kernel)), List.forall_mem_cons.mpr ⟨(ab_in 1172 (by decide +kernel) (by decide +kernel)), fun _ h => absurd h List.not_mem_nil⟩⟩⟩⟩⟩, ⟨by decide +kernel, by decide +kernel, by decide +kernel⟩, by decide⟩
set_option maxRecDepth 100000 in
set_option maxHeartbeats 20000000 in
theorem s_MO_forms (u : ab_S) (P : Nat) (kd ar cn lf : Nat → Nat) (ch : Nat → Nat → Nat) (W : tW P kd ar cn lf ch) (T : tR P kd ar cn ch u) (p1 : Nat) (h : mR u.2.1) (hp : p1 < P) (V : fV P kd lf (p1 + 1) u) : ab_C false l D ca y_MO_forms b_MO_forms 6 none 5 ab_nQ u [ab_O 17 0, ab_I (nI p1)] (fun u' v => (fN u u' p1 ∧ fV P kd lf p1 u') ∧ v = none) := by
  refine ab_C.of (by decide) (Nat.le_of_ble_eq_true rfl) ?_
  intro p e s m args below meth c ad X hZ hr0 hlk
  have P0 : gP [16, 17, 18, 19, 105, 106, 107, 108, 109] u u := gP.rf h
  have hP19 := W.2.1
  obtain ⟨⟨lp, lp10, k1, k7, ar9⟩, k5, kk5⟩ := W.2.2 p1 hp
  obtain ⟨ek, ea, ec, ech⟩ := T.2 p1 hp
  have hl0 : ∀ c, p1 < c → c < P → lk u (3 * c) ∧ lk u (3 * c + 1) ∧ lk u (3 * c + 2) := fun c x y => ⟨(V c x y 0 (by decide)).1.1, (V c x y 1 (by decide)).1.1, (V c x y 2 (by decide)).1.1⟩
  have hG0 : ∀ c, p1 < c → c < P → lnu u (3 * c + 1) ≤ 9 * lf c - 4 := fun c x y => by have z := (V c x y 1 (by decide)).2.1; rw [if_neg (by decide)] at z; omega
  have rest : ∀ (wy n : Nat → Nat), (∀ j, j < 3 → wv (kd p1) j (wy j) ∧ (j = 1 → wy j ≤ 8) ∧ n j ≤ 9 * lf p1 - 4 + (if j = 2 then 1 else 0)) → ∀ (k j : Nat) (u1 : ab_S), k + j = 3 → fN u u1 p1 → wS P kd ar cn lf ch p1 wy n j u1 → ab_J p l e (ab_rm 5 0 0) s m args below meth c (MQ below (ab_Q D ca ad ab_nQ s.heap.size (fun u' v => (fN u u' p1 ∧ fV P kd lf p1 u') ∧ v = none)) args s 0 0 (ab_A ad ab_nQ s.heap.size)) D ca (ab_A ad ab_nQ s.heap.size) s.heap 6 0 0 ad ab_nQ u1 195 [(5, ab_I (nI j)), (0, ab_O 17 0), (1, ab_I (nI p1))] [] := by
    intro wy n hwv k
    induction k with
    | zero =>
      intro j u1 hj hN hS
      obtain rfl : j = 3 := by omega
      have Q1 := hN.1
      refine ab_iload X 0 d_MO_forms_195 rfl ?_
      refine ab_iconst (v := 3) X d_MO_forms_197 (by decide) ?_
      refine ab_icmp_ge X 218 d_MO_forms_198 rfl (fun _ => ?_) (fun hb => absurd ((by decide)) hb)
      exact ab_retv X hr0 hlk d_MO_forms_218 ⟨⟨hN, fun p2 a2 b2 j2 hj2 => by
        by_cases q : p2 = p1
        · subst q
          obtain ⟨a3, a4, a5, a6, a7, -⟩ := hS.2.1 j2 hj2
          exact ⟨hS.2.2 j2 hj2 hj2, by rw [lnu_of a4 (by omega)]; exact (hwv j2 hj2).2.2, wy j2, a3, (hwv j2 hj2).1, (hwv j2 hj2).2.1⟩
        · obtain ⟨v1, v2, w, v3, v4, v5⟩ := V p2 (by omega) b2 j2 hj2
          have hg := hS.1 p2 (by omega) b2
          have e6 := (hN.2.1 (3 * p2 + j2) (by omega)).1
          refine ⟨?_, by unfold lnu; rw [e6]; exact v2, w, (hN.2.1 (3 * p2 + j2) (by omega)).2.trans v3, v4, v5⟩
          have : j2 = 0 ∨ j2 = 1 ∨ j2 = 2 := by omega
          rcases this with rfl | rfl | rfl
          · exact hg.1
          · exact hg.2.1
          · exact hg.2.2⟩, rfl⟩
    | succ k ih =>
      intro j u1 hj hN hS
      have Q1 := hN.1
      obtain ⟨a1, a2, a3, a4, a5, a6, a7, a8⟩ := hS.2.1 j (by omega)
      refine ab_iload X 0 d_MO_forms_195 rfl ?_
      refine ab_iconst (v := 3) X d_MO_forms_197 (by decide) ?_
      refine ab_icmp_ge X 218 d_MO_forms_198 rfl (fun hb => absurd hb ((nI_ge (b := 3) (by omega) (by omega)))) (fun _ => ?_)
      refine ab_aload_n X 1 d_MO_forms_201 rfl rfl ?_
      refine ab_iload_n X 2 d_MO_forms_202 rfl rfl ?_
      refine ab_iconst (v := 3) X d_MO_forms_203 (by decide) ?_
      refine ab_iload_n X 2 d_MO_forms_204 rfl rfl ?_
      refine ab_imul X d_MO_forms_205 ?_
      refine ab_top (nI_3m _) ?_
      refine ab_iload X 0 d_MO_forms_206 rfl ?_
      refine ab_iadd X d_MO_forms_208 ?_
      refine ab_top (nI_add (3 * p1) j) ?_
      refine ab_callV (as := [ab_I (nI p1), ab_I (nI (3 * p1 + j))]) X (fun h => by cases h) (s_MO_write u1 P kd ar cn lf ch W (T.fr Q1 (by decide) (by decide) (by decide) (by decide) (by decide)) p1 j (wy j) Q1.1 hp (by omega) a6 a7 a1 hS.1 (fun z => ⟨a8 z, hS.2.2 0 (a8 z) (by decide)⟩) (by omega)) lk_MO_236 d_MO_forms_209 rfl rfl (by first | assumption | decide | (show _ < 124; omega) | (show _ < 61; omega) | (show _ < 20; omega)) ⟨by first | exact Nat.le_of_ble_eq_true rfl | (simp only [ab_rm]; omega), by first | exact Nat.le_of_ble_eq_true rfl | (simp only [ab_rm]; omega)⟩ ⟨by first | exact Nat.le_of_ble_eq_true rfl | (simp only [ab_rm]; omega), by first | exact Nat.le_of_ble_eq_true rfl | (simp only [ab_rm]; omega)⟩ (Nat.le_of_ble_eq_true rfl) (fun u209 r209 h209 => ?_)
      obtain ⟨⟨q209, s209, b209, c209⟩, rfl⟩ := h209
      have P209 := Q1.trans q209 (by decide)
      refine ab_iinc2 X 0 1 2 d_MO_forms_212 rfl (by decide) rfl rfl rfl rfl ?_
      refine ab_goto X 195 d_MO_forms_215 rfl ?_
      rw [show nI j + Int32.ofInt 1 = nI (j + 1) from nI_1 j]
      refine ih (j + 1) _ (by omega) ⟨P209, fun x hx => ⟨(q209.ai (by decide) rfl).trans (hN.2.1 x hx).1, (q209.ai (by decide) rfl).trans (hN.2.1 x hx).2⟩, fun q hq => (s209 q (by omega)).trans (hN.2.2 q hq)⟩ ⟨fun c x y => ⟨(hS.1 c x y).1.keep (q209.ai (by decide) rfl) (fun q _ _ => s209 q (by omega)), (hS.1 c x y).2.1.keep (q209.ai (by decide) rfl) (fun q _ _ => s209 q (by omega)), (hS.1 c x y).2.2.keep (q209.ai (by decide) rfl) (fun q _ _ => s209 q (by omega))⟩, fun j2 hj2 => ?_, fun j2 hj2 hj3 => ?_⟩
      · obtain ⟨z1, z2, z3, z4⟩ := hS.2.1 j2 hj2
        exact ⟨q209.ai (by decide) z1, q209.ai (by decide) z2, by rw [wl_fr q209 (by decide)]; exact z3, z4⟩
      · by_cases q : j2 = j
        · subst q
          have e := lnu_of (q209.ai (by decide) a2 : u209.1 18 6 (3 * p1 + j2) = nI (n j2)) (by omega)
          rw [← a3] at b209 c209
          exact ⟨⟨by rw [e]; exact q209.ai (by decide) a2, by rw [e]; exact a4, by rw [e]; omega⟩, by rw [e]; exact b209, by rw [e]; exact c209⟩
        · exact (hS.2.2 j2 (by omega) hj3).keep (q209.ai (by decide) rfl) (fun q' _ _ => s209 q' (by omega))
  have K135 : ∀ (wy n : Nat → Nat), (∀ j, j < 3 → wv (kd p1) j (wy j) ∧ (j = 1 → wy j ≤ 8) ∧ n j ≤ 9 * lf p1 - 4 + (if j = 2 then 1 else 0)) → ∀ (k i : Nat) (u1 : ab_S) (y : Int32), k + i = cn p1 → fN u u1 p1 → wS P kd ar cn lf ch p1 wy n 0 u1 → ab_J p l e (ab_rm 5 0 0) s m args below meth c (MQ below (ab_Q D ca ad ab_nQ s.heap.size (fun u' v => (fN u u' p1 ∧ fV P kd lf p1 u') ∧ v = none)) args s 0 0 (ab_A ad ab_nQ s.heap.size)) D ca (ab_A ad ab_nQ s.heap.size) s.heap 6 0 0 ad ab_nQ u1 135 [(5, ab_I (nI i)), (2, ab_I y), (0, ab_O 17 0), (1, ab_I (nI p1))] [] := by
    intro wy n hwv k
    induction k with
    | zero =>
      intro i u1 y hi hN hS
      have Q1 := hN.1
      refine ab_iload X 0 d_MO_forms_135 rfl ?_
      refine ab_aload_n X 2 d_MO_forms_137 rfl rfl ?_
      refine ab_gR X fl_MO_39 d_MO_forms_138 (by first | assumption | decide | (show _ < 124; omega) | (show _ < 61; omega) | (show _ < 20; omega)) (Q1.1.mo9) ?_
      refine ab_iload_n X 3 d_MO_forms_141 rfl rfl ?_
      refine ab_iald X (p1) ⟨rfl, rfl⟩ d_MO_forms_142 (by first | assumption | decide | (show _ < 124; omega) | (show _ < 61; omega) | (show _ < 20; omega)) (rfl) (show p1 < 40 by omega) (ab_ln_lt _ _) ?_
      refine ab_top (Q1.ai (by decide) ec) ?_
      refine ab_icmp_ge X 192 d_MO_forms_143 rfl (fun _ => ?_) (fun hb => absurd ((nI_le (by omega) (by have := kk5; omega))) hb)
      refine ab_iconst (v := 0) X d_MO_forms_192 (by decide) ?_
      refine ab_istore3 X 1 2 3 d_MO_forms_193 (by decide) rfl rfl rfl rfl rfl rfl ?_
      refine ab_lv (List.forall_mem_cons.mpr ⟨List.mem_of_getElem? (i := 0) rfl, List.forall_mem_cons.mpr ⟨List.mem_of_getElem? (i := 2) rfl, List.forall_mem_cons.mpr ⟨List.mem_of_getElem? (i := 3) rfl, fun _ h => absurd h List.not_mem_nil⟩⟩⟩) ?_
      exact rest wy n hwv 3 0 _ rfl hN hS
    | succ k ih =>
      intro i u1 y hi hN hS
      have Q1 := hN.1
      have k5' : 5 ≤ kd p1 := Nat.le_of_not_lt (fun q => by have := k5 q; omega)
      obtain ⟨n2, n4, -, -, b5, -⟩ := kk5 k5'
      obtain ⟨c1, c2⟩ := b5 i (by omega)
      refine ab_iload X 0 d_MO_forms_135 rfl ?_
      refine ab_aload_n X 2 d_MO_forms_137 rfl rfl ?_
      refine ab_gR X fl_MO_39 d_MO_forms_138 (by first | assumption | decide | (show _ < 124; omega) | (show _ < 61; omega) | (show _ < 20; omega)) (Q1.1.mo9) ?_
      refine ab_iload_n X 3 d_MO_forms_141 rfl rfl ?_
      refine ab_iald X (p1) ⟨rfl, rfl⟩ d_MO_forms_142 (by first | assumption | decide | (show _ < 124; omega) | (show _ < 61; omega) | (show _ < 20; omega)) (rfl) (show p1 < 40 by omega) (ab_ln_lt _ _) ?_
      refine ab_top (Q1.ai (by decide) ec) ?_
      refine ab_icmp_ge X 192 d_MO_forms_143 rfl (fun hb => absurd hb ((nI_ge (by omega) (by omega)))) (fun _ => ?_)
      refine ab_iload_n X 1 d_MO_forms_146 rfl rfl ?_
      refine ab_iconst (v := 5) X d_MO_forms_147 (by decide) ?_
      refine ab_icmp_lt X 157 d_MO_forms_148 rfl (fun h148 => ?_) (fun h148 => ?_)
      ·
        refine ab_aload_n X 2 d_MO_forms_157 rfl rfl ?_
        refine ab_gR X fl_MO_54 d_MO_forms_158 (by first | assumption | decide | (show _ < 124; omega) | (show _ < 61; omega) | (show _ < 20; omega)) (Q1.1.mo14) ?_
        refine ab_iload_n X 3 d_MO_forms_161 rfl rfl ?_
        refine ab_aload_n X 2 d_MO_forms_162 rfl rfl ?_
        refine ab_gR X fl_MO_54 d_MO_forms_163 (by first | assumption | decide | (show _ < 124; omega) | (show _ < 61; omega) | (show _ < 20; omega)) (Q1.1.mo14) ?_
        refine ab_iload_n X 3 d_MO_forms_166 rfl rfl ?_
        refine ab_iald X (p1) ⟨rfl, rfl⟩ d_MO_forms_167 (by first | assumption | decide | (show _ < 124; omega) | (show _ < 61; omega) | (show _ < 20; omega)) (rfl) (show p1 < 24 by omega) (ab_ln_lt _ _) ?_
        refine ab_aload_n X 2 d_MO_forms_168 rfl rfl ?_
        refine ab_gR X fl_MO_54 d_MO_forms_169 (by first | assumption | decide | (show _ < 124; omega) | (show _ < 61; omega) | (show _ < 20; omega)) (Q1.1.mo14) ?_
        refine ab_aload_n X 2 d_MO_forms_172 rfl rfl ?_
        refine ab_gR X fl_MO_42 d_MO_forms_173 (by first | assumption | decide | (show _ < 124; omega) | (show _ < 61; omega) | (show _ < 20; omega)) (Q1.1.mo10) ?_
        refine ab_iconst (v := 4) X d_MO_forms_176 (by decide) ?_
        refine ab_iload_n X 3 d_MO_forms_177 rfl rfl ?_
        refine ab_imul X d_MO_forms_178 ?_
        refine ab_iload X 0 d_MO_forms_179 rfl ?_
        refine ab_iadd X d_MO_forms_181 ?_
        refine ab_iald X (4 * p1 + i) ⟨rfl, rfl⟩ d_MO_forms_182 (by first | assumption | decide | (show _ < 124; omega) | (show _ < 61; omega) | (show _ < 20; omega)) (nI_4a p1 i) (show 4 * p1 + i < 160 by omega) (ab_ln_lt _ _) ?_
        refine ab_top (Q1.ai (by decide) (ech i (by omega))) ?_
        refine ab_iald X (ch p1 i) ⟨rfl, rfl⟩ d_MO_forms_183 (by first | assumption | decide | (show _ < 124; omega) | (show _ < 61; omega) | (show _ < 20; omega)) (rfl) (show ch p1 i < 24 by omega) (ab_ln_lt _ _) ?_
        refine ab_iadd X d_MO_forms_184 ?_
        refine ab_iast X (p1) ⟨rfl, rfl⟩ d_MO_forms_185 (by first | assumption | decide | (show _ < 124; omega) | (show _ < 61; omega) | (show _ < 20; omega)) (rfl) (show p1 < 24 by omega) (ab_ln_lt _ _) ?_
        refine ab_gen (fun u185 e185 => ?_)
        have P185 : gP [16, 17, 18, 19, 105, 106, 107, 108, 109] u u185 := by rw [e185]; exact Q1.ui rfl (by decide)
        refine ab_iinc3 X 0 1 2 3 d_MO_forms_186 rfl (by decide) rfl rfl rfl rfl rfl rfl ?_
        refine ab_goto X 135 d_MO_forms_189 rfl ?_
        rw [show nI i + Int32.ofInt 1 = nI (i + 1) from nI_1 i]
        have z : gP [108] u1 u185 := by rw [e185]; exact (gP.rf Q1.1 : gP [108] u1 u1).ui rfl trivial
        exact ih (i + 1) _ _ (by omega) (hN.fr z (by decide) (by decide) (by decide) (by decide)) (hS.fr z (by decide) (by decide) (by decide))
      ·
        refine ab_iload_n X 1 d_MO_forms_151 rfl rfl ?_
        refine ab_bipush (v := 7) X d_MO_forms_152 (by decide) ?_
        refine ab_icmp_ne X 192 d_MO_forms_154 rfl (fun h154 => ?_) (fun h154 => ?_)
        ·
          refine ab_iconst (v := 0) X d_MO_forms_192 (by decide) ?_
          refine ab_istore3 X 1 2 3 d_MO_forms_193 (by decide) rfl rfl rfl rfl rfl rfl ?_
          refine ab_lv (List.forall_mem_cons.mpr ⟨List.mem_of_getElem? (i := 0) rfl, List.forall_mem_cons.mpr ⟨List.mem_of_getElem? (i := 2) rfl, List.forall_mem_cons.mpr ⟨List.mem_of_getElem? (i := 3) rfl, fun _ h => absurd h List.not_mem_nil⟩⟩⟩) ?_
          exact rest wy n hwv 3 0 _ rfl hN hS
        ·
          refine ab_aload_n X 2 d_MO_forms_157 rfl rfl ?_
          refine ab_gR X fl_MO_54 d_MO_forms_158 (by first | assumption | decide | (show _ < 124; omega) | (show _ < 61; omega) | (show _ < 20; omega)) (Q1.1.mo14) ?_
          refine ab_iload_n X 3 d_MO_forms_161 rfl rfl ?_
          refine ab_aload_n X 2 d_MO_forms_162 rfl rfl ?_
          refine ab_gR X fl_MO_54 d_MO_forms_163 (by first | assumption | decide | (show _ < 124; omega) | (show _ < 61; omega) | (show _ < 20; omega)) (Q1.1.mo14) ?_
          refine ab_iload_n X 3 d_MO_forms_166 rfl rfl ?_
          refine ab_iald X (p1) ⟨rfl, rfl⟩ d_MO_forms_167 (by first | assumption | decide | (show _ < 124; omega) | (show _ < 61; omega) | (show _ < 20; omega)) (rfl) (show p1 < 24 by omega) (ab_ln_lt _ _) ?_
          refine ab_aload_n X 2 d_MO_forms_168 rfl rfl ?_
          refine ab_gR X fl_MO_54 d_MO_forms_169 (by first | assumption | decide | (show _ < 124; omega) | (show _ < 61; omega) | (show _ < 20; omega)) (Q1.1.mo14) ?_
          refine ab_aload_n X 2 d_MO_forms_172 rfl rfl ?_
          refine ab_gR X fl_MO_42 d_MO_forms_173 (by first | assumption | decide | (show _ < 124; omega) | (show _ < 61; omega) | (show _ < 20; omega)) (Q1.1.mo10) ?_
          refine ab_iconst (v := 4) X d_MO_forms_176 (by decide) ?_
          refine ab_iload_n X 3 d_MO_forms_177 rfl rfl ?_
          refine ab_imul X d_MO_forms_178 ?_
          refine ab_iload X 0 d_MO_forms_179 rfl ?_
          refine ab_iadd X d_MO_forms_181 ?_
          refine ab_iald X (4 * p1 + i) ⟨rfl, rfl⟩ d_MO_forms_182 (by first | assumption | decide | (show _ < 124; omega) | (show _ < 61; omega) | (show _ < 20; omega)) (nI_4a p1 i) (show 4 * p1 + i < 160 by omega) (ab_ln_lt _ _) ?_
          refine ab_top (Q1.ai (by decide) (ech i (by omega))) ?_
          refine ab_iald X (ch p1 i) ⟨rfl, rfl⟩ d_MO_forms_183 (by first | assumption | decide | (show _ < 124; omega) | (show _ < 61; omega) | (show _ < 20; omega)) (rfl) (show ch p1 i < 24 by omega) (ab_ln_lt _ _) ?_
          refine ab_iadd X d_MO_forms_184 ?_
          refine ab_iast X (p1) ⟨rfl, rfl⟩ d_MO_forms_185 (by first | assumption | decide | (show _ < 124; omega) | (show _ < 61; omega) | (show _ < 20; omega)) (rfl) (show p1 < 24 by omega) (ab_ln_lt _ _) ?_
          refine ab_gen (fun u185 e185 => ?_)
          have P185 : gP [16, 17, 18, 19, 105, 106, 107, 108, 109] u u185 := by rw [e185]; exact Q1.ui rfl (by decide)
          refine ab_iinc3 X 0 1 2 3 d_MO_forms_186 rfl (by decide) rfl rfl rfl rfl rfl rfl ?_
          refine ab_goto X 135 d_MO_forms_189 rfl ?_
          rw [show nI i + Int32.ofInt 1 = nI (i + 1) from nI_1 i]
          have z : gP [108] u1 u185 := by rw [e185]; exact (gP.rf Q1.1 : gP [108] u1 u1).ui rfl trivial
          exact ih (i + 1) _ _ (by omega) (hN.fr z (by decide) (by decide) (by decide) (by decide)) (hS.fr z (by decide) (by decide) (by decide))
  have K131 : ∀ (wy n : Nat → Nat), (∀ j, j < 3 → wv (kd p1) j (wy j) ∧ (j = 1 → wy j ≤ 8) ∧ n j ≤ 9 * lf p1 - 4 + (if j = 2 then 1 else 0)) → ∀ (u1 : ab_S) (y z : Int32), fN u u1 p1 → wS P kd ar cn lf ch p1 wy n 0 u1 → ab_J p l e (ab_rm 5 0 0) s m args below meth c (MQ below (ab_Q D ca ad ab_nQ s.heap.size (fun u' v => (fN u u' p1 ∧ fV P kd lf p1 u') ∧ v = none)) args s 0 0 (ab_A ad ab_nQ s.heap.size)) D ca (ab_A ad ab_nQ s.heap.size) s.heap 6 0 0 ad ab_nQ u1 131 [(2, ab_I y), (0, ab_O 17 0), (1, ab_I (nI p1))] [ab_I z, ab_I (nI p1), ab_O 18 8] := by
    intro wy n hwv u1 y z hN hS
    have Q1 := hN.1
    refine ab_iast X (p1) ⟨rfl, rfl⟩ d_MO_forms_131 (by first | assumption | decide | (show _ < 124; omega) | (show _ < 61; omega) | (show _ < 20; omega)) (rfl) (show p1 < 24 by omega) (ab_ln_lt _ _) ?_
    refine ab_gen (fun u131 e131 => ?_)
    have P131 : gP [16, 17, 18, 19, 105, 106, 107, 108, 109] u u131 := by rw [e131]; exact Q1.ui rfl (by decide)
    refine ab_iconst (v := 0) X d_MO_forms_132 (by decide) ?_
    refine ab_istore3 X 0 1 2 d_MO_forms_133 (by decide) rfl rfl rfl rfl rfl rfl ?_
    have z : gP [108] u1 u131 := by rw [e131]; exact (gP.rf Q1.1 : gP [108] u1 u1).ui rfl trivial
    exact K135 wy n hwv (cn p1) 0 _ _ (by omega) (hN.fr z (by decide) (by decide) (by decide) (by decide)) (hS.fr z (by decide) (by decide) (by decide))
  have K45 : ∀ (wy n : Nat → Nat), (∀ j, j < 3 → wv (kd p1) j (wy j) ∧ (j = 1 → wy j ≤ 8) ∧ n j ≤ 9 * lf p1 - 4 + (if j = 2 then 1 else 0)) → ∀ (u1 : ab_S), fN u u1 p1 → wS P kd ar cn lf ch p1 wy n 0 u1 → ab_J p l e (ab_rm 5 0 0) s m args below meth c (MQ below (ab_Q D ca ad ab_nQ s.heap.size (fun u' v => (fN u u' p1 ∧ fV P kd lf p1 u') ∧ v = none)) args s 0 0 (ab_A ad ab_nQ s.heap.size)) D ca (ab_A ad ab_nQ s.heap.size) s.heap 6 0 0 ad ab_nQ u1 45 [(0, ab_O 17 0), (1, ab_I (nI p1))] [] := by
    intro wy n hwv u1 hN hS
    have Q1 := hN.1
    obtain ⟨a1, -⟩ := hS.2.1 1 (by decide)
    obtain ⟨v1, v2, -⟩ := hwv 1 (by decide)
    have v2 := v2 rfl
    by_cases q56 : wy 1 = 5 ∨ wy 1 = 6
    · have hk : kd p1 = 5 ∨ kd p1 = 6 := by unfold wv at v1; omega
      obtain ⟨x, y, ex, ey, x1, x2, y1, y2, -⟩ := W.two T hp hk
      refine ab_aload_n X 0 d_MO_forms_45 rfl rfl ?_
      refine ab_gR X fl_MO_45 d_MO_forms_46 (by first | assumption | decide | (show _ < 124; omega) | (show _ < 61; omega) | (show _ < 20; omega)) (Q1.1.mo11) ?_
      refine ab_iload_n X 1 d_MO_forms_49 rfl rfl ?_
      refine ab_callS (as := [ab_I (nI p1)]) X (fun h => by cases h) (t_MO_d u1 p1) ls_MO_195 d_MO_forms_50 rfl rfl ⟨by first | exact Nat.le_of_ble_eq_true rfl | (simp only [ab_rm]; omega), by first | exact Nat.le_of_ble_eq_true rfl | (simp only [ab_rm]; omega)⟩ ⟨by first | exact Nat.le_of_ble_eq_true rfl | (simp only [ab_rm]; omega), by first | exact Nat.le_of_ble_eq_true rfl | (simp only [ab_rm]; omega)⟩ (Nat.le_of_ble_eq_true rfl) (fun u50 r50 h50 => ?_)
      obtain ⟨e50, rfl⟩ := h50
      subst u50
      refine ab_iald X (3 * p1 + 1) ⟨rfl, rfl⟩ d_MO_forms_53 (by first | assumption | decide | (show _ < 124; omega) | (show _ < 61; omega) | (show _ < 20; omega)) (rfl) (show 3 * p1 + 1 < 72 by omega) (ab_ln_lt _ _) ?_
      refine ab_istore_n2 X 0 1 d_MO_forms_54 rfl (by decide) rfl rfl rfl rfl ?_
      refine ab_aload_n X 1 d_MO_forms_55 rfl rfl ?_
      refine ab_gR X fl_MO_42 d_MO_forms_56 (by first | assumption | decide | (show _ < 124; omega) | (show _ < 61; omega) | (show _ < 20; omega)) (Q1.1.mo10) ?_
      refine ab_iconst (v := 4) X d_MO_forms_59 (by decide) ?_
      refine ab_iload_n X 2 d_MO_forms_60 rfl rfl ?_
      refine ab_imul X d_MO_forms_61 ?_
      refine ab_iald X (4 * p1) ⟨rfl, rfl⟩ d_MO_forms_62 (by first | assumption | decide | (show _ < 124; omega) | (show _ < 61; omega) | (show _ < 20; omega)) (nI_4m p1) (show 4 * p1 < 160 by omega) (ab_ln_lt _ _) ?_
      refine ab_top (Q1.ai (by decide) ex) ?_
      refine ab_istore_n3 X 0 1 2 d_MO_forms_63 rfl (by decide) rfl rfl rfl rfl rfl rfl ?_
      refine ab_aload_n X 2 d_MO_forms_64 rfl rfl ?_
      refine ab_gR X fl_MO_42 d_MO_forms_65 (by first | assumption | decide | (show _ < 124; omega) | (show _ < 61; omega) | (show _ < 20; omega)) (Q1.1.mo10) ?_
      refine ab_iconst (v := 4) X d_MO_forms_68 (by decide) ?_
      refine ab_iload_n X 3 d_MO_forms_69 rfl rfl ?_
      refine ab_imul X d_MO_forms_70 ?_
      refine ab_iconst (v := 1) X d_MO_forms_71 (by decide) ?_
      refine ab_iadd X d_MO_forms_72 ?_
      refine ab_iald X (4 * p1 + 1) ⟨rfl, rfl⟩ d_MO_forms_73 (by first | assumption | decide | (show _ < 124; omega) | (show _ < 61; omega) | (show _ < 20; omega)) (nI_4b p1) (show 4 * p1 + 1 < 160 by omega) (ab_ln_lt _ _) ?_
      refine ab_top (Q1.ai (by decide) ey) ?_
      refine ab_istore4 X 0 1 2 3 d_MO_forms_74 (by decide) rfl rfl rfl rfl rfl rfl rfl rfl ?_
      refine ab_aload_n X 3 d_MO_forms_76 rfl rfl ?_
      refine ab_gR X fl_MO_54 d_MO_forms_77 (by first | assumption | decide | (show _ < 124; omega) | (show _ < 61; omega) | (show _ < 20; omega)) (Q1.1.mo14) ?_
      refine ab_iload_n X 4 d_MO_forms_80 rfl rfl ?_
      refine ab_iload_n X 2 d_MO_forms_81 rfl rfl ?_
      refine ab_iconst (v := 1) X d_MO_forms_82 (by decide) ?_
      refine ab_icmp_eq X 92 d_MO_forms_83 rfl (fun h83 => ?_) (fun h83 => ?_)
      ·
        refine ab_iconst (v := 1) X d_MO_forms_92 (by decide) ?_
        refine ab_goto X 131 d_MO_forms_93 rfl ?_
        refine ab_lv (List.forall_mem_cons.mpr ⟨List.mem_of_getElem? (i := 2) rfl, List.forall_mem_cons.mpr ⟨List.mem_of_getElem? (i := 3) rfl, List.forall_mem_cons.mpr ⟨List.mem_of_getElem? (i := 4) rfl, fun _ h => absurd h List.not_mem_nil⟩⟩⟩) ?_
        exact K131 wy n hwv _ _ _ hN hS
      ·
        refine ab_iload_n X 2 d_MO_forms_86 rfl rfl ?_
        refine ab_bipush (v := 8) X d_MO_forms_87 (by decide) ?_
        refine ab_icmp_ne X 96 d_MO_forms_89 rfl (fun h89 => ?_) (fun h89 => ?_)
        ·
          refine ab_iload_n X 2 d_MO_forms_96 rfl rfl ?_
          refine ab_iconst (v := 5) X d_MO_forms_97 (by decide) ?_
          refine ab_icmp_ne X 112 d_MO_forms_98 rfl (fun h98 => ?_) (fun h98 => ?_)
          ·
            refine ab_iload_n X 2 d_MO_forms_112 rfl rfl ?_
            refine ab_bipush (v := 6) X d_MO_forms_113 (by decide) ?_
            refine ab_icmp_ne X 130 d_MO_forms_115 rfl (fun h115 => ?_) (fun h115 => ?_)
            ·
              refine ab_iconst (v := 0) X d_MO_forms_130 (by decide) ?_
              refine ab_lv (List.forall_mem_cons.mpr ⟨List.mem_of_getElem? (i := 2) rfl, List.forall_mem_cons.mpr ⟨List.mem_of_getElem? (i := 3) rfl, List.forall_mem_cons.mpr ⟨List.mem_of_getElem? (i := 4) rfl, fun _ h => absurd h List.not_mem_nil⟩⟩⟩) ?_
              exact K131 wy n hwv _ _ _ hN hS
            ·
              refine ab_iconst (v := 1) X d_MO_forms_118 (by decide) ?_
              refine ab_aload_n X 3 d_MO_forms_119 rfl rfl ?_
              refine ab_gR X fl_MO_54 d_MO_forms_120 (by first | assumption | decide | (show _ < 124; omega) | (show _ < 61; omega) | (show _ < 20; omega)) (Q1.1.mo14) ?_
              refine ab_iload X 0 d_MO_forms_123 rfl ?_
              refine ab_iald X (y) ⟨rfl, rfl⟩ d_MO_forms_125 (by first | assumption | decide | (show _ < 124; omega) | (show _ < 61; omega) | (show _ < 20; omega)) (rfl) (show y < 24 by omega) (ab_ln_lt _ _) ?_
              refine ab_iadd X d_MO_forms_126 ?_
              refine ab_goto X 131 d_MO_forms_127 rfl ?_
              refine ab_lv (List.forall_mem_cons.mpr ⟨List.mem_of_getElem? (i := 2) rfl, List.forall_mem_cons.mpr ⟨List.mem_of_getElem? (i := 3) rfl, List.forall_mem_cons.mpr ⟨List.mem_of_getElem? (i := 4) rfl, fun _ h => absurd h List.not_mem_nil⟩⟩⟩) ?_
              exact K131 wy n hwv _ _ _ hN hS
          ·
            refine ab_iconst (v := 1) X d_MO_forms_101 (by decide) ?_
            refine ab_aload_n X 3 d_MO_forms_102 rfl rfl ?_
            refine ab_gR X fl_MO_54 d_MO_forms_103 (by first | assumption | decide | (show _ < 124; omega) | (show _ < 61; omega) | (show _ < 20; omega)) (Q1.1.mo14) ?_
            refine ab_iload_n X 1 d_MO_forms_106 rfl rfl ?_
            refine ab_iald X (x) ⟨rfl, rfl⟩ d_MO_forms_107 (by first | assumption | decide | (show _ < 124; omega) | (show _ < 61; omega) | (show _ < 20; omega)) (rfl) (show x < 24 by omega) (ab_ln_lt _ _) ?_
            refine ab_iadd X d_MO_forms_108 ?_
            refine ab_goto X 131 d_MO_forms_109 rfl ?_
            refine ab_lv (List.forall_mem_cons.mpr ⟨List.mem_of_getElem? (i := 2) rfl, List.forall_mem_cons.mpr ⟨List.mem_of_getElem? (i := 3) rfl, List.forall_mem_cons.mpr ⟨List.mem_of_getElem? (i := 4) rfl, fun _ h => absurd h List.not_mem_nil⟩⟩⟩) ?_
            exact K131 wy n hwv _ _ _ hN hS
        ·
          refine ab_iconst (v := 1) X d_MO_forms_92 (by decide) ?_
          refine ab_goto X 131 d_MO_forms_93 rfl ?_
          refine ab_lv (List.forall_mem_cons.mpr ⟨List.mem_of_getElem? (i := 2) rfl, List.forall_mem_cons.mpr ⟨List.mem_of_getElem? (i := 3) rfl, List.forall_mem_cons.mpr ⟨List.mem_of_getElem? (i := 4) rfl, fun _ h => absurd h List.not_mem_nil⟩⟩⟩) ?_
          exact K131 wy n hwv _ _ _ hN hS
    ·
      refine ab_aload_n X 0 d_MO_forms_45 rfl rfl ?_
      refine ab_gR X fl_MO_45 d_MO_forms_46 (by first | assumption | decide | (show _ < 124; omega) | (show _ < 61; omega) | (show _ < 20; omega)) (Q1.1.mo11) ?_
      refine ab_iload_n X 1 d_MO_forms_49 rfl rfl ?_
      refine ab_callS (as := [ab_I (nI p1)]) X (fun h => by cases h) (t_MO_d u1 p1) ls_MO_195 d_MO_forms_50 rfl rfl ⟨by first | exact Nat.le_of_ble_eq_true rfl | (simp only [ab_rm]; omega), by first | exact Nat.le_of_ble_eq_true rfl | (simp only [ab_rm]; omega)⟩ ⟨by first | exact Nat.le_of_ble_eq_true rfl | (simp only [ab_rm]; omega), by first | exact Nat.le_of_ble_eq_true rfl | (simp only [ab_rm]; omega)⟩ (Nat.le_of_ble_eq_true rfl) (fun u50 r50 h50 => ?_)
      obtain ⟨e50, rfl⟩ := h50
      subst u50
      refine ab_iald X (3 * p1 + 1) ⟨rfl, rfl⟩ d_MO_forms_53 (by first | assumption | decide | (show _ < 124; omega) | (show _ < 61; omega) | (show _ < 20; omega)) (rfl) (show 3 * p1 + 1 < 72 by omega) (ab_ln_lt _ _) ?_
      refine ab_top a1 ?_
      refine ab_istore_n2 X 0 1 d_MO_forms_54 rfl (by decide) rfl rfl rfl rfl ?_
      refine ab_aload_n X 1 d_MO_forms_55 rfl rfl ?_
      refine ab_gR X fl_MO_42 d_MO_forms_56 (by first | assumption | decide | (show _ < 124; omega) | (show _ < 61; omega) | (show _ < 20; omega)) (Q1.1.mo10) ?_
      refine ab_iconst (v := 4) X d_MO_forms_59 (by decide) ?_
      refine ab_iload_n X 2 d_MO_forms_60 rfl rfl ?_
      refine ab_imul X d_MO_forms_61 ?_
      refine ab_iald X (4 * p1) ⟨rfl, rfl⟩ d_MO_forms_62 (by first | assumption | decide | (show _ < 124; omega) | (show _ < 61; omega) | (show _ < 20; omega)) (nI_4m p1) (show 4 * p1 < 160 by omega) (ab_ln_lt _ _) ?_
      refine ab_istore_n3 X 0 1 2 d_MO_forms_63 rfl (by decide) rfl rfl rfl rfl rfl rfl ?_
      refine ab_aload_n X 2 d_MO_forms_64 rfl rfl ?_
      refine ab_gR X fl_MO_42 d_MO_forms_65 (by first | assumption | decide | (show _ < 124; omega) | (show _ < 61; omega) | (show _ < 20; omega)) (Q1.1.mo10) ?_
      refine ab_iconst (v := 4) X d_MO_forms_68 (by decide) ?_
      refine ab_iload_n X 3 d_MO_forms_69 rfl rfl ?_
      refine ab_imul X d_MO_forms_70 ?_
      refine ab_iconst (v := 1) X d_MO_forms_71 (by decide) ?_
      refine ab_iadd X d_MO_forms_72 ?_
      refine ab_iald X (4 * p1 + 1) ⟨rfl, rfl⟩ d_MO_forms_73 (by first | assumption | decide | (show _ < 124; omega) | (show _ < 61; omega) | (show _ < 20; omega)) (nI_4b p1) (show 4 * p1 + 1 < 160 by omega) (ab_ln_lt _ _) ?_
      refine ab_istore4 X 0 1 2 3 d_MO_forms_74 (by decide) rfl rfl rfl rfl rfl rfl rfl rfl ?_
      refine ab_aload_n X 3 d_MO_forms_76 rfl rfl ?_
      refine ab_gR X fl_MO_54 d_MO_forms_77 (by first | assumption | decide | (show _ < 124; omega) | (show _ < 61; omega) | (show _ < 20; omega)) (Q1.1.mo14) ?_
      refine ab_iload_n X 4 d_MO_forms_80 rfl rfl ?_
      refine ab_iload_n X 2 d_MO_forms_81 rfl rfl ?_
      refine ab_iconst (v := 1) X d_MO_forms_82 (by decide) ?_
      refine ab_icmp_eq X 92 d_MO_forms_83 rfl (fun h83 => ?_) (fun h83 => ?_)
      ·
        refine ab_iconst (v := 1) X d_MO_forms_92 (by decide) ?_
        refine ab_goto X 131 d_MO_forms_93 rfl ?_
        refine ab_lv (List.forall_mem_cons.mpr ⟨List.mem_of_getElem? (i := 2) rfl, List.forall_mem_cons.mpr ⟨List.mem_of_getElem? (i := 3) rfl, List.forall_mem_cons.mpr ⟨List.mem_of_getElem? (i := 4) rfl, fun _ h => absurd h List.not_mem_nil⟩⟩⟩) ?_
        exact K131 wy n hwv _ _ _ hN hS
      ·
        refine ab_iload_n X 2 d_MO_forms_86 rfl rfl ?_
        refine ab_bipush (v := 8) X d_MO_forms_87 (by decide) ?_
        refine ab_icmp_ne X 96 d_MO_forms_89 rfl (fun h89 => ?_) (fun h89 => ?_)
        ·
          refine ab_iload_n X 2 d_MO_forms_96 rfl rfl ?_
          refine ab_iconst (v := 5) X d_MO_forms_97 (by decide) ?_
          refine ab_icmp_ne X 112 d_MO_forms_98 rfl (fun _ => ?_) (fun hb => absurd hb ((fun z => q56 (Or.inl ((nI_eq (b := 5) (by omega) (by omega)).mp z)))))
          refine ab_iload_n X 2 d_MO_forms_112 rfl rfl ?_
          refine ab_bipush (v := 6) X d_MO_forms_113 (by decide) ?_
          refine ab_icmp_ne X 130 d_MO_forms_115 rfl (fun _ => ?_) (fun hb => absurd hb ((fun z => q56 (Or.inr ((nI_eq (b := 6) (by omega) (by omega)).mp z)))))
          refine ab_iconst (v := 0) X d_MO_forms_130 (by decide) ?_
          refine ab_lv (List.forall_mem_cons.mpr ⟨List.mem_of_getElem? (i := 2) rfl, List.forall_mem_cons.mpr ⟨List.mem_of_getElem? (i := 3) rfl, List.forall_mem_cons.mpr ⟨List.mem_of_getElem? (i := 4) rfl, fun _ h => absurd h List.not_mem_nil⟩⟩⟩) ?_
          exact K131 wy n hwv _ _ _ hN hS
        ·
          refine ab_iconst (v := 1) X d_MO_forms_92 (by decide) ?_
          refine ab_goto X 131 d_MO_forms_93 rfl ?_
          refine ab_lv (List.forall_mem_cons.mpr ⟨List.mem_of_getElem? (i := 2) rfl, List.forall_mem_cons.mpr ⟨List.mem_of_getElem? (i := 3) rfl, List.forall_mem_cons.mpr ⟨List.mem_of_getElem? (i := 4) rfl, fun _ h => absurd h List.not_mem_nil⟩⟩⟩) ?_
          exact K131 wy n hwv _ _ _ hN hS
  have lk1 : ∀ {v v1 : ab_S} {f : Nat}, cF v v1 f → ∀ g, g ≠ f → lk v g → lk v1 g := fun hF g hg z => by unfold lk lnu; rw [(hF.2 g hg).1]; exact z
  have ln1 : ∀ {v v1 : ab_S} {f : Nat}, cF v v1 f → ∀ g, g ≠ f → lnu v1 g = lnu v g := fun hF g hg => by unfold lnu; rw [(hF.2 g hg).1]
  have wlc : ∀ (v v1 : ab_S) (w : Nat), ways w → app (kd p1) (ar p1) (cn p1) w → (w = 8 ∨ w = 24 → lnu v1 (3 * p1) = lnu v (3 * p1)) → (∀ g, 3 * p1 + 3 ≤ g → lnu v1 g = lnu v g) → wl v1 p1 (cn p1) (ch p1) w = wl v p1 (cn p1) (ch p1) w := fun v v1 w hw ha h8 hg => by
    refine wl_congr hw h8 (fun z => ?_) (fun i hi => ?_)
    · have hk : 5 ≤ kd p1 := by unfold app at ha; omega
      exact (kk5 hk).1
    · have hk : 5 ≤ kd p1 := Nat.le_of_not_lt (fun q => by have := k5 q; omega)
      have b5 := (kk5 hk).2.2.2.2.1 i hi
      exact ⟨hg _ (by omega), hg _ (by omega), hg _ (by omega)⟩
  refine ab_aload_n X 0 d_MO_forms_0 rfl rfl ?_
  refine ab_iload_n X 1 d_MO_forms_1 rfl rfl ?_
  refine ab_iload_n X 1 d_MO_forms_2 rfl rfl ?_
  refine ab_callS (as := [ab_I (nI p1)]) X (fun h => by cases h) (t_MO_b u p1) ls_MO_204 d_MO_forms_3 rfl rfl ⟨by first | exact Nat.le_of_ble_eq_true rfl | (simp only [ab_rm]; omega), by first | exact Nat.le_of_ble_eq_true rfl | (simp only [ab_rm]; omega)⟩ ⟨by first | exact Nat.le_of_ble_eq_true rfl | (simp only [ab_rm]; omega), by first | exact Nat.le_of_ble_eq_true rfl | (simp only [ab_rm]; omega)⟩ (Nat.le_of_ble_eq_true rfl) (fun u3 r3 h3 => ?_)
  obtain ⟨e3, rfl⟩ := h3
  subst u3
  refine ab_bipush (v := 11) X d_MO_forms_6 (by decide) ?_
  refine ab_bipush (v := 18) X d_MO_forms_8 (by decide) ?_
  refine ab_iconst (v := 1) X d_MO_forms_10 (by decide) ?_
  refine ab_bipush (v := 7) X d_MO_forms_11 (by decide) ?_
  refine ab_callV (as := [ab_I (nI p1), ab_I (nI (3 * p1 + 0)), ab_I (nI 11), ab_I (nI 18), ab_I (nI 1), ab_I (nI 7)]) X (fun h => by cases h) (s_MO_choose u P kd ar cn lf ch W T p1 0 11 18 1 7 h hp (by decide) hl0 (fun w hw => ⟨ways_in w (by omega) (by omega), fun z => by omega⟩) (by decide) (by decide)) lk_MO_232 d_MO_forms_13 rfl rfl (by first | assumption | decide | (show _ < 124; omega) | (show _ < 61; omega) | (show _ < 20; omega)) ⟨by first | exact Nat.le_of_ble_eq_true rfl | (simp only [ab_rm]; omega), by first | exact Nat.le_of_ble_eq_true rfl | (simp only [ab_rm]; omega)⟩ ⟨by first | exact Nat.le_of_ble_eq_true rfl | (simp only [ab_rm]; omega), by first | exact Nat.le_of_ble_eq_true rfl | (simp only [ab_rm]; omega)⟩ (Nat.le_of_ble_eq_true rfl) (fun u13 r13 h13 => ?_)
  obtain ⟨⟨F13, I13⟩, rfl⟩ := h13
  have q13 := F13.1
  have P13 := P0.trans q13 (by decide)
  obtain ⟨wB, B1, B2, -, B4, B5, B6, B7, B8, B9⟩ := chI.found W hp (by decide) (Or.inl ⟨rfl, rfl, rfl, rfl, rfl⟩) hG0 (fun z => absurd z (by decide)) I13
  have B8 : wl u p1 (cn p1) (ch p1) wB ≤ 9 * lf p1 - 4 := by simpa using B8
  have rB := wl_range W hp hl0 (fun z => absurd (B5 z) (by decide)) B1 B4
  have nB : lnu u13 (3 * p1) = wl u p1 (cn p1) (ch p1) wB := lnu_of B6 (by omega)
  have kB : lk u13 (3 * p1) := ⟨by rw [nB]; exact B6, by rw [nB]; exact rB.1, by rw [nB]; omega⟩
  have l13 : ∀ g, 3 * p1 + 3 ≤ g → lnu u13 g = lnu u g := fun g hg => ln1 F13 g (by omega)
  have hl13 : ∀ c, p1 < c → c < P → lk u13 (3 * c) ∧ lk u13 (3 * c + 1) ∧ lk u13 (3 * c + 2) := fun c x y => ⟨lk1 F13 _ (by omega) (hl0 c x y).1, lk1 F13 _ (by omega) (hl0 c x y).2.1, lk1 F13 _ (by omega) (hl0 c x y).2.2⟩
  have hG13 : ∀ c, p1 < c → c < P → lnu u13 (3 * c + 1) ≤ 9 * lf c - 4 := fun c x y => by rw [l13 _ (by omega)]; exact hG0 c x y
  have hB13 : lnu u13 (3 * p1) ≤ 9 * lf p1 - 4 ∧ (kd p1 < 5 → lnu u13 (3 * p1) ≤ 1) := ⟨by rw [nB]; exact B8, fun q => by rw [nB, B9 rfl q]; exact Nat.le_refl _⟩
  have T13 := T.fr F13.1 (by decide) (by decide) (by decide) (by decide) (by decide)
  refine ab_aload_n X 0 d_MO_forms_16 rfl rfl ?_
  refine ab_iload_n X 1 d_MO_forms_17 rfl rfl ?_
  refine ab_iload_n X 1 d_MO_forms_18 rfl rfl ?_
  refine ab_callS (as := [ab_I (nI p1)]) X (fun h => by cases h) (t_MO_d u13 p1) ls_MO_195 d_MO_forms_19 rfl rfl ⟨by first | exact Nat.le_of_ble_eq_true rfl | (simp only [ab_rm]; omega), by first | exact Nat.le_of_ble_eq_true rfl | (simp only [ab_rm]; omega)⟩ ⟨by first | exact Nat.le_of_ble_eq_true rfl | (simp only [ab_rm]; omega), by first | exact Nat.le_of_ble_eq_true rfl | (simp only [ab_rm]; omega)⟩ (Nat.le_of_ble_eq_true rfl) (fun u19 r19 h19 => ?_)
  obtain ⟨e19, rfl⟩ := h19
  subst u19
  refine ab_iconst (v := 1) X d_MO_forms_22 (by decide) ?_
  refine ab_bipush (v := 8) X d_MO_forms_23 (by decide) ?_
  refine ab_iconst (v := 1) X d_MO_forms_25 (by decide) ?_
  refine ab_iconst (v := 0) X d_MO_forms_26 (by decide) ?_
  refine ab_callV (as := [ab_I (nI p1), ab_I (nI (3 * p1 + 1)), ab_I (nI 1), ab_I (nI 8), ab_I (nI 1), ab_I (nI 0)]) X (fun h => by cases h) (s_MO_choose u13 P kd ar cn lf ch W T13 p1 1 1 8 1 0 F13.1.1 hp (by decide) hl13 (fun w hw => ⟨ways_in w (by omega) (by omega), fun _ => ⟨by decide, kB⟩⟩) (by decide) (by decide)) lk_MO_232 d_MO_forms_27 rfl rfl (by first | assumption | decide | (show _ < 124; omega) | (show _ < 61; omega) | (show _ < 20; omega)) ⟨by first | exact Nat.le_of_ble_eq_true rfl | (simp only [ab_rm]; omega), by first | exact Nat.le_of_ble_eq_true rfl | (simp only [ab_rm]; omega)⟩ ⟨by first | exact Nat.le_of_ble_eq_true rfl | (simp only [ab_rm]; omega), by first | exact Nat.le_of_ble_eq_true rfl | (simp only [ab_rm]; omega)⟩ (Nat.le_of_ble_eq_true rfl) (fun u27 r27 h27 => ?_)
  obtain ⟨⟨F27, I27⟩, rfl⟩ := h27
  have q27 := F27.1
  have P27 := P13.trans q27 (by decide)
  obtain ⟨wD, D1, D2, D3, D4, D5, D6, D7, D8, -⟩ := chI.found W hp (by decide) (Or.inr (Or.inl ⟨rfl, rfl, rfl, rfl, rfl⟩)) hG13 (fun _ => hB13) I27
  have D8 : wl u13 p1 (cn p1) (ch p1) wD ≤ 9 * lf p1 - 4 := by simpa using D8
  have rD := wl_range W hp hl13 (fun _ => kB) D1 D4
  have kB27 : lk u27 (3 * p1) := lk1 F27 _ (by omega) kB
  have b27 : lnu u27 (3 * p1) = lnu u13 (3 * p1) := ln1 F27 _ (by omega)
  have l27 : ∀ g, 3 * p1 + 3 ≤ g → lnu u27 g = lnu u13 g := fun g hg => ln1 F27 g (by omega)
  have hl27 : ∀ c, p1 < c → c < P → lk u27 (3 * c) ∧ lk u27 (3 * c + 1) ∧ lk u27 (3 * c + 2) := fun c x y => ⟨lk1 F27 _ (by omega) (hl13 c x y).1, lk1 F27 _ (by omega) (hl13 c x y).2.1, lk1 F27 _ (by omega) (hl13 c x y).2.2⟩
  have hG27 : ∀ c, p1 < c → c < P → lnu u27 (3 * c + 1) ≤ 9 * lf c - 4 := fun c x y => by rw [l27 _ (by omega)]; exact hG13 c x y
  have T27 := T13.fr F27.1 (by decide) (by decide) (by decide) (by decide) (by decide)
  refine ab_aload_n X 0 d_MO_forms_30 rfl rfl ?_
  refine ab_iload_n X 1 d_MO_forms_31 rfl rfl ?_
  refine ab_iload_n X 1 d_MO_forms_32 rfl rfl ?_
  refine ab_callS (as := [ab_I (nI p1)]) X (fun h => by cases h) (t_MO_v u27 p1) ls_MO_201 d_MO_forms_33 rfl rfl ⟨by first | exact Nat.le_of_ble_eq_true rfl | (simp only [ab_rm]; omega), by first | exact Nat.le_of_ble_eq_true rfl | (simp only [ab_rm]; omega)⟩ ⟨by first | exact Nat.le_of_ble_eq_true rfl | (simp only [ab_rm]; omega), by first | exact Nat.le_of_ble_eq_true rfl | (simp only [ab_rm]; omega)⟩ (Nat.le_of_ble_eq_true rfl) (fun u33 r33 h33 => ?_)
  obtain ⟨e33, rfl⟩ := h33
  subst u33
  refine ab_bipush (v := 21) X d_MO_forms_36 (by decide) ?_
  refine ab_bipush (v := 24) X d_MO_forms_38 (by decide) ?_
  refine ab_iconst (v := 1) X d_MO_forms_40 (by decide) ?_
  refine ab_iconst (v := 0) X d_MO_forms_41 (by decide) ?_
  refine ab_callV (as := [ab_I (nI p1), ab_I (nI (3 * p1 + 2)), ab_I (nI 21), ab_I (nI 24), ab_I (nI 1), ab_I (nI 0)]) X (fun h => by cases h) (s_MO_choose u27 P kd ar cn lf ch W T27 p1 2 21 24 1 0 F27.1.1 hp (by decide) hl27 (fun w hw => ⟨ways_in w (by omega) (by omega), fun _ => ⟨by decide, kB27⟩⟩) (by decide) (by decide)) lk_MO_232 d_MO_forms_42 rfl rfl (by first | assumption | decide | (show _ < 124; omega) | (show _ < 61; omega) | (show _ < 20; omega)) ⟨by first | exact Nat.le_of_ble_eq_true rfl | (simp only [ab_rm]; omega), by first | exact Nat.le_of_ble_eq_true rfl | (simp only [ab_rm]; omega)⟩ ⟨by first | exact Nat.le_of_ble_eq_true rfl | (simp only [ab_rm]; omega), by first | exact Nat.le_of_ble_eq_true rfl | (simp only [ab_rm]; omega)⟩ (Nat.le_of_ble_eq_true rfl) (fun u42 r42 h42 => ?_)
  obtain ⟨⟨F42, I42⟩, rfl⟩ := h42
  have q42 := F42.1
  have P42 := P27.trans q42 (by decide)
  obtain ⟨wV, V1, V2, -, V4, V5, V6, V7, V8, -⟩ := chI.found W hp (by decide) (Or.inr (Or.inr ⟨rfl, rfl, rfl, rfl, rfl⟩)) hG27 (fun _ => by rw [b27]; exact hB13) I42
  have V8 : wl u27 p1 (cn p1) (ch p1) wV ≤ 9 * lf p1 - 4 + 1 := by simpa using V8
  have rV := wl_range W hp hl27 (fun _ => kB27) V1 V4
  have b42 : lnu u42 (3 * p1) = lnu u27 (3 * p1) := ln1 F42 _ (by omega)
  have l42 : ∀ g, 3 * p1 + 3 ≤ g → lnu u42 g = lnu u27 g := fun g hg => ln1 F42 g (by omega)
  have s42 : ∀ q, u42.1 18 9 q = u.1 18 9 q := fun q => (F42.1.ai (by decide) rfl).trans ((F27.1.ai (by decide) rfl).trans (F13.1.ai (by decide) rfl))
  have n42 : ∀ g, (g < 3 * p1 ∨ 3 * p1 + 3 ≤ g) → u42.1 18 6 g = u.1 18 6 g ∧ u42.1 18 5 g = u.1 18 5 g := fun g hg => ⟨((F42.2 g (by omega)).1.trans (F27.2 g (by omega)).1).trans (F13.2 g (by omega)).1, ((F42.2 g (by omega)).2.trans (F27.2 g (by omega)).2).trans (F13.2 g (by omega)).2⟩
  have e1 : wl u42 p1 (cn p1) (ch p1) wB = wl u p1 (cn p1) (ch p1) wB := wlc _ _ _ B1 B4 (fun z => absurd (B5 z) (by decide)) (fun g hg => (l42 g hg).trans ((l27 g hg).trans (l13 g hg)))
  have e2 : wl u42 p1 (cn p1) (ch p1) wD = wl u13 p1 (cn p1) (ch p1) wD := wlc _ _ _ D1 D4 (fun _ => b42.trans b27) (fun g hg => (l42 g hg).trans (l27 g hg))
  have e3 : wl u42 p1 (cn p1) (ch p1) wV = wl u27 p1 (cn p1) (ch p1) wV := wlc _ _ _ V1 V4 (fun _ => b42) l42
  refine K45 (fun j => if j = 0 then wB else if j = 1 then wD else wV) (fun j => if j = 0 then wl u p1 (cn p1) (ch p1) wB else if j = 1 then wl u13 p1 (cn p1) (ch p1) wD else wl u27 p1 (cn p1) (ch p1) wV) (fun j hj => ?_) _ ⟨P42, n42, fun q _ => s42 q⟩ ⟨fun c x y => ⟨(V c x y 0 (by decide)).1.keep (n42 _ (by omega)).1 (fun q _ _ => s42 q), (V c x y 1 (by decide)).1.keep (n42 _ (by omega)).1 (fun q _ _ => s42 q), (V c x y 2 (by decide)).1.keep (n42 _ (by omega)).1 (fun q _ _ => s42 q)⟩, fun j hj => ?_, fun j hj => absurd hj (by omega)⟩
  · have : j = 0 ∨ j = 1 ∨ j = 2 := by omega
    rcases this with rfl | rfl | rfl
    · exact ⟨B2, fun z => absurd z (by decide), B8⟩
    · exact ⟨D2, D3, D8⟩
    · exact ⟨V2, fun z => absurd z (by decide), V8⟩
  · have : j = 0 ∨ j = 1 ∨ j = 2 := by omega
    rcases this with rfl | rfl | rfl
    · exact ⟨((F42.2 _ (by omega)).2.trans (F27.2 _ (by omega)).2).trans B7, ((F42.2 _ (by omega)).1.trans (F27.2 _ (by omega)).1).trans B6, e1.symm, rB.1, by show wl u p1 (cn p1) (ch p1) wB ≤ 87; omega, B1, B4, B5⟩
    · exact ⟨(F42.2 _ (by omega)).2.trans D7, (F42.2 _ (by omega)).1.trans D6, e2.symm, rD.1, by show wl u13 p1 (cn p1) (ch p1) wD ≤ 87; omega, D1, D4, D5⟩
    · exact ⟨V7, V6, e3.symm, rV.1, by show wl u27 p1 (cn p1) (ch p1) wV ≤ 87; omega, V1, V4, V5⟩
end SaMForms

