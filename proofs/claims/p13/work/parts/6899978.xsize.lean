/-! What size and word tell, on both sides. -/
def szC (u : ab_S) (j : Nat) : Int32 := if j = 0 then u.1 1 0 6 else if j < 4 then u.1 3 (3 + (j - 1)) 8 else if j < 7 then u.1 3 (3 + (j - 4)) 9 else u.1 1 0 7
def szM (u : ab_S) (j : Nat) : Int32 := if j = 0 then u.1 17 0 6 else if j < 4 then u.1 18 6 (j - 1) else if j < 7 then u.1 18 7 (j - 4) else u.1 17 0 5
section SaXSize
variable {l : Launch} {D : va_G} {ca : Nat → ClassId}
set_option maxRecDepth 100000 in
set_option maxHeartbeats 1000000 in
theorem x_PF_size (hfl : ab_fl0 l) (u : ab_S) (a1 : Int32) (hp : u.2.1 0 0 7 = none ∨ u.2.1 0 0 7 = some (2, 1)) (h : CI u) : ab_CT l D ca y_PF_size b_PF_size 2 (some FieldType.int) 8 ab_nQ u [ab_O 0 0, ab_I a1] (fun u' v => u' = u ∧ u.2.1 0 0 7 = some (2, 1) ∧ ∃ j, j ≤ 7 ∧ a1 = nI j ∧ v = some (ab_I (szC u j))) (fun u' E => (u' = u ∧ ((E = ab_NSE ∧ u.2.1 0 0 7 = none) ∨ (E = ab_IAE ∧ u.2.1 0 0 7 = some (2, 1) ∧ (a1 < 0 ∨ 7 < a1)))) ∧ (E = ab_NSE ∨ E = ab_IAE)) := by
  refine ab_CT.of (by decide) (Nat.le_of_ble_eq_true rfl) ?_
  intro p e s m args below meth c ad X hZ hW0 hnh hr0 hlk
  have P0 : cP [] u u := cQ.rf h
  rcases hp with hn | hs
  ·
    refine ab_aload_n X 0 d_PF_size_0 rfl rfl ?_
    refine ab_gR X fl_PF_58 d_PF_size_1 (by first | assumption | decide | (show _ < 124; omega) | (show _ < 61; omega) | (show _ < 20; omega)) (hn) ?_
    refine ab_ifnonnull X 15 d_PF_size_4 rfl (fun hb => absurd (rfl) hb) (fun _ => ?_)
    exact ab_throw (cells := 0) (slots := 0) X hfl hZ hW0 hnh hlk ow_PF_107 d_PF_size_7 d_PF_size_10 d_PF_size_11 d_PF_size_14 ⟨Nat.le_of_ble_eq_true rfl, Nat.le_of_ble_eq_true rfl⟩ ⟨Nat.le_of_ble_eq_true rfl, Nat.le_of_ble_eq_true rfl⟩ ⟨⟨rfl, Or.inl ⟨rfl, hn⟩⟩, Or.inl rfl⟩
  ·
    refine ab_aload_n X 0 d_PF_size_0 rfl rfl ?_
    refine ab_gR X fl_PF_58 d_PF_size_1 (by first | assumption | decide | (show _ < 124; omega) | (show _ < 61; omega) | (show _ < 20; omega)) (hs) ?_
    refine ab_ifnonnull X 15 d_PF_size_4 rfl (fun _ => ?_) (fun hb => absurd hb ((by intro z; cases z)))
    refine ab_iload_n X 1 d_PF_size_15 rfl rfl ?_
    refine ab_tsw X [(0, 64), (1, 72), (2, 83), (3, 94), (4, 105), (5, 116), (6, 127), (7, 138)] 146 d_PF_size_16 (by decide +kernel) rfl (List.forall_mem_cons.mpr ⟨fun h16_0 => ?_, List.forall_mem_cons.mpr ⟨fun h16_1 => ?_, List.forall_mem_cons.mpr ⟨fun h16_2 => ?_, List.forall_mem_cons.mpr ⟨fun h16_3 => ?_, List.forall_mem_cons.mpr ⟨fun h16_4 => ?_, List.forall_mem_cons.mpr ⟨fun h16_5 => ?_, List.forall_mem_cons.mpr ⟨fun h16_6 => ?_, List.forall_mem_cons.mpr ⟨fun h16_7 => ?_, fun _ h => absurd h List.not_mem_nil⟩⟩⟩⟩⟩⟩⟩⟩) (fun h16 => ?_)
    ·
      refine ab_aload_n X 0 d_PF_size_64 rfl rfl ?_
      refine ab_gR X fl_PF_12 d_PF_size_65 (by first | assumption | decide | (show _ < 124; omega) | (show _ < 61; omega) | (show _ < 20; omega)) (P0.1.pf0) ?_
      refine ab_gI X fl_PF_129 d_PF_size_68 (by first | assumption | decide | (show _ < 124; omega) | (show _ < 61; omega) | (show _ < 20; omega)) (rfl) ?_
      first | exact ab_retTi X hr0 hlk d_PF_size_71 ⟨rfl, hs, 0, by decide, h16_0, rfl⟩ | exact ab_retTi X hr0 hlk d_PF_size_71 ⟨rfl, hs, 1, by decide, h16_1, rfl⟩ | exact ab_retTi X hr0 hlk d_PF_size_71 ⟨rfl, hs, 2, by decide, h16_2, rfl⟩ | exact ab_retTi X hr0 hlk d_PF_size_71 ⟨rfl, hs, 3, by decide, h16_3, rfl⟩ | exact ab_retTi X hr0 hlk d_PF_size_71 ⟨rfl, hs, 4, by decide, h16_4, rfl⟩ | exact ab_retTi X hr0 hlk d_PF_size_71 ⟨rfl, hs, 5, by decide, h16_5, rfl⟩ | exact ab_retTi X hr0 hlk d_PF_size_71 ⟨rfl, hs, 6, by decide, h16_6, rfl⟩ | exact ab_retTi X hr0 hlk d_PF_size_71 ⟨rfl, hs, 7, by decide, h16_7, rfl⟩
    ·
      refine ab_aload_n X 0 d_PF_size_72 rfl rfl ?_
      refine ab_gR X fl_PF_58 d_PF_size_73 (by first | assumption | decide | (show _ < 124; omega) | (show _ < 61; omega) | (show _ < 20; omega)) (hs) ?_
      refine ab_gR X fl_PF_94 d_PF_size_76 (by first | assumption | decide | (show _ < 124; omega) | (show _ < 61; omega) | (show _ < 20; omega)) (P0.1.pt1 (by first | assumption | decide | omega)) ?_
      refine ab_gI X fl_PF_132 d_PF_size_79 (by first | assumption | decide | (show _ < 124; omega) | (show _ < 61; omega) | (show _ < 20; omega)) (rfl) ?_
      first | exact ab_retTi X hr0 hlk d_PF_size_82 ⟨rfl, hs, 0, by decide, h16_0, rfl⟩ | exact ab_retTi X hr0 hlk d_PF_size_82 ⟨rfl, hs, 1, by decide, h16_1, rfl⟩ | exact ab_retTi X hr0 hlk d_PF_size_82 ⟨rfl, hs, 2, by decide, h16_2, rfl⟩ | exact ab_retTi X hr0 hlk d_PF_size_82 ⟨rfl, hs, 3, by decide, h16_3, rfl⟩ | exact ab_retTi X hr0 hlk d_PF_size_82 ⟨rfl, hs, 4, by decide, h16_4, rfl⟩ | exact ab_retTi X hr0 hlk d_PF_size_82 ⟨rfl, hs, 5, by decide, h16_5, rfl⟩ | exact ab_retTi X hr0 hlk d_PF_size_82 ⟨rfl, hs, 6, by decide, h16_6, rfl⟩ | exact ab_retTi X hr0 hlk d_PF_size_82 ⟨rfl, hs, 7, by decide, h16_7, rfl⟩
    ·
      refine ab_aload_n X 0 d_PF_size_83 rfl rfl ?_
      refine ab_gR X fl_PF_58 d_PF_size_84 (by first | assumption | decide | (show _ < 124; omega) | (show _ < 61; omega) | (show _ < 20; omega)) (hs) ?_
      refine ab_gR X fl_PF_134 d_PF_size_87 (by first | assumption | decide | (show _ < 124; omega) | (show _ < 61; omega) | (show _ < 20; omega)) (P0.1.pt2 (by first | assumption | decide | omega)) ?_
      refine ab_gI X fl_PF_132 d_PF_size_90 (by first | assumption | decide | (show _ < 124; omega) | (show _ < 61; omega) | (show _ < 20; omega)) (rfl) ?_
      first | exact ab_retTi X hr0 hlk d_PF_size_93 ⟨rfl, hs, 0, by decide, h16_0, rfl⟩ | exact ab_retTi X hr0 hlk d_PF_size_93 ⟨rfl, hs, 1, by decide, h16_1, rfl⟩ | exact ab_retTi X hr0 hlk d_PF_size_93 ⟨rfl, hs, 2, by decide, h16_2, rfl⟩ | exact ab_retTi X hr0 hlk d_PF_size_93 ⟨rfl, hs, 3, by decide, h16_3, rfl⟩ | exact ab_retTi X hr0 hlk d_PF_size_93 ⟨rfl, hs, 4, by decide, h16_4, rfl⟩ | exact ab_retTi X hr0 hlk d_PF_size_93 ⟨rfl, hs, 5, by decide, h16_5, rfl⟩ | exact ab_retTi X hr0 hlk d_PF_size_93 ⟨rfl, hs, 6, by decide, h16_6, rfl⟩ | exact ab_retTi X hr0 hlk d_PF_size_93 ⟨rfl, hs, 7, by decide, h16_7, rfl⟩
    ·
      refine ab_aload_n X 0 d_PF_size_94 rfl rfl ?_
      refine ab_gR X fl_PF_58 d_PF_size_95 (by first | assumption | decide | (show _ < 124; omega) | (show _ < 61; omega) | (show _ < 20; omega)) (hs) ?_
      refine ab_gR X fl_PF_137 d_PF_size_98 (by first | assumption | decide | (show _ < 124; omega) | (show _ < 61; omega) | (show _ < 20; omega)) (P0.1.pt3 (by first | assumption | decide | omega)) ?_
      refine ab_gI X fl_PF_132 d_PF_size_101 (by first | assumption | decide | (show _ < 124; omega) | (show _ < 61; omega) | (show _ < 20; omega)) (rfl) ?_
      first | exact ab_retTi X hr0 hlk d_PF_size_104 ⟨rfl, hs, 0, by decide, h16_0, rfl⟩ | exact ab_retTi X hr0 hlk d_PF_size_104 ⟨rfl, hs, 1, by decide, h16_1, rfl⟩ | exact ab_retTi X hr0 hlk d_PF_size_104 ⟨rfl, hs, 2, by decide, h16_2, rfl⟩ | exact ab_retTi X hr0 hlk d_PF_size_104 ⟨rfl, hs, 3, by decide, h16_3, rfl⟩ | exact ab_retTi X hr0 hlk d_PF_size_104 ⟨rfl, hs, 4, by decide, h16_4, rfl⟩ | exact ab_retTi X hr0 hlk d_PF_size_104 ⟨rfl, hs, 5, by decide, h16_5, rfl⟩ | exact ab_retTi X hr0 hlk d_PF_size_104 ⟨rfl, hs, 6, by decide, h16_6, rfl⟩ | exact ab_retTi X hr0 hlk d_PF_size_104 ⟨rfl, hs, 7, by decide, h16_7, rfl⟩
    ·
      refine ab_aload_n X 0 d_PF_size_105 rfl rfl ?_
      refine ab_gR X fl_PF_58 d_PF_size_106 (by first | assumption | decide | (show _ < 124; omega) | (show _ < 61; omega) | (show _ < 20; omega)) (hs) ?_
      refine ab_gR X fl_PF_94 d_PF_size_109 (by first | assumption | decide | (show _ < 124; omega) | (show _ < 61; omega) | (show _ < 20; omega)) (P0.1.pt1 (by first | assumption | decide | omega)) ?_
      refine ab_gI X fl_PF_140 d_PF_size_112 (by first | assumption | decide | (show _ < 124; omega) | (show _ < 61; omega) | (show _ < 20; omega)) (rfl) ?_
      first | exact ab_retTi X hr0 hlk d_PF_size_115 ⟨rfl, hs, 0, by decide, h16_0, rfl⟩ | exact ab_retTi X hr0 hlk d_PF_size_115 ⟨rfl, hs, 1, by decide, h16_1, rfl⟩ | exact ab_retTi X hr0 hlk d_PF_size_115 ⟨rfl, hs, 2, by decide, h16_2, rfl⟩ | exact ab_retTi X hr0 hlk d_PF_size_115 ⟨rfl, hs, 3, by decide, h16_3, rfl⟩ | exact ab_retTi X hr0 hlk d_PF_size_115 ⟨rfl, hs, 4, by decide, h16_4, rfl⟩ | exact ab_retTi X hr0 hlk d_PF_size_115 ⟨rfl, hs, 5, by decide, h16_5, rfl⟩ | exact ab_retTi X hr0 hlk d_PF_size_115 ⟨rfl, hs, 6, by decide, h16_6, rfl⟩ | exact ab_retTi X hr0 hlk d_PF_size_115 ⟨rfl, hs, 7, by decide, h16_7, rfl⟩
    ·
      refine ab_aload_n X 0 d_PF_size_116 rfl rfl ?_
      refine ab_gR X fl_PF_58 d_PF_size_117 (by first | assumption | decide | (show _ < 124; omega) | (show _ < 61; omega) | (show _ < 20; omega)) (hs) ?_
      refine ab_gR X fl_PF_134 d_PF_size_120 (by first | assumption | decide | (show _ < 124; omega) | (show _ < 61; omega) | (show _ < 20; omega)) (P0.1.pt2 (by first | assumption | decide | omega)) ?_
      refine ab_gI X fl_PF_140 d_PF_size_123 (by first | assumption | decide | (show _ < 124; omega) | (show _ < 61; omega) | (show _ < 20; omega)) (rfl) ?_
      first | exact ab_retTi X hr0 hlk d_PF_size_126 ⟨rfl, hs, 0, by decide, h16_0, rfl⟩ | exact ab_retTi X hr0 hlk d_PF_size_126 ⟨rfl, hs, 1, by decide, h16_1, rfl⟩ | exact ab_retTi X hr0 hlk d_PF_size_126 ⟨rfl, hs, 2, by decide, h16_2, rfl⟩ | exact ab_retTi X hr0 hlk d_PF_size_126 ⟨rfl, hs, 3, by decide, h16_3, rfl⟩ | exact ab_retTi X hr0 hlk d_PF_size_126 ⟨rfl, hs, 4, by decide, h16_4, rfl⟩ | exact ab_retTi X hr0 hlk d_PF_size_126 ⟨rfl, hs, 5, by decide, h16_5, rfl⟩ | exact ab_retTi X hr0 hlk d_PF_size_126 ⟨rfl, hs, 6, by decide, h16_6, rfl⟩ | exact ab_retTi X hr0 hlk d_PF_size_126 ⟨rfl, hs, 7, by decide, h16_7, rfl⟩
    ·
      refine ab_aload_n X 0 d_PF_size_127 rfl rfl ?_
      refine ab_gR X fl_PF_58 d_PF_size_128 (by first | assumption | decide | (show _ < 124; omega) | (show _ < 61; omega) | (show _ < 20; omega)) (hs) ?_
      refine ab_gR X fl_PF_137 d_PF_size_131 (by first | assumption | decide | (show _ < 124; omega) | (show _ < 61; omega) | (show _ < 20; omega)) (P0.1.pt3 (by first | assumption | decide | omega)) ?_
      refine ab_gI X fl_PF_140 d_PF_size_134 (by first | assumption | decide | (show _ < 124; omega) | (show _ < 61; omega) | (show _ < 20; omega)) (rfl) ?_
      first | exact ab_retTi X hr0 hlk d_PF_size_137 ⟨rfl, hs, 0, by decide, h16_0, rfl⟩ | exact ab_retTi X hr0 hlk d_PF_size_137 ⟨rfl, hs, 1, by decide, h16_1, rfl⟩ | exact ab_retTi X hr0 hlk d_PF_size_137 ⟨rfl, hs, 2, by decide, h16_2, rfl⟩ | exact ab_retTi X hr0 hlk d_PF_size_137 ⟨rfl, hs, 3, by decide, h16_3, rfl⟩ | exact ab_retTi X hr0 hlk d_PF_size_137 ⟨rfl, hs, 4, by decide, h16_4, rfl⟩ | exact ab_retTi X hr0 hlk d_PF_size_137 ⟨rfl, hs, 5, by decide, h16_5, rfl⟩ | exact ab_retTi X hr0 hlk d_PF_size_137 ⟨rfl, hs, 6, by decide, h16_6, rfl⟩ | exact ab_retTi X hr0 hlk d_PF_size_137 ⟨rfl, hs, 7, by decide, h16_7, rfl⟩
    ·
      refine ab_aload_n X 0 d_PF_size_138 rfl rfl ?_
      refine ab_gR X fl_PF_12 d_PF_size_139 (by first | assumption | decide | (show _ < 124; omega) | (show _ < 61; omega) | (show _ < 20; omega)) (P0.1.pf0) ?_
      refine ab_gI X fl_PF_81 d_PF_size_142 (by first | assumption | decide | (show _ < 124; omega) | (show _ < 61; omega) | (show _ < 20; omega)) (rfl) ?_
      first | exact ab_retTi X hr0 hlk d_PF_size_145 ⟨rfl, hs, 0, by decide, h16_0, rfl⟩ | exact ab_retTi X hr0 hlk d_PF_size_145 ⟨rfl, hs, 1, by decide, h16_1, rfl⟩ | exact ab_retTi X hr0 hlk d_PF_size_145 ⟨rfl, hs, 2, by decide, h16_2, rfl⟩ | exact ab_retTi X hr0 hlk d_PF_size_145 ⟨rfl, hs, 3, by decide, h16_3, rfl⟩ | exact ab_retTi X hr0 hlk d_PF_size_145 ⟨rfl, hs, 4, by decide, h16_4, rfl⟩ | exact ab_retTi X hr0 hlk d_PF_size_145 ⟨rfl, hs, 5, by decide, h16_5, rfl⟩ | exact ab_retTi X hr0 hlk d_PF_size_145 ⟨rfl, hs, 6, by decide, h16_6, rfl⟩ | exact ab_retTi X hr0 hlk d_PF_size_145 ⟨rfl, hs, 7, by decide, h16_7, rfl⟩
    ·
      have out : a1 < 0 ∨ 7 < a1 := by
        by_cases z : a1 < 0
        · exact Or.inl z
        · refine Or.inr (Int32.not_le.mp (fun y => ?_))
          obtain ⟨j, hj, rfl⟩ := nI_of2 (M := 7) (n := 7) (by decide) z y
          have q : ∀ (a pc : Nat), (nI a, pc) ∈ [((0 : Int32), 64), (1, 72), (2, 83), (3, 94), (4, 105), (5, 116), (6, 127), (7, 138)] → ¬ nI j = nI a := fun a pc hm => h16 _ hm
          have j8 : j = 0 ∨ j = 1 ∨ j = 2 ∨ j = 3 ∨ j = 4 ∨ j = 5 ∨ j = 6 ∨ j = 7 := by omega
          rcases j8 with rfl | rfl | rfl | rfl | rfl | rfl | rfl | rfl
          · exact q 0 64 (by decide) rfl
          · exact q 1 72 (by decide) rfl
          · exact q 2 83 (by decide) rfl
          · exact q 3 94 (by decide) rfl
          · exact q 4 105 (by decide) rfl
          · exact q 5 116 (by decide) rfl
          · exact q 6 127 (by decide) rfl
          · exact q 7 138 (by decide) rfl
      exact ab_throw (cells := 0) (slots := 0) X hfl hZ hW0 hnh hlk ow_PF_78 d_PF_size_146 d_PF_size_149 d_PF_size_150 d_PF_size_153 ⟨Nat.le_of_ble_eq_true rfl, Nat.le_of_ble_eq_true rfl⟩ ⟨Nat.le_of_ble_eq_true rfl, Nat.le_of_ble_eq_true rfl⟩ ⟨⟨rfl, Or.inr ⟨rfl, hs, out⟩⟩, Or.inr rfl⟩
set_option maxRecDepth 100000 in
set_option maxHeartbeats 1000000 in
theorem x_MO_size (u : ab_S) (x : Int32) (h : MI u) (hz : u.1 17 0 4 = 0 ∨ u.1 17 0 4 = 1) : ab_C false l D ca y_MO_size b_MO_size 2 (some FieldType.int) 0 ab_nQ u [ab_O 17 0, ab_I x] (fun u' v => oP u u' ∧ ((u.1 17 0 4 = 0 ∧ u'.1 17 0 0 = 1 ∧ ∃ y : Int32, v = some (ab_I y)) ∨ (u.1 17 0 4 = 1 ∧ (x < 0 ∨ 7 < x) ∧ u'.1 17 0 0 = 2 ∧ ∃ y : Int32, v = some (ab_I y)) ∨ (u.1 17 0 4 = 1 ∧ ∃ j, j ≤ 7 ∧ x = nI j ∧ u'.1 17 0 0 = 0 ∧ v = some (ab_I (szM u j))))) := by
  refine ab_C.of (by decide) (Nat.le_of_ble_eq_true rfl) ?_
  intro p e s m args below meth c ad X hZ hr0 hlk
  obtain ⟨hm, -, -, h3⟩ := id h
  have P0 : gP [0] u u := gP.rf hm
  have K1 : ∀ (u1 : ab_S) (y : Int32), gP [0] u u1 → ¬ y = 0 → u1.1 17 0 0 = y → ((u.1 17 0 4 = 0 ∧ y = 1) ∨ (u.1 17 0 4 = 1 ∧ (x < 0 ∨ 7 < x) ∧ y = 2)) → ab_J p l e (ab_rm 0 0 0) s m args below meth c (MQ below (ab_Q D ca ad ab_nQ s.heap.size (fun u' v => oP u u' ∧ ((u.1 17 0 4 = 0 ∧ u'.1 17 0 0 = 1 ∧ ∃ y : Int32, v = some (ab_I y)) ∨ (u.1 17 0 4 = 1 ∧ (x < 0 ∨ 7 < x) ∧ u'.1 17 0 0 = 2 ∧ ∃ y : Int32, v = some (ab_I y)) ∨ (u.1 17 0 4 = 1 ∧ ∃ j, j ≤ 7 ∧ x = nI j ∧ u'.1 17 0 0 = 0 ∧ v = some (ab_I (szM u j)))))) args s 0 0 (ab_A ad ab_nQ s.heap.size)) D ca (ab_A ad ab_nQ s.heap.size) s.heap 2 0 0 ad ab_nQ u1 30 [(0, ab_O 17 0), (1, ab_I x)] [] := by
    intro u1 y P1 hy t1 hd
    refine ab_aload_n X 0 d_MO_size_30 rfl rfl ?_
    refine ab_gI X fl_MO_7 d_MO_size_31 (by first | assumption | decide | (show _ < 124; omega) | (show _ < 61; omega) | (show _ < 20; omega)) (t1) ?_
    refine ab_if_eq X 39 d_MO_size_34 rfl (fun hb => absurd hb (hy)) (fun _ => ?_)
    refine ab_iconst (v := 0) X d_MO_size_37 (by decide) ?_
    refine ab_reti X hr0 hlk d_MO_size_38 ⟨h.oP P1 (by decide), ?_⟩
    rcases hd with ⟨a, b⟩ | ⟨a, b, d⟩
    · exact Or.inl ⟨a, t1.trans b, _, rfl⟩
    · exact Or.inr (Or.inl ⟨a, b, t1.trans d, _, rfl⟩)
  have K0 : ∀ (u1 : ab_S) (j : Nat), gP [0] u u1 → u1.1 17 0 0 = 0 → j ≤ 7 → x = nI j → u.1 17 0 4 = 1 → ab_J p l e (ab_rm 0 0 0) s m args below meth c (MQ below (ab_Q D ca ad ab_nQ s.heap.size (fun u' v => oP u u' ∧ ((u.1 17 0 4 = 0 ∧ u'.1 17 0 0 = 1 ∧ ∃ y : Int32, v = some (ab_I y)) ∨ (u.1 17 0 4 = 1 ∧ (x < 0 ∨ 7 < x) ∧ u'.1 17 0 0 = 2 ∧ ∃ y : Int32, v = some (ab_I y)) ∨ (u.1 17 0 4 = 1 ∧ ∃ j, j ≤ 7 ∧ x = nI j ∧ u'.1 17 0 0 = 0 ∧ v = some (ab_I (szM u j)))))) args s 0 0 (ab_A ad ab_nQ s.heap.size)) D ca (ab_A ad ab_nQ s.heap.size) s.heap 2 0 0 ad ab_nQ u1 30 [(0, ab_O 17 0), (1, ab_I x)] [] := by
    intro u1 j P1 t1 hj hx z1
    subst hx
    have fin : ∀ y : Int32, szM u j = y → (oP u u1 ∧ ((u.1 17 0 4 = 0 ∧ u1.1 17 0 0 = 1 ∧ ∃ z : Int32, some (ab_I y) = some (ab_I z)) ∨ (u.1 17 0 4 = 1 ∧ (nI j < 0 ∨ 7 < nI j) ∧ u1.1 17 0 0 = 2 ∧ ∃ z : Int32, some (ab_I y) = some (ab_I z)) ∨ (u.1 17 0 4 = 1 ∧ ∃ i, i ≤ 7 ∧ nI j = nI i ∧ u1.1 17 0 0 = 0 ∧ some (ab_I y) = some (ab_I (szM u i))))) := fun y e => ⟨h.oP P1 (by decide), Or.inr (Or.inr ⟨z1, j, hj, rfl, t1, by rw [e]⟩)⟩
    refine ab_aload_n X 0 d_MO_size_30 rfl rfl ?_
    refine ab_gI X fl_MO_7 d_MO_size_31 (by first | assumption | decide | (show _ < 124; omega) | (show _ < 61; omega) | (show _ < 20; omega)) (t1) ?_
    refine ab_if_eq X 39 d_MO_size_34 rfl (fun _ => ?_) (fun hb => absurd (rfl) hb)
    refine ab_iload_n X 1 d_MO_size_39 rfl rfl ?_
    refine ab_if_ne X 50 d_MO_size_40 rfl (fun h40 => ?_) (fun h40 => ?_)
    ·
      have j1 : 0 < j := Nat.pos_of_ne_zero (fun z => h40 (by rw [z]; rfl))
      refine ab_iload_n X 1 d_MO_size_50 rfl rfl ?_
      refine ab_iconst (v := 4) X d_MO_size_51 (by decide) ?_
      refine ab_icmp_ge X 66 d_MO_size_52 rfl (fun h52 => ?_) (fun h52 => ?_)
      ·
        have j4 : 4 ≤ j := nI_le_of (b := 4) h52 (by decide)
        refine ab_iload_n X 1 d_MO_size_66 rfl rfl ?_
        refine ab_bipush (v := 7) X d_MO_size_67 (by decide) ?_
        refine ab_icmp_ge X 83 d_MO_size_69 rfl (fun h69 => ?_) (fun h69 => ?_)
        ·
          have j7 : 7 ≤ j := nI_le_of (b := 7) h69 (by decide)
          refine ab_aload_n X 0 d_MO_size_83 rfl rfl ?_
          refine ab_gI X fl_MO_27 d_MO_size_84 (by first | assumption | decide | (show _ < 124; omega) | (show _ < 61; omega) | (show _ < 20; omega)) (P1.fi (by decide) rfl) ?_
          first | exact ab_reti X hr0 hlk d_MO_size_87 (fin _ (if_pos j0)) | exact ab_reti X hr0 hlk d_MO_size_87 (fin _ ((if_neg (by omega)).trans (if_pos j4))) | exact ab_reti X hr0 hlk d_MO_size_87 (fin _ ((if_neg (by omega)).trans ((if_neg (by omega)).trans (if_pos j7)))) | exact ab_reti X hr0 hlk d_MO_size_87 (fin _ ((if_neg (by omega)).trans ((if_neg (by omega)).trans (if_neg (by omega)))))
        ·
          have j7 : j < 7 := nI_lt_of (b := 7) h69 (by omega)
          refine ab_aload_n X 0 d_MO_size_72 rfl rfl ?_
          refine ab_gR X fl_MO_51 d_MO_size_73 (by first | assumption | decide | (show _ < 124; omega) | (show _ < 61; omega) | (show _ < 20; omega)) (P1.1.mo13) ?_
          refine ab_iload_n X 1 d_MO_size_76 rfl rfl ?_
          refine ab_iconst (v := 4) X d_MO_size_77 (by decide) ?_
          refine ab_isub X d_MO_size_78 ?_
          refine ab_top (pk_sub (b := 4) j4) ?_
          refine ab_iald X (j - 4) ⟨rfl, rfl⟩ d_MO_size_79 (by first | assumption | decide | (show _ < 124; omega) | (show _ < 61; omega) | (show _ < 20; omega)) (rfl) (show j - 4 < 72 by omega) (ab_ln_lt _ _) ?_
          refine ab_top (P1.ai (by decide) rfl) ?_
          refine ab_goto X 87 d_MO_size_80 rfl ?_
          first | exact ab_reti X hr0 hlk d_MO_size_87 (fin _ (if_pos j0)) | exact ab_reti X hr0 hlk d_MO_size_87 (fin _ ((if_neg (by omega)).trans (if_pos j4))) | exact ab_reti X hr0 hlk d_MO_size_87 (fin _ ((if_neg (by omega)).trans ((if_neg (by omega)).trans (if_pos j7)))) | exact ab_reti X hr0 hlk d_MO_size_87 (fin _ ((if_neg (by omega)).trans ((if_neg (by omega)).trans (if_neg (by omega)))))
      ·
        have j4 : j < 4 := nI_lt_of (b := 4) h52 (by omega)
        refine ab_aload_n X 0 d_MO_size_55 rfl rfl ?_
        refine ab_gR X fl_MO_48 d_MO_size_56 (by first | assumption | decide | (show _ < 124; omega) | (show _ < 61; omega) | (show _ < 20; omega)) (P1.1.mo12) ?_
        refine ab_iload_n X 1 d_MO_size_59 rfl rfl ?_
        refine ab_iconst (v := 1) X d_MO_size_60 (by decide) ?_
        refine ab_isub X d_MO_size_61 ?_
        refine ab_top (nI_m1 j1) ?_
        refine ab_iald X (j - 1) ⟨rfl, rfl⟩ d_MO_size_62 (by first | assumption | decide | (show _ < 124; omega) | (show _ < 61; omega) | (show _ < 20; omega)) (rfl) (show j - 1 < 72 by omega) (ab_ln_lt _ _) ?_
        refine ab_top (P1.ai (by decide) rfl) ?_
        refine ab_goto X 87 d_MO_size_63 rfl ?_
        first | exact ab_reti X hr0 hlk d_MO_size_87 (fin _ (if_pos j0)) | exact ab_reti X hr0 hlk d_MO_size_87 (fin _ ((if_neg (by omega)).trans (if_pos j4))) | exact ab_reti X hr0 hlk d_MO_size_87 (fin _ ((if_neg (by omega)).trans ((if_neg (by omega)).trans (if_pos j7)))) | exact ab_reti X hr0 hlk d_MO_size_87 (fin _ ((if_neg (by omega)).trans ((if_neg (by omega)).trans (if_neg (by omega)))))
    ·
      have j0 : j = 0 := (nI_eq (b := 0) (by omega) (by decide)).mp h40
      refine ab_aload_n X 0 d_MO_size_43 rfl rfl ?_
      refine ab_gI X fl_MO_30 d_MO_size_44 (by first | assumption | decide | (show _ < 124; omega) | (show _ < 61; omega) | (show _ < 20; omega)) (P1.fi (by decide) rfl) ?_
      refine ab_goto X 87 d_MO_size_47 rfl ?_
      first | exact ab_reti X hr0 hlk d_MO_size_87 (fin _ (if_pos j0)) | exact ab_reti X hr0 hlk d_MO_size_87 (fin _ ((if_neg (by omega)).trans (if_pos j4))) | exact ab_reti X hr0 hlk d_MO_size_87 (fin _ ((if_neg (by omega)).trans ((if_neg (by omega)).trans (if_pos j7)))) | exact ab_reti X hr0 hlk d_MO_size_87 (fin _ ((if_neg (by omega)).trans ((if_neg (by omega)).trans (if_neg (by omega)))))
  rcases hz with z | z
  ·
    refine ab_aload_n X 0 d_MO_size_0 rfl rfl ?_
    refine ab_aload_n X 0 d_MO_size_1 rfl rfl ?_
    refine ab_gI X fl_MO_23 d_MO_size_2 (by first | assumption | decide | (show _ < 124; omega) | (show _ < 61; omega) | (show _ < 20; omega)) (z) ?_
    refine ab_if_ne X 12 d_MO_size_5 rfl (fun hb => absurd (rfl) hb) (fun _ => ?_)
    refine ab_iconst (v := 1) X d_MO_size_8 (by decide) ?_
    refine ab_goto X 27 d_MO_size_9 rfl ?_
    refine ab_putI X fp_MO_7 d_MO_size_27 (by first | assumption | decide | (show _ < 124; omega) | (show _ < 61; omega) | (show _ < 20; omega)) rfl rfl ?_
    refine ab_gen (fun u27 e27 => ?_)
    have P27 : gP [0] u u27 := by rw [e27]; exact P0.ui rfl (by decide)
    have t27 := (congrArg (fun z : ab_S => z.1 17 0 0) e27).trans (ui_s _)
    exact K1 _ _ P27 (by decide) t27 (Or.inl ⟨z, rfl⟩)
  ·
    refine ab_aload_n X 0 d_MO_size_0 rfl rfl ?_
    refine ab_aload_n X 0 d_MO_size_1 rfl rfl ?_
    refine ab_gI X fl_MO_23 d_MO_size_2 (by first | assumption | decide | (show _ < 124; omega) | (show _ < 61; omega) | (show _ < 20; omega)) (z) ?_
    refine ab_if_ne X 12 d_MO_size_5 rfl (fun _ => ?_) (fun hb => absurd hb ((by decide)))
    refine ab_iload_n X 1 d_MO_size_12 rfl rfl ?_
    refine ab_if_lt X 22 d_MO_size_13 rfl (fun h13 => ?_) (fun h13 => ?_)
    ·
      have out : x < 0 ∨ 7 < x := Or.inl h13
      refine ab_iconst (v := 2) X d_MO_size_22 (by decide) ?_
      refine ab_goto X 27 d_MO_size_23 rfl ?_
      refine ab_putI X fp_MO_7 d_MO_size_27 (by first | assumption | decide | (show _ < 124; omega) | (show _ < 61; omega) | (show _ < 20; omega)) rfl rfl ?_
      refine ab_gen (fun u27 e27 => ?_)
      have P27 : gP [0] u u27 := by rw [e27]; exact P0.ui rfl (by decide)
      have t27 := (congrArg (fun z : ab_S => z.1 17 0 0) e27).trans (ui_s _)
      first | exact K1 _ _ P27 (by decide) t27 (Or.inr ⟨z, out, rfl⟩) | exact K0 _ j P27 t27 hj hx z
    ·
      refine ab_iload_n X 1 d_MO_size_16 rfl rfl ?_
      refine ab_bipush (v := 7) X d_MO_size_17 (by decide) ?_
      refine ab_icmp_le X 26 d_MO_size_19 rfl (fun h19 => ?_) (fun h19 => ?_)
      ·
        obtain ⟨j, hj, hx⟩ := nI_of2 (M := 7) (n := 7) (by decide) h13 h19
        refine ab_iconst (v := 0) X d_MO_size_26 (by decide) ?_
        refine ab_putI X fp_MO_7 d_MO_size_27 (by first | assumption | decide | (show _ < 124; omega) | (show _ < 61; omega) | (show _ < 20; omega)) rfl rfl ?_
        refine ab_gen (fun u27 e27 => ?_)
        have P27 : gP [0] u u27 := by rw [e27]; exact P0.ui rfl (by decide)
        have t27 := (congrArg (fun z : ab_S => z.1 17 0 0) e27).trans (ui_s _)
        first | exact K1 _ _ P27 (by decide) t27 (Or.inr ⟨z, out, rfl⟩) | exact K0 _ j P27 t27 hj hx z
      ·
        have out : x < 0 ∨ 7 < x := Or.inr (Int32.not_le.mp h19)
        refine ab_iconst (v := 2) X d_MO_size_22 (by decide) ?_
        refine ab_goto X 27 d_MO_size_23 rfl ?_
        refine ab_putI X fp_MO_7 d_MO_size_27 (by first | assumption | decide | (show _ < 124; omega) | (show _ < 61; omega) | (show _ < 20; omega)) rfl rfl ?_
        refine ab_gen (fun u27 e27 => ?_)
        have P27 : gP [0] u u27 := by rw [e27]; exact P0.ui rfl (by decide)
        have t27 := (congrArg (fun z : ab_S => z.1 17 0 0) e27).trans (ui_s _)
        first | exact K1 _ _ P27 (by decide) t27 (Or.inr ⟨z, out, rfl⟩) | exact K0 _ j P27 t27 hj hx z
set_option maxRecDepth 100000 in
set_option maxHeartbeats 1000000 in
theorem x_MO_word (u : ab_S) (x : Int32) (n : Nat) (h : MI u) (hz : u.1 17 0 4 = 0 ∨ (u.1 17 0 4 = 1 ∧ u.1 18 6 0 = nI n ∧ n ≤ 100)) : ab_C false l D ca y_MO_word b_MO_word 2 (some FieldType.int) 0 ab_nQ u [ab_O 17 0, ab_I x] (fun u' v => oP u u' ∧ ((u.1 17 0 4 = 0 ∧ u'.1 17 0 0 = 1 ∧ ∃ y : Int32, v = some (ab_I y)) ∨ (u.1 17 0 4 = 1 ∧ (x < 0 ∨ nI n ≤ x) ∧ u'.1 17 0 0 = 1 ∧ ∃ y : Int32, v = some (ab_I y)) ∨ (u.1 17 0 4 = 1 ∧ ∃ j, j < n ∧ x = nI j ∧ u'.1 17 0 0 = 0 ∧ v = some (ab_I (u.1 18 9 j))))) := by
  refine ab_C.of (by decide) (Nat.le_of_ble_eq_true rfl) ?_
  intro p e s m args below meth c ad X hZ hr0 hlk
  obtain ⟨hm, -, -, h3⟩ := id h
  have P0 : gP [0] u u := gP.rf hm
  have K1 : ∀ u1, gP [0] u u1 → u1.1 17 0 0 = 1 → (u.1 17 0 4 = 0 ∨ (u.1 17 0 4 = 1 ∧ (x < 0 ∨ nI n ≤ x))) → ab_J p l e (ab_rm 0 0 0) s m args below meth c (MQ below (ab_Q D ca ad ab_nQ s.heap.size (fun u' v => oP u u' ∧ ((u.1 17 0 4 = 0 ∧ u'.1 17 0 0 = 1 ∧ ∃ y : Int32, v = some (ab_I y)) ∨ (u.1 17 0 4 = 1 ∧ (x < 0 ∨ nI n ≤ x) ∧ u'.1 17 0 0 = 1 ∧ ∃ y : Int32, v = some (ab_I y)) ∨ (u.1 17 0 4 = 1 ∧ ∃ j, j < n ∧ x = nI j ∧ u'.1 17 0 0 = 0 ∧ v = some (ab_I (u.1 18 9 j)))))) args s 0 0 (ab_A ad ab_nQ s.heap.size)) D ca (ab_A ad ab_nQ s.heap.size) s.heap 2 0 0 ad ab_nQ u1 30 [(0, ab_O 17 0), (1, ab_I x)] [] := by
    intro u1 P1 t1 hd
    refine ab_aload_n X 0 d_MO_word_30 rfl rfl ?_
    refine ab_gI X fl_MO_7 d_MO_word_31 (by first | assumption | decide | (show _ < 124; omega) | (show _ < 61; omega) | (show _ < 20; omega)) (t1) ?_
    refine ab_if_eq X 41 d_MO_word_34 rfl (fun hb => absurd hb ((by decide))) (fun _ => ?_)
    refine ab_iconst (v := 0) X d_MO_word_37 (by decide) ?_
    refine ab_goto X 47 d_MO_word_38 rfl ?_
    refine ab_reti X hr0 hlk d_MO_word_47 ⟨h.oP P1 (by decide), ?_⟩
    rcases hd with a | ⟨a, b⟩
    · exact Or.inl ⟨a, t1, _, rfl⟩
    · exact Or.inr (Or.inl ⟨a, b, t1, _, rfl⟩)
  have K0 : ∀ (u1 : ab_S) (j : Nat), gP [0] u u1 → u1.1 17 0 0 = 0 → u.1 17 0 4 = 1 → j < n → n ≤ 100 → x = nI j → ab_J p l e (ab_rm 0 0 0) s m args below meth c (MQ below (ab_Q D ca ad ab_nQ s.heap.size (fun u' v => oP u u' ∧ ((u.1 17 0 4 = 0 ∧ u'.1 17 0 0 = 1 ∧ ∃ y : Int32, v = some (ab_I y)) ∨ (u.1 17 0 4 = 1 ∧ (x < 0 ∨ nI n ≤ x) ∧ u'.1 17 0 0 = 1 ∧ ∃ y : Int32, v = some (ab_I y)) ∨ (u.1 17 0 4 = 1 ∧ ∃ j, j < n ∧ x = nI j ∧ u'.1 17 0 0 = 0 ∧ v = some (ab_I (u.1 18 9 j)))))) args s 0 0 (ab_A ad ab_nQ s.heap.size)) D ca (ab_A ad ab_nQ s.heap.size) s.heap 2 0 0 ad ab_nQ u1 30 [(0, ab_O 17 0), (1, ab_I x)] [] := by
    intro u1 j P1 t1 z1 hj hn hx
    refine ab_aload_n X 0 d_MO_word_30 rfl rfl ?_
    refine ab_gI X fl_MO_7 d_MO_word_31 (by first | assumption | decide | (show _ < 124; omega) | (show _ < 61; omega) | (show _ < 20; omega)) (t1) ?_
    refine ab_if_eq X 41 d_MO_word_34 rfl (fun _ => ?_) (fun hb => absurd (rfl) hb)
    refine ab_aload_n X 0 d_MO_word_41 rfl rfl ?_
    refine ab_gR X fl_MO_57 d_MO_word_42 (by first | assumption | decide | (show _ < 124; omega) | (show _ < 61; omega) | (show _ < 20; omega)) (P1.1.mo15) ?_
    refine ab_iload_n X 1 d_MO_word_45 rfl rfl ?_
    refine ab_iald X (j) ⟨rfl, rfl⟩ d_MO_word_46 (by first | assumption | decide | (show _ < 124; omega) | (show _ < 61; omega) | (show _ < 20; omega)) (hx) (show j < 7200 by omega) (ab_ln_lt _ _) ?_
    refine ab_top (P1.ai (by decide) rfl) ?_
    exact ab_reti X hr0 hlk d_MO_word_47 ⟨h.oP P1 (by decide), Or.inr (Or.inr ⟨z1, j, hj, hx, t1, rfl⟩)⟩
  rcases hz with z | ⟨z, e6, hn⟩
  ·
    refine ab_aload_n X 0 d_MO_word_0 rfl rfl ?_
    refine ab_aload_n X 0 d_MO_word_1 rfl rfl ?_
    refine ab_gI X fl_MO_23 d_MO_word_2 (by first | assumption | decide | (show _ < 124; omega) | (show _ < 61; omega) | (show _ < 20; omega)) (z) ?_
    refine ab_if_eq X 22 d_MO_word_5 rfl (fun _ => ?_) (fun hb => absurd (rfl) hb)
    refine ab_iconst (v := 1) X d_MO_word_22 (by decide) ?_
    refine ab_goto X 27 d_MO_word_23 rfl ?_
    refine ab_putI X fp_MO_7 d_MO_word_27 (by first | assumption | decide | (show _ < 124; omega) | (show _ < 61; omega) | (show _ < 20; omega)) rfl rfl ?_
    refine ab_gen (fun u27 e27 => ?_)
    have P27 : gP [0] u u27 := by rw [e27]; exact P0.ui rfl (by decide)
    have t27 := (congrArg (fun z : ab_S => z.1 17 0 0) e27).trans (ui_s _)
    exact K1 _ P27 t27 (Or.inl z)
  ·
    refine ab_aload_n X 0 d_MO_word_0 rfl rfl ?_
    refine ab_aload_n X 0 d_MO_word_1 rfl rfl ?_
    refine ab_gI X fl_MO_23 d_MO_word_2 (by first | assumption | decide | (show _ < 124; omega) | (show _ < 61; omega) | (show _ < 20; omega)) (z) ?_
    refine ab_if_eq X 22 d_MO_word_5 rfl (fun hb => absurd hb ((by decide))) (fun _ => ?_)
    refine ab_iload_n X 1 d_MO_word_8 rfl rfl ?_
    refine ab_if_lt X 22 d_MO_word_9 rfl (fun h9 => ?_) (fun h9 => ?_)
    ·
      have out : x < 0 ∨ nI n ≤ x := Or.inl h9
      refine ab_iconst (v := 1) X d_MO_word_22 (by decide) ?_
      refine ab_goto X 27 d_MO_word_23 rfl ?_
      refine ab_putI X fp_MO_7 d_MO_word_27 (by first | assumption | decide | (show _ < 124; omega) | (show _ < 61; omega) | (show _ < 20; omega)) rfl rfl ?_
      refine ab_gen (fun u27 e27 => ?_)
      have P27 : gP [0] u u27 := by rw [e27]; exact P0.ui rfl (by decide)
      have t27 := (congrArg (fun z : ab_S => z.1 17 0 0) e27).trans (ui_s _)
      first | exact K1 _ P27 t27 (Or.inr ⟨z, out⟩) | exact K0 _ j P27 t27 z hj hn hx
    ·
      refine ab_iload_n X 1 d_MO_word_12 rfl rfl ?_
      refine ab_aload_n X 0 d_MO_word_13 rfl rfl ?_
      refine ab_gR X fl_MO_48 d_MO_word_14 (by first | assumption | decide | (show _ < 124; omega) | (show _ < 61; omega) | (show _ < 20; omega)) (P0.1.mo12) ?_
      refine ab_iconst (v := 0) X d_MO_word_17 (by decide) ?_
      refine ab_iald X (0) ⟨rfl, rfl⟩ d_MO_word_18 (by first | assumption | decide | (show _ < 124; omega) | (show _ < 61; omega) | (show _ < 20; omega)) (rfl) (show 0 < 72 by decide) (ab_ln_lt _ _) ?_
      refine ab_top e6 ?_
      refine ab_icmp_lt X 26 d_MO_word_19 rfl (fun h19 => ?_) (fun h19 => ?_)
      ·
        obtain ⟨j, hj, hx⟩ : ∃ j, j < n ∧ x = nI j := by
          obtain ⟨j, hj, rfl⟩ := nI_of h9
          exact ⟨j, nI_ltl h19 hj, rfl⟩
        refine ab_iconst (v := 0) X d_MO_word_26 (by decide) ?_
        refine ab_putI X fp_MO_7 d_MO_word_27 (by first | assumption | decide | (show _ < 124; omega) | (show _ < 61; omega) | (show _ < 20; omega)) rfl rfl ?_
        refine ab_gen (fun u27 e27 => ?_)
        have P27 : gP [0] u u27 := by rw [e27]; exact P0.ui rfl (by decide)
        have t27 := (congrArg (fun z : ab_S => z.1 17 0 0) e27).trans (ui_s _)
        first | exact K1 _ P27 t27 (Or.inr ⟨z, out⟩) | exact K0 _ j P27 t27 z hj hn hx
      ·
        have out : x < 0 ∨ nI n ≤ x := Or.inr (Int32.not_lt.mp h19)
        refine ab_iconst (v := 1) X d_MO_word_22 (by decide) ?_
        refine ab_goto X 27 d_MO_word_23 rfl ?_
        refine ab_putI X fp_MO_7 d_MO_word_27 (by first | assumption | decide | (show _ < 124; omega) | (show _ < 61; omega) | (show _ < 20; omega)) rfl rfl ?_
        refine ab_gen (fun u27 e27 => ?_)
        have P27 : gP [0] u u27 := by rw [e27]; exact P0.ui rfl (by decide)
        have t27 := (congrArg (fun z : ab_S => z.1 17 0 0) e27).trans (ui_s _)
        first | exact K1 _ P27 t27 (Or.inr ⟨z, out⟩) | exact K0 _ j P27 t27 z hj hn hx
end SaXSize

