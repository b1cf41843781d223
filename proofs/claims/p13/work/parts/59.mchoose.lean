/-! The reference's choice: the best of the ways that were tried. -/
theorem sm_congr {B C : Nat → Nat} : ∀ (n : Nat), (∀ i, i < n → B i = C i) → sm B n = sm C n := by
  intro n
  induction n with
  | zero => intro _; rfl
  | succ n ih =>
    intro h
    show sm B n + B n = sm C n + C n
    rw [ih (fun i hi => h i (by omega)), h n (by omega)]
theorem wl_congr {u u1 : ab_S} {p n w : Nat} {cs : Nat → Nat} (hw : ways w) (h8 : w = 8 ∨ w = 24 → lnu u1 (3 * p) = lnu u (3 * p)) (hn : ¬ (w = 1 ∨ w = 11 ∨ w = 12 ∨ w = 8 ∨ w = 24) → 2 ≤ n) (hc : ∀ i, i < n → lnu u1 (3 * cs i) = lnu u (3 * cs i) ∧ lnu u1 (3 * cs i + 1) = lnu u (3 * cs i + 1) ∧ lnu u1 (3 * cs i + 2) = lnu u (3 * cs i + 2)) : wl u1 p n cs w = wl u p n cs w := by
  by_cases h1 : w = 1 ∨ w = 11 ∨ w = 12
  · unfold wl; rw [if_pos h1, if_pos h1]
  · by_cases h2 : w = 8 ∨ w = 24
    · have z := h8 h2
      rcases h2 with rfl | rfl
      · show lnu u1 (3 * p) + 4 = lnu u (3 * p) + 4
        rw [z]
      · show lnu u1 (3 * p) + 1 = lnu u (3 * p) + 1
        rw [z]
    · have n2 := hn (by omega)
      obtain ⟨a0, a1, a2⟩ := hc 0 (by omega)
      obtain ⟨b0, b1, b2⟩ := hc 1 (by omega)
      by_cases h7 : w = 7
      · subst h7
        show 1 + sm (fun i => lnu u1 (3 * cs i + 1) + (if 0 < i then 3 else 0)) n = 1 + sm (fun i => lnu u (3 * cs i + 1) + (if 0 < i then 3 else 0)) n
        rw [sm_congr n (fun i hi => by rw [(hc i hi).2.1])]
      · by_cases h18 : w = 18
        · subst h18
          show sm (fun i => if i + 1 < n then lnu u1 (3 * cs i + 2) else lnu u1 (3 * cs i)) n = sm (fun i => if i + 1 < n then lnu u (3 * cs i + 2) else lnu u (3 * cs i)) n
          exact sm_congr n (fun i hi => by rw [(hc i hi).1, (hc i hi).2.2])
        · have hw' : w = 2 ∨ w = 3 ∨ w = 4 ∨ w = 5 ∨ w = 6 ∨ w = 13 ∨ w = 14 ∨ w = 15 ∨ w = 16 ∨ w = 17 ∨ w = 21 ∨ w = 22 ∨ w = 23 := by unfold ways at hw; omega
          rcases hw' with rfl | rfl | rfl | rfl | rfl | rfl | rfl | rfl | rfl | rfl | rfl | rfl | rfl <;> simp [wl, a0, a1, a2, b0, b1, b2]
/-- what a choice has changed -/
def cF (u u1 : ab_S) (f : Nat) : Prop := gP [18, 19, 105, 106, 107] u u1 ∧ ∀ g, g ≠ f → u1.1 18 6 g = u.1 18 6 g ∧ u1.1 18 5 g = u.1 18 5 g
/-- how far it has come: the ways of S were tried -/
def chI (u u1 : ab_S) (p1 n a k : Nat) (cs : Nat → Nat) (f : Nat) (S : Nat → Prop) : Prop := ∃ L, u1.1 18 6 f = nI L ∧ L ≤ 10000 ∧ (∀ w, S w → app k a n w → L ≤ wl u p1 n cs w) ∧ ((L = 10000 ∧ ∀ w, S w → ¬ app k a n w) ∨ ∃ w, S w ∧ app k a n w ∧ L = wl u p1 n cs w ∧ u1.1 18 5 f = nI w)
section SaMChoose
variable {l : Launch} {D : va_G} {ca : Nat → ClassId}
abbrev b_MO_choose : ByteArray := prog_10_method_24_code
def y_MO_choose : MethodName := ⟨"PolicyForgeModel", "choose", "(IIIIII)V"⟩
theorem d_MO_choose_0 : decode b_MO_choose 0 = .ok (.aload_n 0, 1) := by decide +kernel
theorem d_MO_choose_1 : decode b_MO_choose 1 = .ok (.getfield 48, 3) := by decide +kernel
theorem d_MO_choose_4 : decode b_MO_choose 4 = .ok (.iload_n 2, 1) := by decide +kernel
theorem d_MO_choose_5 : decode b_MO_choose 5 = .ok (.sipush 10000, 3) := by decide +kernel
theorem d_MO_choose_8 : decode b_MO_choose 8 = .ok (.iastore, 1) := by decide +kernel
theorem d_MO_choose_9 : decode b_MO_choose 9 = .ok (.aload_n 0, 1) := by decide +kernel
theorem d_MO_choose_10 : decode b_MO_choose 10 = .ok (.getfield 51, 3) := by decide +kernel
theorem d_MO_choose_13 : decode b_MO_choose 13 = .ok (.iload_n 2, 1) := by decide +kernel
theorem d_MO_choose_14 : decode b_MO_choose 14 = .ok (.sipush 10000, 3) := by decide +kernel
theorem d_MO_choose_17 : decode b_MO_choose 17 = .ok (.iastore, 1) := by decide +kernel
theorem d_MO_choose_18 : decode b_MO_choose 18 = .ok (.iconst 0, 1) := by decide +kernel
theorem d_MO_choose_19 : decode b_MO_choose 19 = .ok (.istore 7, 2) := by decide +kernel
theorem d_MO_choose_21 : decode b_MO_choose 21 = .ok (.iload 7, 2) := by decide +kernel
theorem d_MO_choose_23 : decode b_MO_choose 23 = .ok (.iconst 2, 1) := by decide +kernel
theorem d_MO_choose_24 : decode b_MO_choose 24 = .ok (.if_icmp .ge 122, 3) := by decide +kernel
theorem d_MO_choose_27 : decode b_MO_choose 27 = .ok (.iload 7, 2) := by decide +kernel
theorem d_MO_choose_29 : decode b_MO_choose 29 = .ok (.ifCond .ne 7, 3) := by decide +kernel
theorem d_MO_choose_32 : decode b_MO_choose 32 = .ok (.iload_n 3, 1) := by decide +kernel
theorem d_MO_choose_33 : decode b_MO_choose 33 = .ok (.goto 5, 3) := by decide +kernel
theorem d_MO_choose_36 : decode b_MO_choose 36 = .ok (.iload 5, 2) := by decide +kernel
theorem d_MO_choose_38 : decode b_MO_choose 38 = .ok (.istore 8, 2) := by decide +kernel
theorem d_MO_choose_40 : decode b_MO_choose 40 = .ok (.iload 8, 2) := by decide +kernel
theorem d_MO_choose_42 : decode b_MO_choose 42 = .ok (.iload 7, 2) := by decide +kernel
theorem d_MO_choose_44 : decode b_MO_choose 44 = .ok (.ifCond .ne 8, 3) := by decide +kernel
theorem d_MO_choose_47 : decode b_MO_choose 47 = .ok (.iload 4, 2) := by decide +kernel
theorem d_MO_choose_49 : decode b_MO_choose 49 = .ok (.goto 5, 3) := by decide +kernel
theorem d_MO_choose_52 : decode b_MO_choose 52 = .ok (.iload 6, 2) := by decide +kernel
theorem d_MO_choose_54 : decode b_MO_choose 54 = .ok (.if_icmp .gt 86, 3) := by decide +kernel
theorem d_MO_choose_57 : decode b_MO_choose 57 = .ok (.aload_n 0, 1) := by decide +kernel
theorem d_MO_choose_58 : decode b_MO_choose 58 = .ok (.iload_n 1, 1) := by decide +kernel
theorem d_MO_choose_59 : decode b_MO_choose 59 = .ok (.iload 8, 2) := by decide +kernel
theorem d_MO_choose_61 : decode b_MO_choose 61 = .ok (.invokevirtual 228, 3) := by decide +kernel
theorem d_MO_choose_64 : decode b_MO_choose 64 = .ok (.ifCond .eq 70, 3) := by decide +kernel
theorem d_MO_choose_67 : decode b_MO_choose 67 = .ok (.aload_n 0, 1) := by decide +kernel
theorem d_MO_choose_68 : decode b_MO_choose 68 = .ok (.getfield 66, 3) := by decide +kernel
theorem d_MO_choose_71 : decode b_MO_choose 71 = .ok (.aload_n 0, 1) := by decide +kernel
theorem d_MO_choose_72 : decode b_MO_choose 72 = .ok (.getfield 48, 3) := by decide +kernel
theorem d_MO_choose_75 : decode b_MO_choose 75 = .ok (.iload_n 2, 1) := by decide +kernel
theorem d_MO_choose_76 : decode b_MO_choose 76 = .ok (.iaload, 1) := by decide +kernel
theorem d_MO_choose_77 : decode b_MO_choose 77 = .ok (.if_icmp .lt 29, 3) := by decide +kernel
theorem d_MO_choose_80 : decode b_MO_choose 80 = .ok (.aload_n 0, 1) := by decide +kernel
theorem d_MO_choose_81 : decode b_MO_choose 81 = .ok (.getfield 66, 3) := by decide +kernel
theorem d_MO_choose_84 : decode b_MO_choose 84 = .ok (.aload_n 0, 1) := by decide +kernel
theorem d_MO_choose_85 : decode b_MO_choose 85 = .ok (.getfield 48, 3) := by decide +kernel
theorem d_MO_choose_88 : decode b_MO_choose 88 = .ok (.iload_n 2, 1) := by decide +kernel
theorem d_MO_choose_89 : decode b_MO_choose 89 = .ok (.iaload, 1) := by decide +kernel
theorem d_MO_choose_90 : decode b_MO_choose 90 = .ok (.if_icmp .ne 44, 3) := by decide +kernel
theorem d_MO_choose_93 : decode b_MO_choose 93 = .ok (.aload_n 0, 1) := by decide +kernel
theorem d_MO_choose_94 : decode b_MO_choose 94 = .ok (.getfield 69, 3) := by decide +kernel
theorem d_MO_choose_97 : decode b_MO_choose 97 = .ok (.aload_n 0, 1) := by decide +kernel
theorem d_MO_choose_98 : decode b_MO_choose 98 = .ok (.getfield 51, 3) := by decide +kernel
theorem d_MO_choose_101 : decode b_MO_choose 101 = .ok (.iload_n 2, 1) := by decide +kernel
theorem d_MO_choose_102 : decode b_MO_choose 102 = .ok (.iaload, 1) := by decide +kernel
theorem d_MO_choose_103 : decode b_MO_choose 103 = .ok (.if_icmp .ge 31, 3) := by decide +kernel
theorem d_MO_choose_106 : decode b_MO_choose 106 = .ok (.aload_n 0, 1) := by decide +kernel
theorem d_MO_choose_107 : decode b_MO_choose 107 = .ok (.getfield 48, 3) := by decide +kernel
theorem d_MO_choose_110 : decode b_MO_choose 110 = .ok (.iload_n 2, 1) := by decide +kernel
theorem d_MO_choose_111 : decode b_MO_choose 111 = .ok (.aload_n 0, 1) := by decide +kernel
theorem d_MO_choose_112 : decode b_MO_choose 112 = .ok (.getfield 66, 3) := by decide +kernel
theorem d_MO_choose_115 : decode b_MO_choose 115 = .ok (.iastore, 1) := by decide +kernel
theorem d_MO_choose_116 : decode b_MO_choose 116 = .ok (.aload_n 0, 1) := by decide +kernel
theorem d_MO_choose_117 : decode b_MO_choose 117 = .ok (.getfield 51, 3) := by decide +kernel
theorem d_MO_choose_120 : decode b_MO_choose 120 = .ok (.iload_n 2, 1) := by decide +kernel
theorem d_MO_choose_121 : decode b_MO_choose 121 = .ok (.aload_n 0, 1) := by decide +kernel
theorem d_MO_choose_122 : decode b_MO_choose 122 = .ok (.getfield 69, 3) := by decide +kernel
theorem d_MO_choose_125 : decode b_MO_choose 125 = .ok (.iastore, 1) := by decide +kernel
theorem d_MO_choose_126 : decode b_MO_choose 126 = .ok (.aload_n 0, 1) := by decide +kernel
theorem d_MO_choose_127 : decode b_MO_choose 127 = .ok (.getfield 45, 3) := by decide +kernel
theorem d_MO_choose_130 : decode b_MO_choose 130 = .ok (.iload_n 2, 1) := by decide +kernel
theorem d_MO_choose_131 : decode b_MO_choose 131 = .ok (.iload 8, 2) := by decide +kernel
theorem d_MO_choose_133 : decode b_MO_choose 133 = .ok (.iastore, 1) := by decide +kernel
theorem d_MO_choose_134 : decode b_MO_choose 134 = .ok (.iinc 8 1, 3) := by decide +kernel
theorem d_MO_choose_137 : decode b_MO_choose 137 = .ok (.goto (-97), 3) := by decide +kernel
theorem d_MO_choose_140 : decode b_MO_choose 140 = .ok (.iinc 7 1, 3) := by decide +kernel
theorem d_MO_choose_143 : decode b_MO_choose 143 = .ok (.goto (-122), 3) := by decide +kernel
theorem d_MO_choose_146 : decode b_MO_choose 146 = .ok (.return_, 1) := by decide +kernel
theorem lk_MO_228 : ab_lk "PolicyForgeModel" 228 y_MO_tries b_MO_tries 6 (some FieldType.boolean) 2 17 := ⟨⟨rfl, T_MO, 44, rfl⟩, List.forall_mem_cons.mpr ⟨(ab_in 1124 (by decide +kernel) (by decide +kernel)), List.forall_mem_cons.mpr ⟨(ab_in 1126 (by decide +kernel) (by decide +kernel)), List.forall_mem_cons.mpr ⟨(ab_in 55 (by decide +kernel) (by decide +kernel)), List.forall_mem_cons.mpr ⟨(ab_in 100 (by decide +kernel) (by decide +kernel)), List.forall_mem_cons.mpr ⟨(ab_in 1127 (by decide +kernel) (by decide +kernel)), fun _ h => absurd h List.not_mem_nil⟩⟩⟩⟩⟩, ⟨by decide +kernel, by decide +kernel, by decide +kernel⟩, by decide⟩
theorem fl_MO_69 : ab_fl "PolicyForgeModel" 69 17 19 0 := ⟨rfl, R_MO, T_MO, 44, rfl, uw_MO, by decide, rfl, (ab_in 945 (by decide +kernel) (by decide +kernel))⟩
set_option maxRecDepth 100000 in
set_option maxHeartbeats 4000000 in
theorem s_MO_choose (u : ab_S) (P : Nat) (kd ar cn lf : Nat → Nat) (ch : Nat → Nat → Nat) (W : tW P kd ar cn lf ch) (T : tR P kd ar cn ch u) (p1 j ra rb rc rd : Nat) (h : mR u.2.1) (hp : p1 < P) (hj : j < 3) (hl : ∀ c, p1 < c → c < P → lk u (3 * c) ∧ lk u (3 * c + 1) ∧ lk u (3 * c + 2)) (hr : ∀ w, (ra ≤ w ∧ w ≤ rb) ∨ (rc ≤ w ∧ w ≤ rd) → ways w ∧ (w = 8 ∨ w = 24 → 0 < j ∧ lk u (3 * p1))) (hab : ra ≤ rb + 1 ∧ rb ≤ 30) (hcd : rc ≤ rd + 1 ∧ rd ≤ 30) : ab_C false l D ca y_MO_choose b_MO_choose 9 none 4 ab_nQ u [ab_O 17 0, ab_I (nI p1), ab_I (nI (3 * p1 + j)), ab_I (nI ra), ab_I (nI rb), ab_I (nI rc), ab_I (nI rd)] (fun u' v => (cF u u' (3 * p1 + j) ∧ chI u u' p1 (cn p1) (ar p1) (kd p1) (ch p1) (3 * p1 + j) (fun w => (ra ≤ w ∧ w ≤ rb) ∨ (rc ≤ w ∧ w ≤ rd))) ∧ v = none) := by
  refine ab_C.of (by decide) (Nat.le_of_ble_eq_true rfl) ?_
  intro p e s m args below meth c ad X hZ hr0 hlk
  have P0 : gP [18, 19, 105, 106, 107] u u := gP.rf h
  have hP19 := W.2.1
  have body : ∀ (t w : Nat) (u1 : ab_S) (S : Nat → Prop), cF u u1 (3 * p1 + j) → chI u u1 p1 (cn p1) (ar p1) (kd p1) (ch p1) (3 * p1 + j) S → ways w → (w = 8 ∨ w = 24 → 0 < j ∧ lk u (3 * p1)) → (∀ u2, cF u u2 (3 * p1 + j) → chI u u2 p1 (cn p1) (ar p1) (kd p1) (ch p1) (3 * p1 + j) (fun x => S x ∨ x = w) → ab_J p l e (ab_rm 4 0 0) s m args below meth c (MQ below (ab_Q D ca ad ab_nQ s.heap.size (fun u' v => (cF u u' (3 * p1 + j) ∧ chI u u' p1 (cn p1) (ar p1) (kd p1) (ch p1) (3 * p1 + j) (fun w => (ra ≤ w ∧ w ≤ rb) ∨ (rc ≤ w ∧ w ≤ rd))) ∧ v = none)) args s 0 0 (ab_A ad ab_nQ s.heap.size)) D ca (ab_A ad ab_nQ s.heap.size) s.heap 9 0 0 ad ab_nQ u2 134 [(8, ab_I (nI w)), (7, ab_I (nI t)), (0, ab_O 17 0), (1, ab_I (nI p1)), (2, ab_I (nI (3 * p1 + j))), (3, ab_I (nI ra)), (4, ab_I (nI rb)), (5, ab_I (nI rc)), (6, ab_I (nI rd))] []) → ab_J p l e (ab_rm 4 0 0) s m args below meth c (MQ below (ab_Q D ca ad ab_nQ s.heap.size (fun u' v => (cF u u' (3 * p1 + j) ∧ chI u u' p1 (cn p1) (ar p1) (kd p1) (ch p1) (3 * p1 + j) (fun w => (ra ≤ w ∧ w ≤ rb) ∨ (rc ≤ w ∧ w ≤ rd))) ∧ v = none)) args s 0 0 (ab_A ad ab_nQ s.heap.size)) D ca (ab_A ad ab_nQ s.heap.size) s.heap 9 0 0 ad ab_nQ u1 57 [(8, ab_I (nI w)), (7, ab_I (nI t)), (0, ab_O 17 0), (1, ab_I (nI p1)), (2, ab_I (nI (3 * p1 + j))), (3, ab_I (nI ra)), (4, ab_I (nI rb)), (5, ab_I (nI rc)), (6, ab_I (nI rd))] [] := by
    intro t w u1 S hF hI hw h8 nx
    have P1 := hF.1
    have lu : ∀ g, g ≠ 3 * p1 + j → u1.1 18 6 g = u.1 18 6 g := fun g hg => (hF.2 g hg).1
    have lk1 : ∀ g, g ≠ 3 * p1 + j → lk u g → lk u1 g := fun g hg z => by unfold lk lnu; rw [lu g hg]; exact z
    have ln1 : ∀ g, g ≠ 3 * p1 + j → lnu u1 g = lnu u g := fun g hg => by unfold lnu; rw [lu g hg]
    have hl1 : ∀ c, p1 < c → c < P → lk u1 (3 * c) ∧ lk u1 (3 * c + 1) ∧ lk u1 (3 * c + 2) := fun c a b => ⟨lk1 _ (by omega) (hl c a b).1, lk1 _ (by omega) (hl c a b).2.1, lk1 _ (by omega) (hl c a b).2.2⟩
    have hB1 : w = 8 ∨ w = 24 → lk u1 (3 * p1) := fun z => lk1 _ (by have := (h8 z).1; omega) (h8 z).2
    have hwl : app (kd p1) (ar p1) (cn p1) w → wl u1 p1 (cn p1) (ch p1) w = wl u p1 (cn p1) (ch p1) w := fun ha => by
      refine wl_congr hw (fun z => ln1 _ (by have := (h8 z).1; omega)) (fun z => ?_) (fun i hi => ?_)
      · have hk : 5 ≤ kd p1 := by unfold app at ha; unfold ways at hw; omega
        exact ((W.2.2 p1 hp).2.2 hk).1
      · have hk : 5 ≤ kd p1 := Nat.le_of_not_lt (fun q => by have := (W.2.2 p1 hp).2.1 q; omega)
        have b5 := ((W.2.2 p1 hp).2.2 hk).2.2.2.2.1 i hi
        exact ⟨ln1 _ (by omega), ln1 _ (by omega), ln1 _ (by omega)⟩
    have hrg : app (kd p1) (ar p1) (cn p1) w → 1 ≤ wl u p1 (cn p1) (ch p1) w ∧ wl u p1 (cn p1) (ch p1) w ≤ 1000 := fun ha => by
      have z := wl_range W hp hl1 hB1 hw ha
      rwa [hwl ha] at z
    obtain ⟨L, eL, hL, i1, i2⟩ := hI
    refine ab_aload_n X 2 d_MO_choose_57 rfl rfl ?_
    refine ab_iload_n X 3 d_MO_choose_58 rfl rfl ?_
    refine ab_iload X 0 d_MO_choose_59 rfl ?_
    refine ab_callV (as := [ab_I (nI p1), ab_I (nI w)]) X (fun h => by cases h) (s_MO_tries u1 P kd ar cn lf ch W (T.fr P1 (by decide) (by decide) (by decide) (by decide) (by decide)) p1 w P1.1 hp hw hl1 hB1) lk_MO_228 d_MO_choose_61 rfl rfl (by first | assumption | decide | (show _ < 124; omega) | (show _ < 61; omega) | (show _ < 20; omega)) ⟨by first | exact Nat.le_of_ble_eq_true rfl | (simp only [ab_rm]; omega), by first | exact Nat.le_of_ble_eq_true rfl | (simp only [ab_rm]; omega)⟩ ⟨by first | exact Nat.le_of_ble_eq_true rfl | (simp only [ab_rm]; omega), by first | exact Nat.le_of_ble_eq_true rfl | (simp only [ab_rm]; omega)⟩ (Nat.le_of_ble_eq_true rfl) (fun u61 r61 h61 => ?_)
    obtain ⟨q61, b61, hb61, rfl⟩ := h61
    have P61 := P1.trans q61 (by decide)
    have F61 : cF u u61 (3 * p1 + j) := ⟨P61, fun g hg => ⟨(q61.ai (by decide) rfl).trans (hF.2 g hg).1, (q61.ai (by decide) rfl).trans (hF.2 g hg).2⟩⟩
    have eL61 : u61.1 18 6 (3 * p1 + j) = nI L := q61.ai (by decide) eL
    refine ab_if_eq X 134 d_MO_choose_64 rfl (fun h64 => ?_) (fun h64 => ?_)
    ·
      have na : ¬ app (kd p1) (ar p1) (cn p1) w := by
        rcases hb61 with ⟨z, -⟩ | ⟨-, z⟩
        · exact absurd (z.symm.trans h64) (by decide)
        · exact z
      first | exact nx _ F61 ⟨L, eL61, hL, fun x hx ax => hx.elim (fun z => i1 x z ax) (fun z => absurd (z ▸ ax) na), i2.imp (fun z => ⟨z.1, fun x hx => hx.elim (fun y => z.2 x y) (fun y => y ▸ na)⟩) (fun ⟨x, z1, z2, z3, z4⟩ => ⟨x, Or.inl z1, z2, z3, q61.ai (by decide) z4⟩)⟩ | exact nx _ ⟨P61, fun g hg => by rw [e133, e125, e115]; simpa [ab_up, hg] using F61.2 g hg⟩ ⟨wl u p1 (cn p1) (ch p1) w, by rw [e133, e125, e115]; simp [ab_up], by omega, fun x hx ax => hx.elim (fun z => by have := i1 x z ax; omega) (fun z => by rw [z]; exact Nat.le_refl _), Or.inr ⟨w, Or.inr rfl, ha, rfl, by rw [e133]; simp [ab_up]⟩⟩ | exact nx _ F61 ⟨L, eL61, hL, fun x hx ax => hx.elim (fun z => i1 x z ax) (fun z => by rw [z]; omega), Or.inr (by rcases i2 with z | ⟨x, z1, z2, z3, z4⟩; (have y := z.1; exfalso; omega); exact ⟨x, Or.inl z1, z2, z3, q61.ai (by decide) z4⟩)⟩
    ·
      obtain ⟨ha, et⟩ : app (kd p1) (ar p1) (cn p1) w ∧ u61.1 17 0 18 = nI (wl u p1 (cn p1) (ch p1) w) := by
        rcases hb61 with ⟨-, z1, z2⟩ | ⟨z, -⟩
        · exact ⟨z1, by rw [← hwl z1]; exact z2⟩
        · exact absurd z h64
      have rg := hrg ha
      refine ab_aload_n X 2 d_MO_choose_67 rfl rfl ?_
      refine ab_gI X fl_MO_66 d_MO_choose_68 (by first | assumption | decide | (show _ < 124; omega) | (show _ < 61; omega) | (show _ < 20; omega)) (et) ?_
      refine ab_aload_n X 2 d_MO_choose_71 rfl rfl ?_
      refine ab_gR X fl_MO_48 d_MO_choose_72 (by first | assumption | decide | (show _ < 124; omega) | (show _ < 61; omega) | (show _ < 20; omega)) (P61.1.mo12) ?_
      refine ab_iload_n X 4 d_MO_choose_75 rfl rfl ?_
      refine ab_iald X (3 * p1 + j) ⟨rfl, rfl⟩ d_MO_choose_76 (by first | assumption | decide | (show _ < 124; omega) | (show _ < 61; omega) | (show _ < 20; omega)) (rfl) (show 3 * p1 + j < 72 by omega) (ab_ln_lt _ _) ?_
      refine ab_top eL61 ?_
      refine ab_icmp_lt X 106 d_MO_choose_77 rfl (fun h77 => ?_) (fun h77 => ?_)
      ·
        have cmp : wl u p1 (cn p1) (ch p1) w < L := nI_ltl h77 (by omega)
        refine ab_aload_n X 2 d_MO_choose_106 rfl rfl ?_
        refine ab_gR X fl_MO_48 d_MO_choose_107 (by first | assumption | decide | (show _ < 124; omega) | (show _ < 61; omega) | (show _ < 20; omega)) (P61.1.mo12) ?_
        refine ab_iload_n X 4 d_MO_choose_110 rfl rfl ?_
        refine ab_aload_n X 2 d_MO_choose_111 rfl rfl ?_
        refine ab_gI X fl_MO_66 d_MO_choose_112 (by first | assumption | decide | (show _ < 124; omega) | (show _ < 61; omega) | (show _ < 20; omega)) (et) ?_
        refine ab_iast X (3 * p1 + j) ⟨rfl, rfl⟩ d_MO_choose_115 (by first | assumption | decide | (show _ < 124; omega) | (show _ < 61; omega) | (show _ < 20; omega)) (rfl) (show 3 * p1 + j < 72 by omega) (ab_ln_lt _ _) ?_
        refine ab_gen (fun u115 e115 => ?_)
        have P115 : gP [18, 19, 105, 106, 107] u u115 := by rw [e115]; exact P61.ui rfl (by decide)
        refine ab_aload_n X 2 d_MO_choose_116 rfl rfl ?_
        refine ab_gR X fl_MO_51 d_MO_choose_117 (by first | assumption | decide | (show _ < 124; omega) | (show _ < 61; omega) | (show _ < 20; omega)) (P115.1.mo13) ?_
        refine ab_iload_n X 4 d_MO_choose_120 rfl rfl ?_
        refine ab_aload_n X 2 d_MO_choose_121 rfl rfl ?_
        refine ab_gI X fl_MO_69 d_MO_choose_122 (by first | assumption | decide | (show _ < 124; omega) | (show _ < 61; omega) | (show _ < 20; omega)) (rfl) ?_
        refine ab_iast X (3 * p1 + j) ⟨rfl, rfl⟩ d_MO_choose_125 (by first | assumption | decide | (show _ < 124; omega) | (show _ < 61; omega) | (show _ < 20; omega)) (rfl) (show 3 * p1 + j < 72 by omega) (ab_ln_lt _ _) ?_
        refine ab_gen (fun u125 e125 => ?_)
        have P125 : gP [18, 19, 105, 106, 107] u u125 := by rw [e125]; exact P115.ui rfl (by decide)
        refine ab_aload_n X 2 d_MO_choose_126 rfl rfl ?_
        refine ab_gR X fl_MO_45 d_MO_choose_127 (by first | assumption | decide | (show _ < 124; omega) | (show _ < 61; omega) | (show _ < 20; omega)) (P125.1.mo11) ?_
        refine ab_iload_n X 4 d_MO_choose_130 rfl rfl ?_
        refine ab_iload X 0 d_MO_choose_131 rfl ?_
        refine ab_iast X (3 * p1 + j) ⟨rfl, rfl⟩ d_MO_choose_133 (by first | assumption | decide | (show _ < 124; omega) | (show _ < 61; omega) | (show _ < 20; omega)) (rfl) (show 3 * p1 + j < 72 by omega) (ab_ln_lt _ _) ?_
        refine ab_gen (fun u133 e133 => ?_)
        have P133 : gP [18, 19, 105, 106, 107] u u133 := by rw [e133]; exact P125.ui rfl (by decide)
        first | exact nx _ F61 ⟨L, eL61, hL, fun x hx ax => hx.elim (fun z => i1 x z ax) (fun z => absurd (z ▸ ax) na), i2.imp (fun z => ⟨z.1, fun x hx => hx.elim (fun y => z.2 x y) (fun y => y ▸ na)⟩) (fun ⟨x, z1, z2, z3, z4⟩ => ⟨x, Or.inl z1, z2, z3, q61.ai (by decide) z4⟩)⟩ | exact nx _ ⟨P133, fun g hg => by rw [e133, e125, e115]; simpa [ab_up, hg] using F61.2 g hg⟩ ⟨wl u p1 (cn p1) (ch p1) w, by rw [e133, e125, e115]; simp [ab_up], by omega, fun x hx ax => hx.elim (fun z => by have := i1 x z ax; omega) (fun z => by rw [z]; exact Nat.le_refl _), Or.inr ⟨w, Or.inr rfl, ha, rfl, by rw [e133]; simp [ab_up]⟩⟩ | exact nx _ F61 ⟨L, eL61, hL, fun x hx ax => hx.elim (fun z => i1 x z ax) (fun z => by rw [z]; omega), Or.inr (by rcases i2 with z | ⟨x, z1, z2, z3, z4⟩; (have y := z.1; exfalso; omega); exact ⟨x, Or.inl z1, z2, z3, q61.ai (by decide) z4⟩)⟩
      ·
        have cmp : L ≤ wl u p1 (cn p1) (ch p1) w := Nat.le_of_not_lt (fun z => h77 (nI_lt z (by omega)))
        refine ab_aload_n X 2 d_MO_choose_80 rfl rfl ?_
        refine ab_gI X fl_MO_66 d_MO_choose_81 (by first | assumption | decide | (show _ < 124; omega) | (show _ < 61; omega) | (show _ < 20; omega)) (et) ?_
        refine ab_aload_n X 2 d_MO_choose_84 rfl rfl ?_
        refine ab_gR X fl_MO_48 d_MO_choose_85 (by first | assumption | decide | (show _ < 124; omega) | (show _ < 61; omega) | (show _ < 20; omega)) (P61.1.mo12) ?_
        refine ab_iload_n X 4 d_MO_choose_88 rfl rfl ?_
        refine ab_iald X (3 * p1 + j) ⟨rfl, rfl⟩ d_MO_choose_89 (by first | assumption | decide | (show _ < 124; omega) | (show _ < 61; omega) | (show _ < 20; omega)) (rfl) (show 3 * p1 + j < 72 by omega) (ab_ln_lt _ _) ?_
        refine ab_top eL61 ?_
        refine ab_icmp_ne X 134 d_MO_choose_90 rfl (fun h90 => ?_) (fun h90 => ?_)
        ·
          first | exact nx _ F61 ⟨L, eL61, hL, fun x hx ax => hx.elim (fun z => i1 x z ax) (fun z => absurd (z ▸ ax) na), i2.imp (fun z => ⟨z.1, fun x hx => hx.elim (fun y => z.2 x y) (fun y => y ▸ na)⟩) (fun ⟨x, z1, z2, z3, z4⟩ => ⟨x, Or.inl z1, z2, z3, q61.ai (by decide) z4⟩)⟩ | exact nx _ ⟨P61, fun g hg => by rw [e133, e125, e115]; simpa [ab_up, hg] using F61.2 g hg⟩ ⟨wl u p1 (cn p1) (ch p1) w, by rw [e133, e125, e115]; simp [ab_up], by omega, fun x hx ax => hx.elim (fun z => by have := i1 x z ax; omega) (fun z => by rw [z]; exact Nat.le_refl _), Or.inr ⟨w, Or.inr rfl, ha, rfl, by rw [e133]; simp [ab_up]⟩⟩ | exact nx _ F61 ⟨L, eL61, hL, fun x hx ax => hx.elim (fun z => i1 x z ax) (fun z => by rw [z]; omega), Or.inr (by rcases i2 with z | ⟨x, z1, z2, z3, z4⟩; (have y := z.1; exfalso; omega); exact ⟨x, Or.inl z1, z2, z3, q61.ai (by decide) z4⟩)⟩
        ·
          have ceq : wl u p1 (cn p1) (ch p1) w = L := (nI_eq (by omega) (by omega)).mp h90
          refine ab_aload_n X 2 d_MO_choose_93 rfl rfl ?_
          refine ab_gI X fl_MO_69 d_MO_choose_94 (by first | assumption | decide | (show _ < 124; omega) | (show _ < 61; omega) | (show _ < 20; omega)) (rfl) ?_
          refine ab_aload_n X 2 d_MO_choose_97 rfl rfl ?_
          refine ab_gR X fl_MO_51 d_MO_choose_98 (by first | assumption | decide | (show _ < 124; omega) | (show _ < 61; omega) | (show _ < 20; omega)) (P61.1.mo13) ?_
          refine ab_iload_n X 4 d_MO_choose_101 rfl rfl ?_
          refine ab_iald X (3 * p1 + j) ⟨rfl, rfl⟩ d_MO_choose_102 (by first | assumption | decide | (show _ < 124; omega) | (show _ < 61; omega) | (show _ < 20; omega)) (rfl) (show 3 * p1 + j < 72 by omega) (ab_ln_lt _ _) ?_
          refine ab_icmp_ge X 134 d_MO_choose_103 rfl (fun h103 => ?_) (fun h103 => ?_)
          ·
            first | exact nx _ F61 ⟨L, eL61, hL, fun x hx ax => hx.elim (fun z => i1 x z ax) (fun z => absurd (z ▸ ax) na), i2.imp (fun z => ⟨z.1, fun x hx => hx.elim (fun y => z.2 x y) (fun y => y ▸ na)⟩) (fun ⟨x, z1, z2, z3, z4⟩ => ⟨x, Or.inl z1, z2, z3, q61.ai (by decide) z4⟩)⟩ | exact nx _ ⟨P61, fun g hg => by rw [e133, e125, e115]; simpa [ab_up, hg] using F61.2 g hg⟩ ⟨wl u p1 (cn p1) (ch p1) w, by rw [e133, e125, e115]; simp [ab_up], by omega, fun x hx ax => hx.elim (fun z => by have := i1 x z ax; omega) (fun z => by rw [z]; exact Nat.le_refl _), Or.inr ⟨w, Or.inr rfl, ha, rfl, by rw [e133]; simp [ab_up]⟩⟩ | exact nx _ F61 ⟨L, eL61, hL, fun x hx ax => hx.elim (fun z => i1 x z ax) (fun z => by rw [z]; omega), Or.inr (by rcases i2 with z | ⟨x, z1, z2, z3, z4⟩; (have y := z.1; exfalso; omega); exact ⟨x, Or.inl z1, z2, z3, q61.ai (by decide) z4⟩)⟩
          ·
            refine ab_aload_n X 2 d_MO_choose_106 rfl rfl ?_
            refine ab_gR X fl_MO_48 d_MO_choose_107 (by first | assumption | decide | (show _ < 124; omega) | (show _ < 61; omega) | (show _ < 20; omega)) (P61.1.mo12) ?_
            refine ab_iload_n X 4 d_MO_choose_110 rfl rfl ?_
            refine ab_aload_n X 2 d_MO_choose_111 rfl rfl ?_
            refine ab_gI X fl_MO_66 d_MO_choose_112 (by first | assumption | decide | (show _ < 124; omega) | (show _ < 61; omega) | (show _ < 20; omega)) (et) ?_
            refine ab_iast X (3 * p1 + j) ⟨rfl, rfl⟩ d_MO_choose_115 (by first | assumption | decide | (show _ < 124; omega) | (show _ < 61; omega) | (show _ < 20; omega)) (rfl) (show 3 * p1 + j < 72 by omega) (ab_ln_lt _ _) ?_
            refine ab_gen (fun u115 e115 => ?_)
            have P115 : gP [18, 19, 105, 106, 107] u u115 := by rw [e115]; exact P61.ui rfl (by decide)
            refine ab_aload_n X 2 d_MO_choose_116 rfl rfl ?_
            refine ab_gR X fl_MO_51 d_MO_choose_117 (by first | assumption | decide | (show _ < 124; omega) | (show _ < 61; omega) | (show _ < 20; omega)) (P115.1.mo13) ?_
            refine ab_iload_n X 4 d_MO_choose_120 rfl rfl ?_
            refine ab_aload_n X 2 d_MO_choose_121 rfl rfl ?_
            refine ab_gI X fl_MO_69 d_MO_choose_122 (by first | assumption | decide | (show _ < 124; omega) | (show _ < 61; omega) | (show _ < 20; omega)) (rfl) ?_
            refine ab_iast X (3 * p1 + j) ⟨rfl, rfl⟩ d_MO_choose_125 (by first | assumption | decide | (show _ < 124; omega) | (show _ < 61; omega) | (show _ < 20; omega)) (rfl) (show 3 * p1 + j < 72 by omega) (ab_ln_lt _ _) ?_
            refine ab_gen (fun u125 e125 => ?_)
            have P125 : gP [18, 19, 105, 106, 107] u u125 := by rw [e125]; exact P115.ui rfl (by decide)
            refine ab_aload_n X 2 d_MO_choose_126 rfl rfl ?_
            refine ab_gR X fl_MO_45 d_MO_choose_127 (by first | assumption | decide | (show _ < 124; omega) | (show _ < 61; omega) | (show _ < 20; omega)) (P125.1.mo11) ?_
            refine ab_iload_n X 4 d_MO_choose_130 rfl rfl ?_
            refine ab_iload X 0 d_MO_choose_131 rfl ?_
            refine ab_iast X (3 * p1 + j) ⟨rfl, rfl⟩ d_MO_choose_133 (by first | assumption | decide | (show _ < 124; omega) | (show _ < 61; omega) | (show _ < 20; omega)) (rfl) (show 3 * p1 + j < 72 by omega) (ab_ln_lt _ _) ?_
            refine ab_gen (fun u133 e133 => ?_)
            have P133 : gP [18, 19, 105, 106, 107] u u133 := by rw [e133]; exact P125.ui rfl (by decide)
            first | exact nx _ F61 ⟨L, eL61, hL, fun x hx ax => hx.elim (fun z => i1 x z ax) (fun z => absurd (z ▸ ax) na), i2.imp (fun z => ⟨z.1, fun x hx => hx.elim (fun y => z.2 x y) (fun y => y ▸ na)⟩) (fun ⟨x, z1, z2, z3, z4⟩ => ⟨x, Or.inl z1, z2, z3, q61.ai (by decide) z4⟩)⟩ | exact nx _ ⟨P133, fun g hg => by rw [e133, e125, e115]; simpa [ab_up, hg] using F61.2 g hg⟩ ⟨wl u p1 (cn p1) (ch p1) w, by rw [e133, e125, e115]; simp [ab_up], by omega, fun x hx ax => hx.elim (fun z => by have := i1 x z ax; omega) (fun z => by rw [z]; exact Nat.le_refl _), Or.inr ⟨w, Or.inr rfl, ha, rfl, by rw [e133]; simp [ab_up]⟩⟩ | exact nx _ F61 ⟨L, eL61, hL, fun x hx ax => hx.elim (fun z => i1 x z ax) (fun z => by rw [z]; omega), Or.inr (by rcases i2 with z | ⟨x, z1, z2, z3, z4⟩; (have y := z.1; exfalso; omega); exact ⟨x, Or.inl z1, z2, z3, q61.ai (by decide) z4⟩)⟩
  have in1 : ∀ (k w : Nat) (u1 : ab_S), w + k = rd + 1 → rc ≤ w → cF u u1 (3 * p1 + j) → chI u u1 p1 (cn p1) (ar p1) (kd p1) (ch p1) (3 * p1 + j) (fun x => (ra ≤ x ∧ x ≤ rb) ∨ (rc ≤ x ∧ x < w)) → ab_J p l e (ab_rm 4 0 0) s m args below meth c (MQ below (ab_Q D ca ad ab_nQ s.heap.size (fun u' v => (cF u u' (3 * p1 + j) ∧ chI u u' p1 (cn p1) (ar p1) (kd p1) (ch p1) (3 * p1 + j) (fun w => (ra ≤ w ∧ w ≤ rb) ∨ (rc ≤ w ∧ w ≤ rd))) ∧ v = none)) args s 0 0 (ab_A ad ab_nQ s.heap.size)) D ca (ab_A ad ab_nQ s.heap.size) s.heap 9 0 0 ad ab_nQ u1 40 [(8, ab_I (nI w)), (7, ab_I (nI 1)), (0, ab_O 17 0), (1, ab_I (nI p1)), (2, ab_I (nI (3 * p1 + j))), (3, ab_I (nI ra)), (4, ab_I (nI rb)), (5, ab_I (nI rc)), (6, ab_I (nI rd))] [] := by
    intro k
    induction k with
    | zero =>
      intro w u1 hk hc hF hI
      have P1 := hF.1
      refine ab_iload X 0 d_MO_choose_40 rfl ?_
      refine ab_iload X 1 d_MO_choose_42 rfl ?_
      refine ab_if_ne X 52 d_MO_choose_44 rfl (fun _ => ?_) (fun hb => absurd hb ((by decide)))
      refine ab_iload X 8 d_MO_choose_52 rfl ?_
      refine ab_icmp_gt X 140 d_MO_choose_54 rfl (fun _ => ?_) (fun hb => absurd ((nI_lt (by omega) (by omega))) hb)
      refine ab_iinc8 X 1 0 2 3 4 5 6 7 8 d_MO_choose_140 rfl (by decide) rfl rfl rfl rfl rfl rfl rfl rfl rfl rfl rfl rfl rfl rfl rfl rfl ?_
      refine ab_goto X 21 d_MO_choose_143 rfl ?_
      refine ab_iload X 0 d_MO_choose_21 rfl ?_
      refine ab_iconst (v := 2) X d_MO_choose_23 (by decide) ?_
      refine ab_icmp_ge X 146 d_MO_choose_24 rfl (fun _ => ?_) (fun hb => absurd ((by decide)) hb)
      exact ab_retv X hr0 hlk d_MO_choose_146 ⟨⟨hF, by rwa [show w = rd + 1 by omega, show (fun x => (ra ≤ x ∧ x ≤ rb) ∨ (rc ≤ x ∧ x < rd + 1)) = (fun x => (ra ≤ x ∧ x ≤ rb) ∨ (rc ≤ x ∧ x ≤ rd)) from funext fun x => propext (by omega)] at hI⟩, rfl⟩
    | succ k ih =>
      intro w u1 hk hc hF hI
      have P1 := hF.1
      have hw := hr w (Or.inr ⟨hc, by omega⟩)
      refine ab_iload X 0 d_MO_choose_40 rfl ?_
      refine ab_iload X 1 d_MO_choose_42 rfl ?_
      refine ab_if_ne X 52 d_MO_choose_44 rfl (fun _ => ?_) (fun hb => absurd hb ((by decide)))
      refine ab_iload X 8 d_MO_choose_52 rfl ?_
      refine ab_icmp_gt X 140 d_MO_choose_54 rfl (fun hb => absurd hb ((nI_nlt (by omega) (by omega)))) (fun _ => ?_)
      refine body 1 w _ _ hF hI hw.1 hw.2 (fun u2 F2 I2 => ?_)
      have P2 := F2.1
      refine ab_iinc8 X 0 1 2 3 4 5 6 7 8 d_MO_choose_134 rfl (by decide) rfl rfl rfl rfl rfl rfl rfl rfl rfl rfl rfl rfl rfl rfl rfl rfl ?_
      refine ab_goto X 40 d_MO_choose_137 rfl ?_
      rw [show nI w + Int32.ofInt 1 = nI (w + 1) from nI_1 w]
      exact ih (w + 1) _ (by omega) (by omega) F2 (by rwa [show (fun x => ((ra ≤ x ∧ x ≤ rb) ∨ (rc ≤ x ∧ x < w)) ∨ x = w) = (fun x => (ra ≤ x ∧ x ≤ rb) ∨ (rc ≤ x ∧ x < w + 1)) from funext fun x => propext (by omega)] at I2)
  have in0 : ∀ (k w : Nat) (u1 : ab_S), w + k = rb + 1 → ra ≤ w → cF u u1 (3 * p1 + j) → chI u u1 p1 (cn p1) (ar p1) (kd p1) (ch p1) (3 * p1 + j) (fun x => ra ≤ x ∧ x < w) → ab_J p l e (ab_rm 4 0 0) s m args below meth c (MQ below (ab_Q D ca ad ab_nQ s.heap.size (fun u' v => (cF u u' (3 * p1 + j) ∧ chI u u' p1 (cn p1) (ar p1) (kd p1) (ch p1) (3 * p1 + j) (fun w => (ra ≤ w ∧ w ≤ rb) ∨ (rc ≤ w ∧ w ≤ rd))) ∧ v = none)) args s 0 0 (ab_A ad ab_nQ s.heap.size)) D ca (ab_A ad ab_nQ s.heap.size) s.heap 9 0 0 ad ab_nQ u1 40 [(8, ab_I (nI w)), (7, ab_I (nI 0)), (0, ab_O 17 0), (1, ab_I (nI p1)), (2, ab_I (nI (3 * p1 + j))), (3, ab_I (nI ra)), (4, ab_I (nI rb)), (5, ab_I (nI rc)), (6, ab_I (nI rd))] [] := by
    intro k
    induction k with
    | zero =>
      intro w u1 hk hc hF hI
      have P1 := hF.1
      refine ab_iload X 0 d_MO_choose_40 rfl ?_
      refine ab_iload X 1 d_MO_choose_42 rfl ?_
      refine ab_if_ne X 52 d_MO_choose_44 rfl (fun hb => absurd ((by decide)) hb) (fun _ => ?_)
      refine ab_iload X 6 d_MO_choose_47 rfl ?_
      refine ab_goto X 54 d_MO_choose_49 rfl ?_
      refine ab_icmp_gt X 140 d_MO_choose_54 rfl (fun _ => ?_) (fun hb => absurd ((nI_lt (by omega) (by omega))) hb)
      refine ab_iinc8 X 1 0 2 3 4 5 6 7 8 d_MO_choose_140 rfl (by decide) rfl rfl rfl rfl rfl rfl rfl rfl rfl rfl rfl rfl rfl rfl rfl rfl ?_
      refine ab_goto X 21 d_MO_choose_143 rfl ?_
      refine ab_iload X 0 d_MO_choose_21 rfl ?_
      refine ab_iconst (v := 2) X d_MO_choose_23 (by decide) ?_
      refine ab_icmp_ge X 146 d_MO_choose_24 rfl (fun hb => absurd hb ((by decide))) (fun _ => ?_)
      refine ab_iload X 0 d_MO_choose_27 rfl ?_
      refine ab_if_ne X 36 d_MO_choose_29 rfl (fun _ => ?_) (fun hb => absurd hb ((by decide)))
      refine ab_iload X 7 d_MO_choose_36 rfl ?_
      refine ab_istore8 X 0 2 3 4 5 6 7 8 d_MO_choose_38 (by decide) rfl rfl rfl rfl rfl rfl rfl rfl rfl rfl rfl rfl rfl rfl rfl rfl ?_
      exact in1 (rd + 1 - rc) rc _ (by omega) (by omega) hF (by rwa [show w = rb + 1 by omega, show (fun x => ra ≤ x ∧ x < rb + 1) = (fun x => (ra ≤ x ∧ x ≤ rb) ∨ (rc ≤ x ∧ x < rc)) from funext fun x => propext (by omega)] at hI)
    | succ k ih =>
      intro w u1 hk hc hF hI
      have P1 := hF.1
      have hw := hr w (Or.inl ⟨hc, by omega⟩)
      refine ab_iload X 0 d_MO_choose_40 rfl ?_
      refine ab_iload X 1 d_MO_choose_42 rfl ?_
      refine ab_if_ne X 52 d_MO_choose_44 rfl (fun hb => absurd ((by decide)) hb) (fun _ => ?_)
      refine ab_iload X 6 d_MO_choose_47 rfl ?_
      refine ab_goto X 54 d_MO_choose_49 rfl ?_
      refine ab_icmp_gt X 140 d_MO_choose_54 rfl (fun hb => absurd hb ((nI_nlt (by omega) (by omega)))) (fun _ => ?_)
      refine body 0 w _ _ hF hI hw.1 hw.2 (fun u2 F2 I2 => ?_)
      have P2 := F2.1
      refine ab_iinc8 X 0 1 2 3 4 5 6 7 8 d_MO_choose_134 rfl (by decide) rfl rfl rfl rfl rfl rfl rfl rfl rfl rfl rfl rfl rfl rfl rfl rfl ?_
      refine ab_goto X 40 d_MO_choose_137 rfl ?_
      rw [show nI w + Int32.ofInt 1 = nI (w + 1) from nI_1 w]
      exact ih (w + 1) _ (by omega) (by omega) F2 (by rwa [show (fun x => (ra ≤ x ∧ x < w) ∨ x = w) = (fun x => ra ≤ x ∧ x < w + 1) from funext fun x => propext (by omega)] at I2)
  refine ab_aload_n X 0 d_MO_choose_0 rfl rfl ?_
  refine ab_gR X fl_MO_48 d_MO_choose_1 (by first | assumption | decide | (show _ < 124; omega) | (show _ < 61; omega) | (show _ < 20; omega)) (P0.1.mo12) ?_
  refine ab_iload_n X 2 d_MO_choose_4 rfl rfl ?_
  refine ab_sipush (v := 10000) X d_MO_choose_5 (by decide) ?_
  refine ab_iast X (3 * p1 + j) ⟨rfl, rfl⟩ d_MO_choose_8 (by first | assumption | decide | (show _ < 124; omega) | (show _ < 61; omega) | (show _ < 20; omega)) (rfl) (show 3 * p1 + j < 72 by omega) (ab_ln_lt _ _) ?_
  refine ab_gen (fun u8 e8 => ?_)
  have P8 : gP [18, 19, 105, 106, 107] u u8 := by rw [e8]; exact P0.ui rfl (by decide)
  refine ab_aload_n X 0 d_MO_choose_9 rfl rfl ?_
  refine ab_gR X fl_MO_51 d_MO_choose_10 (by first | assumption | decide | (show _ < 124; omega) | (show _ < 61; omega) | (show _ < 20; omega)) (P8.1.mo13) ?_
  refine ab_iload_n X 2 d_MO_choose_13 rfl rfl ?_
  refine ab_sipush (v := 10000) X d_MO_choose_14 (by decide) ?_
  refine ab_iast X (3 * p1 + j) ⟨rfl, rfl⟩ d_MO_choose_17 (by first | assumption | decide | (show _ < 124; omega) | (show _ < 61; omega) | (show _ < 20; omega)) (rfl) (show 3 * p1 + j < 72 by omega) (ab_ln_lt _ _) ?_
  refine ab_gen (fun u17 e17 => ?_)
  have P17 : gP [18, 19, 105, 106, 107] u u17 := by rw [e17]; exact P8.ui rfl (by decide)
  refine ab_iconst (v := 0) X d_MO_choose_18 (by decide) ?_
  refine ab_istore7 X 0 1 2 3 4 5 6 d_MO_choose_19 (by decide) rfl rfl rfl rfl rfl rfl rfl rfl rfl rfl rfl rfl rfl rfl ?_
  refine ab_iload X 0 d_MO_choose_21 rfl ?_
  refine ab_iconst (v := 2) X d_MO_choose_23 (by decide) ?_
  refine ab_icmp_ge X 146 d_MO_choose_24 rfl (fun hb => absurd hb ((by decide))) (fun _ => ?_)
  refine ab_iload X 0 d_MO_choose_27 rfl ?_
  refine ab_if_ne X 36 d_MO_choose_29 rfl (fun hb => absurd (rfl) hb) (fun _ => ?_)
  refine ab_iload_n X 4 d_MO_choose_32 rfl rfl ?_
  refine ab_goto X 38 d_MO_choose_33 rfl ?_
  refine ab_istore8 X 0 1 2 3 4 5 6 7 d_MO_choose_38 (by decide) rfl rfl rfl rfl rfl rfl rfl rfl rfl rfl rfl rfl rfl rfl rfl rfl ?_
  exact in0 (rb + 1 - ra) ra _ (by omega) (by omega) ⟨P17, fun g hg => by rw [e17, e8]; simp [ab_up, hg]⟩ ⟨10000, by rw [e17, e8]; simp [ab_up]; rfl, Nat.le_refl _, fun x hx => absurd hx (by omega), Or.inl ⟨rfl, fun x hx => absurd hx (by omega)⟩⟩
end SaMChoose

