/-! The class's reader: parts in parts. -/
def ck (k : Nat) : Nat := if k < 5 then k else k + 1
def cnu (k a : Nat) : Nat := if k = 5 then 2 else if k = 6 then 1 else a
theorem ck_kd : ∀ j, j < 7 → ab_kinds j = nI (ck (j + 1)) := by decide +kernel
/-- one part of the class's, as the tables say -/
def pm (kd ar cn : Nat → Nat) (ch : Nat → Nat → Nat) (p : Nat) (u : ab_S) : Prop := u.1 2 (p + 1) 4 = nI (ck (kd p)) ∧ u.1 2 (p + 1) 5 = nI (cnu (kd p) (ar p)) ∧ u.1 2 (p + 1) 6 = nI (cn p) ∧ ∀ i, i < cn p → u.2.1 10 (p + 1) i = some (2, ch p i + 1)
/-- one part is as it was -/
def kq (p : Nat) (u u' : ab_S) : Prop := (∀ k, k = 4 ∨ k = 5 ∨ k = 6 → u'.1 2 (p + 1) k = u.1 2 (p + 1) k) ∧ ∀ i, u'.2.1 10 (p + 1) i = u.2.1 10 (p + 1) i
theorem kq.trans {p : Nat} {a b c : ab_S} (h : kq p a b) (g : kq p b c) : kq p a c := ⟨fun k z => (g.1 k z).trans (h.1 k z), fun i => (g.2 i).trans (h.2 i)⟩
theorem kq.rf {p : Nat} {a : ab_S} : kq p a a := ⟨fun _ _ => rfl, fun _ => rfl⟩
theorem pm.kq {kd ar cn kd' ar' cn' : Nat → Nat} {ch ch' : Nat → Nat → Nat} {p : Nat} {u u' : ab_S} (h : pm kd ar cn ch p u) (g : kq p u u') (e1 : kd' p = kd p) (e2 : ar' p = ar p) (e3 : cn' p = cn p) (e4 : ∀ i, ch' p i = ch p i) : pm kd' ar' cn' ch' p u' := by
  obtain ⟨a, b, c, d⟩ := h
  refine ⟨?_, ?_, ?_, fun i hi => ?_⟩
  · rw [g.1 4 (by omega), e1]; exact a
  · rw [g.1 5 (by omega), e1, e2]; exact b
  · rw [g.1 6 (by omega), e3]; exact c
  · rw [g.2, e4]; exact d i (by omega)
/-- the reader's cells -/
def rdI (T : Nat → Int32) (t : Nat) (q M : Nat) (kd : Nat → Nat) (u : ab_S) : Prop := CI u ∧ u.1 1 0 3 = nI t ∧ (∀ k, k < t → u.1 11 0 k = T k) ∧ u.1 1 0 4 = nI q ∧ q ≤ t ∧ u.1 1 0 7 = nI (mn M) ∧ u.1 1 0 6 = nI (lcn kd M) ∧ lcn kd M ≤ 10
theorem rdI.cp {T : Nat → Int32} {t q M : Nat} {kd : Nat → Nat} {u u' : ab_S} (h : rdI T t q M kd u) (g : cP [2, 10] u u') : rdI T t q M kd u' := by
  obtain ⟨-, a, b, c, d, e, f, i⟩ := h
  exact ⟨g.1, g.ii (by decide) a, fun k hk => g.ii (by decide) (b k hk), g.ii (by decide) c, d, g.ii (by decide) e, g.ii (by decide) f, i⟩
theorem rdI.at {T : Nat → Int32} {t q q' M : Nat} {kd : Nat → Nat} {u u' : ab_S} (h : rdI T t q M kd u) (e : u' = ab_ui u 1 0 4 (nI q')) (hq : q' ≤ t) (g : CI u') : rdI T t q' M kd u' := by
  obtain ⟨-, a, b, c, d, e2, f, i⟩ := h
  have n : ∀ c i k, ¬ (c = 1 ∧ k = 4) → u'.1 c i k = u.1 c i k := fun c i k z => by rw [e]; exact ui_n _ (by omega)
  exact ⟨g, (n _ _ _ (by omega)).trans a, fun k hk => (n _ _ _ (by omega)).trans (b k hk), gv e, hq, (n _ _ _ (by omega)).trans e2, (n _ _ _ (by omega)).trans f, i⟩
/-- the parts from o on are as the tables say; those before are as they were -/
def rdT (o M : Nat) (kd ar cn : Nat → Nat) (ch : Nat → Nat → Nat) (u u' : ab_S) : Prop := M ≤ 19 → (∀ p, o ≤ p → p < M → pm kd ar cn ch p u') ∧ ∀ p, p < o → kq p u u'
/-- a part in a part has been read, and is joined -/
theorem rdT.join {o M M2 O : Nat} {kd ar cn op kd2 ar2 cn2 : Nat → Nat} {op2 : Nat → Nat} {ch ch2 : Nat → Nat → Nat} {u u1 u2 u3 : ab_S} (hO : 1 ≤ O) (ho : op (O - 1) = o) (hoM : o < M) (A : rdT o M kd ar cn ch u u1) (F : fT M O kd ar cn op ch M2 O kd2 ar2 cn2 op2 ch2) (B : rdT M M2 kd2 ar2 cn2 ch2 u1 u2) (J : M2 ≤ 19 → pJ u2 u3 (o + 1) (M + 1) (cn o)) : rdT o M2 kd2 ar2 cn2 ch2 u u3 := by
  intro h19
  obtain ⟨-, F1, -, F3⟩ := F
  obtain ⟨A1, A2⟩ := A (by omega)
  obtain ⟨B1, B2⟩ := B h19
  obtain ⟨J1, J2, J3, J4⟩ := J h19
  have q3 : ∀ p, p ≠ o → kq p u2 u3 := fun p hp => ⟨fun k _ => J3 2 (p + 1) k (by omega), fun i => J4 10 (p + 1) i (by omega)⟩
  refine ⟨fun p h1 h2 => ?_, fun p hp => ((A2 p hp).trans (B2 p (by omega))).trans (q3 p (by omega))⟩
  by_cases hp : p < M
  · obtain ⟨f1, f2, f3, f4⟩ := F3 p hp
    unfold c1f at f3
    unfold h1f at f4
    rw [if_pos (by omega), ho] at f3 f4
    by_cases hpo : p = o
    · subst hpo
      obtain ⟨a, b, c, d⟩ := A1 p h1 hp
      have k12 := B2 p hp
      rw [up1_s] at f3
      refine ⟨?_, ?_, ?_, fun i hi => ?_⟩
      · rw [J3 2 (p + 1) 4 (by omega), k12.1 4 (by omega), f1]; exact a
      · rw [J3 2 (p + 1) 5 (by omega), k12.1 5 (by omega), f1, f2]; exact b
      · rw [f3]; exact J1
      · by_cases z : i = cn p
        · subst z
          rw [f4, up2_s]; exact J2
        · rw [J4 10 (p + 1) i (by omega), k12.2, f4, up2_n _ (fun y => z y.2)]; exact d i (by omega)
    · exact (A1 p h1 hp).kq ((B2 p hp).trans (q3 p hpo)) f1 f2 (f3.trans (up1_n _ hpo)) (fun i => (f4 i).trans (up2_n _ (fun y => hpo y.1)))
  · exact (B1 p (by omega) h2).kq (q3 p (by omega)) rfl rfl rfl (fun _ => rfl)
/-- how a branch begins, behind its word -/
def bB (T : Nat → Int32) (t q M O k : Nat) (kd ar cn op : Nat → Nat) (ch : Nat → Nat → Nat) : Option Cf :=
  if k < 7 then some (q, M + 1, O + 1, up1 kd M k, up1 ar M 0, up1 (c1f O cn op) M 0, up1 op O M, h1f O M cn op ch)
  else if ta T t q < 49 ∨ 52 < ta T t q ∨ ta T t (q + 1) ≠ 44 then none
  else some (q + 2, M + 1, O + 1, up1 kd M 7, up1 ar M (dgv 48 (ta T t q)), up1 (c1f O cn op) M 0, up1 op O M, h1f O M cn op ch)
def bE (T : Nat → Int32) (t : Nat) (F : Cf → Option Cf) (c : Option Cf) : Option Cf := match c with
  | none => none
  | some c1 => pK T t F 4 c1
theorem dgv1 {c : Int32} (h1 : ¬ c < nI 49) (h2 : c ≤ nI 57) : dgv 48 c = dgv 49 c + 1 := by
  obtain ⟨a, ha, e⟩ := dg_of (lo := 49) (hi := 57) (by decide) (by decide) h1 h2
  have hc : c = nI (a + 49) := by
    have : c - nI 49 + nI 49 = nI a + nI 49 := by rw [e]
    rwa [Int32.sub_add_cancel, nI_add] at this
  have e49 : dgv 49 c = a := by unfold dgv; rw [e, nI_toInt (by omega)]; rfl
  have e48 : dgv 48 c = a + 1 := by unfold dgv; rw [hc, pk_sub (a := a + 49) (b := 48) (by omega), nI_toInt (by omega)]; show a + 49 - 48 = _; omega
  rw [e48, e49]
/-- after reading: nothing, or the tables -/
def rdP (T : Nat → Int32) (t o : Nat) (E : Option Cf) (v0 v1 : ab_V) (u u' : ab_S) (v : Option ab_V) : Prop := (E = none ∧ cP [1, 2, 10] u u' ∧ v = some v0) ∨ ∃ (q M O : Nat) (kd ar cn op : Nat → Nat) (ch : Nat → Nat → Nat), E = some (q, M, O, kd, ar, cn, op, ch) ∧ cP [1, 2, 10] u u' ∧ rdI T t q M kd u' ∧ rdT o M kd ar cn ch u u' ∧ v = some v1
section SaReadF
variable {l : Launch} {D : va_G} {ca : Nat → ClassId}
set_option maxRecDepth 100000 in
set_option maxHeartbeats 1000000 in
theorem f_RD_readBranches (T : Nat → Int32) (t : Nat) (ht : t ≤ 100) (d : Nat) (y : Int32) (F : Cf → Option Cf) (hF : ∀ c c', F c = some c' → fTc c c') (W : ∀ (u : ab_S) (q M O : Nat) (kd ar cn op : Nat → Nat) (ch : Nat → Nat → Nat), rdI T t q M kd u → ab_C true l D ca y_RD_readPart b_RD_readPart 6 (some (.object "PolicyForge$Part")) d ab_nQ u [ab_O 1 0, ab_I (y + 1)] (rdP T t M (F (q, M, O, kd, ar, cn, op, ch)) (ab_R none) (ab_O 2 (np M)) u)) (u : ab_S) (q0 o O0 k0 : Nat) (kd0 ar0 cn0 op0 : Nat → Nat) (ch0 : Nat → Nat → Nat) (I0 : rdI T t q0 (o + 1) (up1 kd0 o k0) u) (hk5 : 5 ≤ k0) (hk7 : k0 ≤ 7) (x : Int32) (hx : x = nI (ck k0)) (ek : u.1 2 (np o) 4 = x) (en : u.1 2 (np o) 6 = nI 0) (hd : 2 ≤ d) : ab_C true l D ca y_RD_readBranches b_RD_readBranches 8 (some FieldType.boolean) (d + 1) ab_nQ u [ab_O 1 0, ab_O 2 (np o), ab_I x, ab_I y] (rdP T t o (bE T t F (bB T t q0 o O0 k0 kd0 ar0 cn0 op0 ch0)) (ab_I 0) (ab_I 1) u) := by
  have h : CI u := I0.1
  refine ab_C.of (by decide) (Nat.le_of_ble_eq_true rfl) ?_
  intro p e s m args below meth c ad X hZ hr0 hlk
  have P0 : cP [1, 2, 10] u u := cQ.rf h
  have ho20 : np o < 20 := np_lt o
  -- where the number asked for is above four: nothing comes of it
  have dead : ∀ (r j : Nat) (w z : Int32) (q M O : Nat) (kd ar cn op : Nat → Nat) (ch : Nat → Nat → Nat) (u1 : ab_S), r + j = 4 → (w = 2 ∨ w = 4) → (4 : Int32) < z → cP [1, 2, 10] u u1 → rdI T t q M kd u1 → bE T t F (bB T t q0 o O0 k0 kd0 ar0 cn0 op0 ch0) = none → ab_J p l e (ab_rm (d + 1) 0 0) s m args below meth c (MQ below (ab_Q D ca ad ab_nQ s.heap.size (rdP T t o (bE T t F (bB T t q0 o O0 k0 kd0 ar0 cn0 op0 ch0)) (ab_I 0) (ab_I 1) u)) args s 0 0 (ab_A ad ab_nQ s.heap.size)) D ca (ab_A ad ab_nQ s.heap.size) s.heap 8 0 0 ad ab_nQ u1 70 [(6, ab_I (nI j)), (5, ab_I w), (4, ab_I z), (0, ab_O 1 0), (1, ab_O 2 (np o)), (2, ab_I x), (3, ab_I y)] [] := by
    intro r
    induction r with
    | zero =>
      intro j w z q M O kd ar cn op ch u1 hj hw hz P1 I1 hE
      obtain rfl : j = 4 := by omega
      refine ab_iload X 0 d_RD_readBranches_70 rfl ?_
      refine ab_iconst (v := 2) X d_RD_readBranches_72 (by decide) ?_
      refine ab_icmp_lt X 92 d_RD_readBranches_73 rfl (fun hb => absurd hb ((by decide))) (fun _ => ?_)
      refine ab_iload X 0 d_RD_readBranches_76 rfl ?_
      refine ab_iload X 1 d_RD_readBranches_78 rfl ?_
      refine ab_icmp_ge X 136 d_RD_readBranches_80 rfl (fun _ => ?_) (fun hb => absurd ((by rcases hw with rfl | rfl <;> decide)) hb)
      refine ab_iload X 0 d_RD_readBranches_136 rfl ?_
      refine ab_iload X 2 d_RD_readBranches_138 rfl ?_
      refine ab_icmp_ge X 154 d_RD_readBranches_140 rfl (fun hb => absurd hb ((Int32.not_le.mpr hz))) (fun _ => ?_)
      refine ab_aload_n X 3 d_RD_readBranches_143 rfl rfl ?_
      refine ab_aload_n X 3 d_RD_readBranches_144 rfl rfl ?_
      refine ab_gI X fl_RD_30 d_RD_readBranches_145 (by first | assumption | decide | (show _ < 124; omega) | (show _ < 61; omega) | (show _ < 20; omega)) (rfl) ?_
      refine ab_callV (as := [ab_I _]) X (fun h => by cases h) (f_RD_refuse u1 _ P1.1) lk_RD_46 d_RD_readBranches_148 rfl rfl (by first | assumption | decide | (show _ < 124; omega) | (show _ < 61; omega) | (show _ < 20; omega)) ⟨by first | exact Nat.le_of_ble_eq_true rfl | (simp only [ab_rm]; omega), by first | exact Nat.le_of_ble_eq_true rfl | (simp only [ab_rm]; omega)⟩ ⟨by first | exact Nat.le_of_ble_eq_true rfl | (simp only [ab_rm]; omega), by first | exact Nat.le_of_ble_eq_true rfl | (simp only [ab_rm]; omega)⟩ (Nat.le_of_ble_eq_true rfl) (fun u148 r148 h148 => ?_)
      obtain ⟨q148, rfl⟩ := h148
      have P148 := P1.trans q148 (by decide)
      refine ab_goto X 160 d_RD_readBranches_151 rfl ?_
      exact ab_retz X hr0 hlk (Or.inl rfl) d_RD_readBranches_160 (Or.inl ⟨hE, P148, rfl⟩)
    | succ r ih =>
      intro j w z q M O kd ar cn op ch u1 hj hw hz P1 I1 hE
      have hz2 : ¬ z ≤ nI j := Int32.not_le.mpr (Int32.lt_of_le_of_lt (nI_le (b := 4) (by omega) (by decide)) hz)
      have K108 : ∀ (q : Nat) (u2 : ab_S), cP [1, 2, 10] u u2 → rdI T t q M kd u2 → ab_J p l e (ab_rm (d + 1) 0 0) s m args below meth c (MQ below (ab_Q D ca ad ab_nQ s.heap.size (rdP T t o (bE T t F (bB T t q0 o O0 k0 kd0 ar0 cn0 op0 ch0)) (ab_I 0) (ab_I 1) u)) args s 0 0 (ab_A ad ab_nQ s.heap.size)) D ca (ab_A ad ab_nQ s.heap.size) s.heap 8 0 0 ad ab_nQ u2 108 [(6, ab_I (nI j)), (5, ab_I w), (4, ab_I z), (0, ab_O 1 0), (1, ab_O 2 (np o)), (2, ab_I x), (3, ab_I y)] [] := by
        intro q u2 P2 I2
        refine ab_aload_n X 3 d_RD_readBranches_108 rfl rfl ?_
        refine ab_iload_n X 6 d_RD_readBranches_109 rfl rfl ?_
        refine ab_iconst (v := 1) X d_RD_readBranches_110 (by decide) ?_
        refine ab_iadd X d_RD_readBranches_111 ?_
        refine ab_callV (as := [ab_I (y + 1)]) X (fun _ => hZ rfl) (W u2 q M O kd ar cn op ch I2) lk_RD_42 d_RD_readBranches_112 rfl rfl (by first | assumption | decide | (show _ < 124; omega) | (show _ < 61; omega) | (show _ < 20; omega)) ⟨by first | exact Nat.le_of_ble_eq_true rfl | (simp only [ab_rm]; omega), by first | exact Nat.le_of_ble_eq_true rfl | (simp only [ab_rm]; omega)⟩ ⟨by first | exact Nat.le_of_ble_eq_true rfl | (simp only [ab_rm]; omega), by first | exact Nat.le_of_ble_eq_true rfl | (simp only [ab_rm]; omega)⟩ (Nat.le_of_ble_eq_true rfl) (fun u112 r112 h112 => ?_)
        rcases h112 with ⟨f112, q112, rfl⟩ | ⟨q', M', O', kd', ar', cn', op', ch', f112, q112, I112, T112, rfl⟩
        ·
          have P112 := P2.trans q112 (by decide)
          refine ab_astore7 X 0 1 2 3 4 5 6 d_RD_readBranches_115 (by decide) rfl rfl rfl rfl rfl rfl rfl rfl rfl rfl rfl rfl rfl rfl ?_
          refine ab_aload X 0 d_RD_readBranches_117 rfl ?_
          refine ab_ifnonnull X 124 d_RD_readBranches_119 rfl (fun hb => absurd (rfl) hb) (fun _ => ?_)
          refine ab_iconst (v := 0) X d_RD_readBranches_122 (by decide) ?_
          exact ab_retz X hr0 hlk (Or.inl rfl) d_RD_readBranches_123 (Or.inl ⟨hE, P112, rfl⟩)
        ·
          have P112 := P2.trans q112 (by decide)
          refine ab_astore7 X 0 1 2 3 4 5 6 d_RD_readBranches_115 (by decide) rfl rfl rfl rfl rfl rfl rfl rfl rfl rfl rfl rfl rfl rfl ?_
          refine ab_aload X 0 d_RD_readBranches_117 rfl ?_
          refine ab_ifnonnull X 124 d_RD_readBranches_119 rfl (fun _ => ?_) (fun hb => absurd hb ((by intro z; cases z)))
          refine ab_aload_n X 5 d_RD_readBranches_124 rfl rfl ?_
          refine ab_aload X 0 d_RD_readBranches_125 rfl ?_
          refine ab_callV (as := [ab_O 2 (np M)]) X (fun h => by cases h) (s_PT_join u112 (np o) (np M) P112.1 ho20 (np_lt M)) lk_RD_131 d_RD_readBranches_127 rfl rfl (by first | assumption | decide | (show _ < 124; omega) | (show _ < 61; omega) | (show _ < 20; omega)) ⟨by first | exact Nat.le_of_ble_eq_true rfl | (simp only [ab_rm]; omega), by first | exact Nat.le_of_ble_eq_true rfl | (simp only [ab_rm]; omega)⟩ ⟨by first | exact Nat.le_of_ble_eq_true rfl | (simp only [ab_rm]; omega), by first | exact Nat.le_of_ble_eq_true rfl | (simp only [ab_rm]; omega)⟩ (Nat.le_of_ble_eq_true rfl) (fun u127 r127 h127 => ?_)
          obtain ⟨q127, rfl⟩ := h127
          have P127 := P112.trans q127 (by decide)
          refine ab_iinc7 X 1 0 2 3 4 5 6 7 d_RD_readBranches_130 rfl (by decide) rfl rfl rfl rfl rfl rfl rfl rfl rfl rfl rfl rfl rfl rfl ?_
          refine ab_goto X 70 d_RD_readBranches_133 rfl ?_
          refine ab_lv (List.forall_mem_cons.mpr ⟨List.mem_of_getElem? (i := 0) rfl, List.forall_mem_cons.mpr ⟨List.mem_of_getElem? (i := 2) rfl, List.forall_mem_cons.mpr ⟨List.mem_of_getElem? (i := 3) rfl, List.forall_mem_cons.mpr ⟨List.mem_of_getElem? (i := 4) rfl, List.forall_mem_cons.mpr ⟨List.mem_of_getElem? (i := 5) rfl, List.forall_mem_cons.mpr ⟨List.mem_of_getElem? (i := 6) rfl, List.forall_mem_cons.mpr ⟨List.mem_of_getElem? (i := 7) rfl, fun _ h => absurd h List.not_mem_nil⟩⟩⟩⟩⟩⟩⟩) ?_
          rw [show nI j + Int32.ofInt 1 = nI (j + 1) from nI_1 j]
          exact ih (j + 1) w z _ _ O' _ ar' cn' op' ch' _ (by omega) hw hz P127 (I112.cp q127) hE
      have I1' := I1
      obtain ⟨-, eL, hT, ea, hq, -⟩ := I1
      refine ab_iload X 0 d_RD_readBranches_70 rfl ?_
      refine ab_iconst (v := 2) X d_RD_readBranches_72 (by decide) ?_
      refine ab_icmp_lt X 92 d_RD_readBranches_73 rfl (fun h73 => ?_) (fun h73 => ?_)
      ·
        refine ab_iload X 0 d_RD_readBranches_92 rfl ?_
        refine ab_if_le X 108 d_RD_readBranches_94 rfl (fun h94 => ?_) (fun h94 => ?_)
        ·
          first | exact K108 (q + 1) _ P1 (rdI.at I1' e100 (ta_lt x100 (by decide)) P1.1) | exact K108 q _ P1 I1'
        ·
          refine ab_aload_n X 3 d_RD_readBranches_97 rfl rfl ?_
          refine ab_bipush (v := 44) X d_RD_readBranches_98 (by decide) ?_
          refine ab_callV (as := [ab_I 44]) X (fun h => by cases h) (f_RD_expect u1 44 q T t ht eL hT P1.1 (by omega) ea (by decide)) lk_RD_124 d_RD_readBranches_100 rfl rfl (by first | assumption | decide | (show _ < 124; omega) | (show _ < 61; omega) | (show _ < 20; omega)) ⟨by first | exact Nat.le_of_ble_eq_true rfl | (simp only [ab_rm]; omega), by first | exact Nat.le_of_ble_eq_true rfl | (simp only [ab_rm]; omega)⟩ ⟨by first | exact Nat.le_of_ble_eq_true rfl | (simp only [ab_rm]; omega), by first | exact Nat.le_of_ble_eq_true rfl | (simp only [ab_rm]; omega)⟩ (Nat.le_of_ble_eq_true rfl) (fun u100 r100 h100 => ?_)
          rcases h100 with ⟨x100, e100, q100, rfl⟩ | ⟨x100, q100, rfl⟩
          ·
            have P100 := P1.trans q100 (by decide)
            refine ab_if_ne X 108 d_RD_readBranches_103 rfl (fun _ => ?_) (fun hb => absurd hb ((by decide)))
            first | exact K108 (q + 1) _ P100 (rdI.at I1' e100 (ta_lt x100 (by decide)) P100.1) | exact K108 q _ P1 I1'
          ·
            have P100 := P1.trans q100 (by decide)
            refine ab_if_ne X 108 d_RD_readBranches_103 rfl (fun hb => absurd ((by decide)) hb) (fun _ => ?_)
            refine ab_iconst (v := 0) X d_RD_readBranches_106 (by decide) ?_
            exact ab_retz X hr0 hlk (Or.inl rfl) d_RD_readBranches_107 (Or.inl ⟨hE, P100, rfl⟩)
      ·
        refine ab_iload X 0 d_RD_readBranches_76 rfl ?_
        refine ab_iload X 1 d_RD_readBranches_78 rfl ?_
        refine ab_icmp_ge X 136 d_RD_readBranches_80 rfl (fun h80 => ?_) (fun h80 => ?_)
        ·
          refine ab_iload X 0 d_RD_readBranches_136 rfl ?_
          refine ab_iload X 2 d_RD_readBranches_138 rfl ?_
          refine ab_icmp_ge X 154 d_RD_readBranches_140 rfl (fun hb => absurd hb (hz2)) (fun _ => ?_)
          refine ab_aload_n X 3 d_RD_readBranches_143 rfl rfl ?_
          refine ab_aload_n X 3 d_RD_readBranches_144 rfl rfl ?_
          refine ab_gI X fl_RD_30 d_RD_readBranches_145 (by first | assumption | decide | (show _ < 124; omega) | (show _ < 61; omega) | (show _ < 20; omega)) (rfl) ?_
          refine ab_callV (as := [ab_I _]) X (fun h => by cases h) (f_RD_refuse u1 _ P1.1) lk_RD_46 d_RD_readBranches_148 rfl rfl (by first | assumption | decide | (show _ < 124; omega) | (show _ < 61; omega) | (show _ < 20; omega)) ⟨by first | exact Nat.le_of_ble_eq_true rfl | (simp only [ab_rm]; omega), by first | exact Nat.le_of_ble_eq_true rfl | (simp only [ab_rm]; omega)⟩ ⟨by first | exact Nat.le_of_ble_eq_true rfl | (simp only [ab_rm]; omega), by first | exact Nat.le_of_ble_eq_true rfl | (simp only [ab_rm]; omega)⟩ (Nat.le_of_ble_eq_true rfl) (fun u148 r148 h148 => ?_)
          obtain ⟨q148, rfl⟩ := h148
          have P148 := P1.trans q148 (by decide)
          refine ab_goto X 160 d_RD_readBranches_151 rfl ?_
          exact ab_retz X hr0 hlk (Or.inl rfl) d_RD_readBranches_160 (Or.inl ⟨hE, P148, rfl⟩)
        ·
          refine ab_aload_n X 3 d_RD_readBranches_83 rfl rfl ?_
          refine ab_bipush (v := 44) X d_RD_readBranches_84 (by decide) ?_
          refine ab_callV (as := [ab_I 44]) X (fun h => by cases h) (t_RD_here u1 44 q T t ht eL hT P1.1 (by omega) ea (by decide)) lk_RD_128 d_RD_readBranches_86 rfl rfl (by first | assumption | decide | (show _ < 124; omega) | (show _ < 61; omega) | (show _ < 20; omega)) ⟨by first | exact Nat.le_of_ble_eq_true rfl | (simp only [ab_rm]; omega), by first | exact Nat.le_of_ble_eq_true rfl | (simp only [ab_rm]; omega)⟩ ⟨by first | exact Nat.le_of_ble_eq_true rfl | (simp only [ab_rm]; omega), by first | exact Nat.le_of_ble_eq_true rfl | (simp only [ab_rm]; omega)⟩ (Nat.le_of_ble_eq_true rfl) (fun u86 r86 h86 => ?_)
          obtain ⟨e86, rfl⟩ := h86
          subst u86
          refine ab_if_eq X 136 d_RD_readBranches_89 rfl (fun h89 => ?_) (fun h89 => ?_)
          ·
            refine ab_iload X 0 d_RD_readBranches_136 rfl ?_
            refine ab_iload X 2 d_RD_readBranches_138 rfl ?_
            refine ab_icmp_ge X 154 d_RD_readBranches_140 rfl (fun hb => absurd hb (hz2)) (fun _ => ?_)
            refine ab_aload_n X 3 d_RD_readBranches_143 rfl rfl ?_
            refine ab_aload_n X 3 d_RD_readBranches_144 rfl rfl ?_
            refine ab_gI X fl_RD_30 d_RD_readBranches_145 (by first | assumption | decide | (show _ < 124; omega) | (show _ < 61; omega) | (show _ < 20; omega)) (rfl) ?_
            refine ab_callV (as := [ab_I _]) X (fun h => by cases h) (f_RD_refuse u1 _ P1.1) lk_RD_46 d_RD_readBranches_148 rfl rfl (by first | assumption | decide | (show _ < 124; omega) | (show _ < 61; omega) | (show _ < 20; omega)) ⟨by first | exact Nat.le_of_ble_eq_true rfl | (simp only [ab_rm]; omega), by first | exact Nat.le_of_ble_eq_true rfl | (simp only [ab_rm]; omega)⟩ ⟨by first | exact Nat.le_of_ble_eq_true rfl | (simp only [ab_rm]; omega), by first | exact Nat.le_of_ble_eq_true rfl | (simp only [ab_rm]; omega)⟩ (Nat.le_of_ble_eq_true rfl) (fun u148 r148 h148 => ?_)
            obtain ⟨q148, rfl⟩ := h148
            have P148 := P1.trans q148 (by decide)
            refine ab_goto X 160 d_RD_readBranches_151 rfl ?_
            exact ab_retz X hr0 hlk (Or.inl rfl) d_RD_readBranches_160 (Or.inl ⟨hE, P148, rfl⟩)
          ·
            refine ab_iload X 0 d_RD_readBranches_92 rfl ?_
            refine ab_if_le X 108 d_RD_readBranches_94 rfl (fun h94 => ?_) (fun h94 => ?_)
            ·
              first | exact K108 (q + 1) _ P1 (rdI.at I1' e100 (ta_lt x100 (by decide)) P1.1) | exact K108 q _ P1 I1'
            ·
              refine ab_aload_n X 3 d_RD_readBranches_97 rfl rfl ?_
              refine ab_bipush (v := 44) X d_RD_readBranches_98 (by decide) ?_
              refine ab_callV (as := [ab_I 44]) X (fun h => by cases h) (f_RD_expect u1 44 q T t ht eL hT P1.1 (by omega) ea (by decide)) lk_RD_124 d_RD_readBranches_100 rfl rfl (by first | assumption | decide | (show _ < 124; omega) | (show _ < 61; omega) | (show _ < 20; omega)) ⟨by first | exact Nat.le_of_ble_eq_true rfl | (simp only [ab_rm]; omega), by first | exact Nat.le_of_ble_eq_true rfl | (simp only [ab_rm]; omega)⟩ ⟨by first | exact Nat.le_of_ble_eq_true rfl | (simp only [ab_rm]; omega), by first | exact Nat.le_of_ble_eq_true rfl | (simp only [ab_rm]; omega)⟩ (Nat.le_of_ble_eq_true rfl) (fun u100 r100 h100 => ?_)
              rcases h100 with ⟨x100, e100, q100, rfl⟩ | ⟨x100, q100, rfl⟩
              ·
                have P100 := P1.trans q100 (by decide)
                refine ab_if_ne X 108 d_RD_readBranches_103 rfl (fun _ => ?_) (fun hb => absurd hb ((by decide)))
                first | exact K108 (q + 1) _ P100 (rdI.at I1' e100 (ta_lt x100 (by decide)) P100.1) | exact K108 q _ P1 I1'
              ·
                have P100 := P1.trans q100 (by decide)
                refine ab_if_ne X 108 d_RD_readBranches_103 rfl (fun hb => absurd ((by decide)) hb) (fun _ => ?_)
                refine ab_iconst (v := 0) X d_RD_readBranches_106 (by decide) ?_
                exact ab_retz X hr0 hlk (Or.inl rfl) d_RD_readBranches_107 (Or.inl ⟨hE, P100, rfl⟩)
  have loop : ∀ (r j : Nat) (w z : Int32) (q M O : Nat) (kd ar cn op : Nat → Nat) (ch : Nat → Nat → Nat) (u1 : ab_S), r + j = 4 → (w = if k0 < 7 then 2 else 4) → z = nI (cnu k0 (ar o)) → cP [1, 2, 10] u u1 → rdI T t q M kd u1 → 1 ≤ O → op (O - 1) = o → o < M → cn o = j → kd o = k0 → ar o ≤ 4 → rdT o M kd ar cn ch u u1 → pK T t F r (q, M, O, kd, ar, cn, op, ch) = bE T t F (bB T t q0 o O0 k0 kd0 ar0 cn0 op0 ch0) → ab_J p l e (ab_rm (d + 1) 0 0) s m args below meth c (MQ below (ab_Q D ca ad ab_nQ s.heap.size (rdP T t o (bE T t F (bB T t q0 o O0 k0 kd0 ar0 cn0 op0 ch0)) (ab_I 0) (ab_I 1) u)) args s 0 0 (ab_A ad ab_nQ s.heap.size)) D ca (ab_A ad ab_nQ s.heap.size) s.heap 8 0 0 ad ab_nQ u1 70 [(6, ab_I (nI j)), (5, ab_I w), (4, ab_I z), (0, ab_O 1 0), (1, ab_O 2 (np o)), (2, ab_I x), (3, ab_I y)] [] := by
    intro r
    induction r with
    | zero =>
      intro j w z q M O kd ar cn op ch u1 hj hw hz P1 I1 hO ho hoM hc hk ha4 R1 hE
      obtain rfl : j = 4 := by omega
      have I1' := I1
      obtain ⟨-, eL, hT, ea, hq, -⟩ := I1'
      have hE' : (if (kd (op (O - 1)) = 7 → ar (op (O - 1)) ≤ cn (op (O - 1))) ∧ ta T t q = 41 then some (q + 1, M, O - 1, kd, ar, cn, op, ch) else none) = bE T t F (bB T t q0 o O0 k0 kd0 ar0 cn0 op0 ch0) := hE
      rw [ho, hk, hc] at hE'
      have hcz : cnu k0 (ar o) ≤ 4 := by unfold cnu; split; (· omega); split <;> omega
      refine ab_iload X 0 d_RD_readBranches_70 rfl ?_
      refine ab_iconst (v := 2) X d_RD_readBranches_72 (by decide) ?_
      refine ab_icmp_lt X 92 d_RD_readBranches_73 rfl (fun hb => absurd hb ((by decide))) (fun _ => ?_)
      refine ab_iload X 0 d_RD_readBranches_76 rfl ?_
      refine ab_iload X 1 d_RD_readBranches_78 rfl ?_
      refine ab_icmp_ge X 136 d_RD_readBranches_80 rfl (fun _ => ?_) (fun hb => absurd ((by rw [hw]; split <;> decide)) hb)
      refine ab_iload X 0 d_RD_readBranches_136 rfl ?_
      refine ab_iload X 2 d_RD_readBranches_138 rfl ?_
      refine ab_icmp_ge X 154 d_RD_readBranches_140 rfl (fun _ => ?_) (fun hb => absurd ((by rw [hz]; exact nI_le (b := 4) hcz (by decide))) hb)
      refine ab_aload_n X 3 d_RD_readBranches_154 rfl rfl ?_
      refine ab_bipush (v := 41) X d_RD_readBranches_155 (by decide) ?_
      refine ab_callV (as := [ab_I 41]) X (fun h => by cases h) (f_RD_expect u1 41 q T t ht eL hT P1.1 (by omega) ea (by decide)) lk_RD_124 d_RD_readBranches_157 rfl rfl (by first | assumption | decide | (show _ < 124; omega) | (show _ < 61; omega) | (show _ < 20; omega)) ⟨by first | exact Nat.le_of_ble_eq_true rfl | (simp only [ab_rm]; omega), by first | exact Nat.le_of_ble_eq_true rfl | (simp only [ab_rm]; omega)⟩ ⟨by first | exact Nat.le_of_ble_eq_true rfl | (simp only [ab_rm]; omega), by first | exact Nat.le_of_ble_eq_true rfl | (simp only [ab_rm]; omega)⟩ (Nat.le_of_ble_eq_true rfl) (fun u157 r157 h157 => ?_)
      rcases h157 with ⟨x157, e157, q157, rfl⟩ | ⟨x157, q157, rfl⟩
      ·
        have P157 := P1.trans q157 (by decide)
        exact ab_retz X hr0 hlk (Or.inr rfl) d_RD_readBranches_160 (Or.inr ⟨_, _, _, _, _, _, _, _, hE'.symm.trans (if_pos ⟨fun _ => ha4, x157⟩), P157, rdI.at I1 e157 (ta_lt x157 (by decide)) P157.1, fun h19 => ⟨fun p a b => ((R1 h19).1 p a b).kq ⟨fun k z => by rw [e157]; exact ui_n _ (by omega), fun i => by rw [e157]⟩ rfl rfl rfl (fun _ => rfl), fun p a => ((R1 h19).2 p a).trans ⟨fun k z => by rw [e157]; exact ui_n _ (by omega), fun i => by rw [e157]⟩⟩, rfl⟩)
      ·
        have P157 := P1.trans q157 (by decide)
        exact ab_retz X hr0 hlk (Or.inl rfl) d_RD_readBranches_160 (Or.inl ⟨hE'.symm.trans (if_neg (fun z => x157 z.2)), P157, rfl⟩)
    | succ r ih =>
      intro j w z q M O kd ar cn op ch u1 hj hw hz P1 I1 hO ho hoM hc hk ha4 R1 hE
      have I1' := I1
      obtain ⟨-, eL, hT, ea, hq, -⟩ := I1'
      have K136 : pE T t (q, M, O, kd, ar, cn, op, ch) = bE T t F (bB T t q0 o O0 k0 kd0 ar0 cn0 op0 ch0) → 2 ≤ j → ab_J p l e (ab_rm (d + 1) 0 0) s m args below meth c (MQ below (ab_Q D ca ad ab_nQ s.heap.size (rdP T t o (bE T t F (bB T t q0 o O0 k0 kd0 ar0 cn0 op0 ch0)) (ab_I 0) (ab_I 1) u)) args s 0 0 (ab_A ad ab_nQ s.heap.size)) D ca (ab_A ad ab_nQ s.heap.size) s.heap 8 0 0 ad ab_nQ u1 136 [(6, ab_I (nI j)), (5, ab_I w), (4, ab_I z), (0, ab_O 1 0), (1, ab_O 2 (np o)), (2, ab_I x), (3, ab_I y)] [] := by
        intro hE2 hj2
        have hE' : (if (kd (op (O - 1)) = 7 → ar (op (O - 1)) ≤ cn (op (O - 1))) ∧ ta T t q = 41 then some (q + 1, M, O - 1, kd, ar, cn, op, ch) else none) = bE T t F (bB T t q0 o O0 k0 kd0 ar0 cn0 op0 ch0) := hE2
        rw [ho, hk, hc] at hE'
        have b4 : cnu k0 (ar o) ≤ 4 := by unfold cnu; split; (· omega); split <;> omega
        refine ab_iload X 0 d_RD_readBranches_136 rfl ?_
        refine ab_iload X 2 d_RD_readBranches_138 rfl ?_
        refine ab_icmp_ge X 154 d_RD_readBranches_140 rfl (fun h140 => ?_) (fun h140 => ?_)
        ·
          have nz : cnu k0 (ar o) ≤ j := by rw [hz] at h140; exact nI_le_of h140 (by omega)
          have n7 : k0 = 7 → ar o ≤ j := fun y => by rw [y] at nz; exact nz
          refine ab_aload_n X 3 d_RD_readBranches_154 rfl rfl ?_
          refine ab_bipush (v := 41) X d_RD_readBranches_155 (by decide) ?_
          refine ab_callV (as := [ab_I 41]) X (fun h => by cases h) (f_RD_expect u1 41 q T t ht eL hT P1.1 (by omega) ea (by decide)) lk_RD_124 d_RD_readBranches_157 rfl rfl (by first | assumption | decide | (show _ < 124; omega) | (show _ < 61; omega) | (show _ < 20; omega)) ⟨by first | exact Nat.le_of_ble_eq_true rfl | (simp only [ab_rm]; omega), by first | exact Nat.le_of_ble_eq_true rfl | (simp only [ab_rm]; omega)⟩ ⟨by first | exact Nat.le_of_ble_eq_true rfl | (simp only [ab_rm]; omega), by first | exact Nat.le_of_ble_eq_true rfl | (simp only [ab_rm]; omega)⟩ (Nat.le_of_ble_eq_true rfl) (fun u157 r157 h157 => ?_)
          rcases h157 with ⟨x157, e157, q157, rfl⟩ | ⟨x157, q157, rfl⟩
          ·
            have P157 := P1.trans q157 (by decide)
            exact ab_retz X hr0 hlk (Or.inr rfl) d_RD_readBranches_160 (Or.inr ⟨_, _, _, _, _, _, _, _, hE'.symm.trans (if_pos ⟨n7, x157⟩), P157, rdI.at I1 e157 (ta_lt x157 (by decide)) P157.1, fun h19 => ⟨fun p a b => ((R1 h19).1 p a b).kq ⟨fun k z => by rw [e157]; exact ui_n _ (by omega), fun i => by rw [e157]⟩ rfl rfl rfl (fun _ => rfl), fun p a => ((R1 h19).2 p a).trans ⟨fun k z => by rw [e157]; exact ui_n _ (by omega), fun i => by rw [e157]⟩⟩, rfl⟩)
          ·
            have P157 := P1.trans q157 (by decide)
            exact ab_retz X hr0 hlk (Or.inl rfl) d_RD_readBranches_160 (Or.inl ⟨hE'.symm.trans (if_neg (fun z => x157 z.2)), P157, rfl⟩)
        ·
          have nz : ¬ (k0 = 7 → ar o ≤ j) := fun y => h140 (by rw [hz]; exact nI_le (by unfold cnu; split; (· omega); split; (· omega); exact y (by omega)) (by omega))
          refine ab_aload_n X 3 d_RD_readBranches_143 rfl rfl ?_
          refine ab_aload_n X 3 d_RD_readBranches_144 rfl rfl ?_
          refine ab_gI X fl_RD_30 d_RD_readBranches_145 (by first | assumption | decide | (show _ < 124; omega) | (show _ < 61; omega) | (show _ < 20; omega)) (rfl) ?_
          refine ab_callV (as := [ab_I _]) X (fun h => by cases h) (f_RD_refuse u1 _ P1.1) lk_RD_46 d_RD_readBranches_148 rfl rfl (by first | assumption | decide | (show _ < 124; omega) | (show _ < 61; omega) | (show _ < 20; omega)) ⟨by first | exact Nat.le_of_ble_eq_true rfl | (simp only [ab_rm]; omega), by first | exact Nat.le_of_ble_eq_true rfl | (simp only [ab_rm]; omega)⟩ ⟨by first | exact Nat.le_of_ble_eq_true rfl | (simp only [ab_rm]; omega), by first | exact Nat.le_of_ble_eq_true rfl | (simp only [ab_rm]; omega)⟩ (Nat.le_of_ble_eq_true rfl) (fun u148 r148 h148 => ?_)
          obtain ⟨q148, rfl⟩ := h148
          have P148 := P1.trans q148 (by decide)
          refine ab_goto X 160 d_RD_readBranches_151 rfl ?_
          exact ab_retz X hr0 hlk (Or.inl rfl) d_RD_readBranches_160 (Or.inl ⟨hE'.symm.trans (if_neg (fun z => nz z.1)), P148, rfl⟩)
      have K108 : ∀ (q : Nat) (u2 : ab_S), cP [1, 2, 10] u u2 → rdI T t q M kd u2 → rdT o M kd ar cn ch u u2 → (match F (q, M, O, kd, ar, cn, op, ch) with | none => none | some c2 => pK T t F r c2) = bE T t F (bB T t q0 o O0 k0 kd0 ar0 cn0 op0 ch0) → ab_J p l e (ab_rm (d + 1) 0 0) s m args below meth c (MQ below (ab_Q D ca ad ab_nQ s.heap.size (rdP T t o (bE T t F (bB T t q0 o O0 k0 kd0 ar0 cn0 op0 ch0)) (ab_I 0) (ab_I 1) u)) args s 0 0 (ab_A ad ab_nQ s.heap.size)) D ca (ab_A ad ab_nQ s.heap.size) s.heap 8 0 0 ad ab_nQ u2 108 [(6, ab_I (nI j)), (5, ab_I w), (4, ab_I z), (0, ab_O 1 0), (1, ab_O 2 (np o)), (2, ab_I x), (3, ab_I y)] [] := by
        intro q u2 P2 I2 R2 hE2
        have out : ∀ (q' M' O' : Nat) (kd' ar' cn' op' : Nat → Nat) (ch' : Nat → Nat → Nat), F (q, M, O, kd, ar, cn, op, ch) = some (q', M', O', kd', ar', cn', op', ch') → fT M O kd ar cn op ch M' O kd' ar' cn' op' ch' ∧ O' = O ∧ op' (O' - 1) = o ∧ o < M' ∧ cn' o = j + 1 ∧ kd' o = k0 ∧ ar' o = ar o ∧ pK T t F r (q', M', O', kd', ar', cn', op', ch') = bE T t F (bB T t q0 o O0 k0 kd0 ar0 cn0 op0 ch0) := by
          intro q' M' O' kd' ar' cn' op' ch' f
          have Ft : fT M O kd ar cn op ch M' O' kd' ar' cn' op' ch' := hF _ _ f
          rw [f] at hE2
          obtain ⟨a1, a2, a3, a4⟩ := Ft
          obtain ⟨b1, b2, b3, -⟩ := a4 o hoM
          subst a1
          refine ⟨⟨rfl, a2, a3, a4⟩, rfl, (a3 _ (by omega)).trans ho, by omega, ?_, b1.trans hk, b2, hE2⟩
          rw [b3]; unfold c1f; rw [if_pos (by omega), ho, up1_s, hc]
        by_cases hM2 : ∃ (q' M' O' : Nat) (kd' ar' cn' op' : Nat → Nat) (ch' : Nat → Nat → Nat), F (q, M, O, kd, ar, cn, op, ch) = some (q', M', O', kd', ar', cn', op', ch') ∧ M' ≤ 19
        · obtain ⟨q9, M9, O9, kd9, ar9, cn9, op9, ch9, f9, h19⟩ := hM2
          obtain ⟨o1, o2, o3, o4, o5, o6, o7, o8⟩ := out _ _ _ _ _ _ _ _ f9
          have hMM := o1.2.1
          refine ab_aload_n X 3 d_RD_readBranches_108 rfl rfl ?_
          refine ab_iload_n X 6 d_RD_readBranches_109 rfl rfl ?_
          refine ab_iconst (v := 1) X d_RD_readBranches_110 (by decide) ?_
          refine ab_iadd X d_RD_readBranches_111 ?_
          refine ab_callV (as := [ab_I (y + 1)]) X (fun _ => hZ rfl) (W u2 q M O kd ar cn op ch I2) lk_RD_42 d_RD_readBranches_112 rfl rfl (by first | assumption | decide | (show _ < 124; omega) | (show _ < 61; omega) | (show _ < 20; omega)) ⟨by first | exact Nat.le_of_ble_eq_true rfl | (simp only [ab_rm]; omega), by first | exact Nat.le_of_ble_eq_true rfl | (simp only [ab_rm]; omega)⟩ ⟨by first | exact Nat.le_of_ble_eq_true rfl | (simp only [ab_rm]; omega), by first | exact Nat.le_of_ble_eq_true rfl | (simp only [ab_rm]; omega)⟩ (Nat.le_of_ble_eq_true rfl) (fun u112 r112 h112 => ?_)
          rcases h112 with ⟨f112, q112, rfl⟩ | ⟨q', M', O', kd', ar', cn', op', ch', f112, q112, I112, T112, rfl⟩
          ·
            exact absurd (f112.symm.trans f9) (by intro z; cases z)
          ·
            have P112 := P2.trans q112 (by decide)
            cases (f112.symm.trans f9)
            rw [np_in (M := M) (by omega)]
            have en9 : u112.1 2 (np o) 6 = nI j := by rw [np_in (M := o) (by omega), ((T112 h19).2 o hoM).1 6 (by omega), ← hc]; exact ((R2 (by omega)).1 o (Nat.le_refl _) hoM).2.2.1
            refine ab_astore7 X 0 1 2 3 4 5 6 d_RD_readBranches_115 (by decide) rfl rfl rfl rfl rfl rfl rfl rfl rfl rfl rfl rfl rfl rfl ?_
            refine ab_aload X 0 d_RD_readBranches_117 rfl ?_
            refine ab_ifnonnull X 124 d_RD_readBranches_119 rfl (fun _ => ?_) (fun hb => absurd hb ((by intro z; cases z)))
            refine ab_aload_n X 5 d_RD_readBranches_124 rfl rfl ?_
            refine ab_aload X 0 d_RD_readBranches_125 rfl ?_
            refine ab_callV (as := [ab_O 2 (M + 1)]) X (fun h => by cases h) (f_PT_join u112 (np o) (M + 1) j P112.1 ho20 (by omega) en9 (by omega)) lk_RD_131 d_RD_readBranches_127 rfl rfl (by first | assumption | decide | (show _ < 124; omega) | (show _ < 61; omega) | (show _ < 20; omega)) ⟨by first | exact Nat.le_of_ble_eq_true rfl | (simp only [ab_rm]; omega), by first | exact Nat.le_of_ble_eq_true rfl | (simp only [ab_rm]; omega)⟩ ⟨by first | exact Nat.le_of_ble_eq_true rfl | (simp only [ab_rm]; omega), by first | exact Nat.le_of_ble_eq_true rfl | (simp only [ab_rm]; omega)⟩ (Nat.le_of_ble_eq_true rfl) (fun u127 r127 h127 => ?_)
            obtain ⟨q127, J127, rfl⟩ := h127
            have P127 := P112.trans q127 (by decide)
            refine ab_iinc7 X 1 0 2 3 4 5 6 7 d_RD_readBranches_130 rfl (by decide) rfl rfl rfl rfl rfl rfl rfl rfl rfl rfl rfl rfl rfl rfl ?_
            refine ab_goto X 70 d_RD_readBranches_133 rfl ?_
            refine ab_lv (List.forall_mem_cons.mpr ⟨List.mem_of_getElem? (i := 0) rfl, List.forall_mem_cons.mpr ⟨List.mem_of_getElem? (i := 2) rfl, List.forall_mem_cons.mpr ⟨List.mem_of_getElem? (i := 3) rfl, List.forall_mem_cons.mpr ⟨List.mem_of_getElem? (i := 4) rfl, List.forall_mem_cons.mpr ⟨List.mem_of_getElem? (i := 5) rfl, List.forall_mem_cons.mpr ⟨List.mem_of_getElem? (i := 6) rfl, List.forall_mem_cons.mpr ⟨List.mem_of_getElem? (i := 7) rfl, fun _ h => absurd h List.not_mem_nil⟩⟩⟩⟩⟩⟩⟩) ?_
            rw [show nI j + Int32.ofInt 1 = nI (j + 1) from nI_1 j]
            exact ih (j + 1) w z _ _ _ _ _ _ _ _ _ (by omega) hw (by rw [o7]; exact hz) P127 (I112.cp q127) (by omega) o3 o4 o5 o6 (by omega) (rdT.join hO ho hoM R2 o1 T112 (fun _ => by rw [np_in (M := o) (by omega)] at J127; rw [hc]; exact J127)) o8
        ·
          refine ab_aload_n X 3 d_RD_readBranches_108 rfl rfl ?_
          refine ab_iload_n X 6 d_RD_readBranches_109 rfl rfl ?_
          refine ab_iconst (v := 1) X d_RD_readBranches_110 (by decide) ?_
          refine ab_iadd X d_RD_readBranches_111 ?_
          refine ab_callV (as := [ab_I (y + 1)]) X (fun _ => hZ rfl) (W u2 q M O kd ar cn op ch I2) lk_RD_42 d_RD_readBranches_112 rfl rfl (by first | assumption | decide | (show _ < 124; omega) | (show _ < 61; omega) | (show _ < 20; omega)) ⟨by first | exact Nat.le_of_ble_eq_true rfl | (simp only [ab_rm]; omega), by first | exact Nat.le_of_ble_eq_true rfl | (simp only [ab_rm]; omega)⟩ ⟨by first | exact Nat.le_of_ble_eq_true rfl | (simp only [ab_rm]; omega), by first | exact Nat.le_of_ble_eq_true rfl | (simp only [ab_rm]; omega)⟩ (Nat.le_of_ble_eq_true rfl) (fun u112 r112 h112 => ?_)
          rcases h112 with ⟨f112, q112, rfl⟩ | ⟨q', M', O', kd', ar', cn', op', ch', f112, q112, I112, T112, rfl⟩
          ·
            have P112 := P2.trans q112 (by decide)
            refine ab_astore7 X 0 1 2 3 4 5 6 d_RD_readBranches_115 (by decide) rfl rfl rfl rfl rfl rfl rfl rfl rfl rfl rfl rfl rfl rfl ?_
            refine ab_aload X 0 d_RD_readBranches_117 rfl ?_
            refine ab_ifnonnull X 124 d_RD_readBranches_119 rfl (fun hb => absurd (rfl) hb) (fun _ => ?_)
            refine ab_iconst (v := 0) X d_RD_readBranches_122 (by decide) ?_
            exact ab_retz X hr0 hlk (Or.inl rfl) d_RD_readBranches_123 (Or.inl ⟨by rw [← hE2, f112], P112, rfl⟩)
          ·
            have P112 := P2.trans q112 (by decide)
            have h19 : ¬ M' ≤ 19 := fun z => hM2 ⟨_, _, _, _, _, _, _, _, f112, z⟩
            obtain ⟨o1, o2, o3, o4, o5, o6, o7, o8⟩ := out _ _ _ _ _ _ _ _ f112
            refine ab_astore7 X 0 1 2 3 4 5 6 d_RD_readBranches_115 (by decide) rfl rfl rfl rfl rfl rfl rfl rfl rfl rfl rfl rfl rfl rfl ?_
            refine ab_aload X 0 d_RD_readBranches_117 rfl ?_
            refine ab_ifnonnull X 124 d_RD_readBranches_119 rfl (fun _ => ?_) (fun hb => absurd hb ((by intro z; cases z)))
            refine ab_aload_n X 5 d_RD_readBranches_124 rfl rfl ?_
            refine ab_aload X 0 d_RD_readBranches_125 rfl ?_
            refine ab_callV (as := [ab_O 2 (np M)]) X (fun h => by cases h) (s_PT_join u112 (np o) (np M) P112.1 ho20 (np_lt M)) lk_RD_131 d_RD_readBranches_127 rfl rfl (by first | assumption | decide | (show _ < 124; omega) | (show _ < 61; omega) | (show _ < 20; omega)) ⟨by first | exact Nat.le_of_ble_eq_true rfl | (simp only [ab_rm]; omega), by first | exact Nat.le_of_ble_eq_true rfl | (simp only [ab_rm]; omega)⟩ ⟨by first | exact Nat.le_of_ble_eq_true rfl | (simp only [ab_rm]; omega), by first | exact Nat.le_of_ble_eq_true rfl | (simp only [ab_rm]; omega)⟩ (Nat.le_of_ble_eq_true rfl) (fun u127 r127 h127 => ?_)
            obtain ⟨q127, rfl⟩ := h127
            have P127 := P112.trans q127 (by decide)
            refine ab_iinc7 X 1 0 2 3 4 5 6 7 d_RD_readBranches_130 rfl (by decide) rfl rfl rfl rfl rfl rfl rfl rfl rfl rfl rfl rfl rfl rfl ?_
            refine ab_goto X 70 d_RD_readBranches_133 rfl ?_
            refine ab_lv (List.forall_mem_cons.mpr ⟨List.mem_of_getElem? (i := 0) rfl, List.forall_mem_cons.mpr ⟨List.mem_of_getElem? (i := 2) rfl, List.forall_mem_cons.mpr ⟨List.mem_of_getElem? (i := 3) rfl, List.forall_mem_cons.mpr ⟨List.mem_of_getElem? (i := 4) rfl, List.forall_mem_cons.mpr ⟨List.mem_of_getElem? (i := 5) rfl, List.forall_mem_cons.mpr ⟨List.mem_of_getElem? (i := 6) rfl, List.forall_mem_cons.mpr ⟨List.mem_of_getElem? (i := 7) rfl, fun _ h => absurd h List.not_mem_nil⟩⟩⟩⟩⟩⟩⟩) ?_
            rw [show nI j + Int32.ofInt 1 = nI (j + 1) from nI_1 j]
            exact ih (j + 1) w z _ _ _ _ _ _ _ _ _ (by omega) hw (by rw [o7]; exact hz) P127 (I112.cp q127) (by omega) o3 o4 o5 o6 (by omega) (fun z => absurd z h19) o8
      have kq1 : ∀ {u2 : ab_S} {q2 : Nat}, u2 = ab_ui u1 1 0 4 (nI q2) → rdT o M kd ar cn ch u u2 := fun e h19 => ⟨fun p a b => ((R1 h19).1 p a b).kq ⟨fun k z => by rw [e]; exact ui_n _ (by omega), fun i => by rw [e]⟩ rfl rfl rfl (fun _ => rfl), fun p a => ((R1 h19).2 p a).trans ⟨fun k z => by rw [e]; exact ui_n _ (by omega), fun i => by rw [e]⟩⟩
      have hE0 : (if pG T t (q, M, O, kd, ar, cn, op, ch) = true then (match pC T t (q, M, O, kd, ar, cn, op, ch) with | none => none | some c1 => match F c1 with | none => none | some c2 => pK T t F r c2) else pE T t (q, M, O, kd, ar, cn, op, ch)) = bE T t F (bB T t q0 o O0 k0 kd0 ar0 cn0 op0 ch0) := hE
      have hG : pG T t (q, M, O, kd, ar, cn, op, ch) = (decide (j < 2) || (decide (ta T t q = 44) && decide (j < if k0 < 7 then 2 else 4))) := by
        show (decide (cn (op (O - 1)) < 2) || (decide (ta T t q = 44) && decide (cn (op (O - 1)) < if kd (op (O - 1)) < 7 then 2 else 4))) = _
        rw [ho, hk, hc]
      have hC : pC T t (q, M, O, kd, ar, cn, op, ch) = if j = 0 then some (q, M, O, kd, ar, cn, op, ch) else if ta T t q = 44 then some (q + 1, M, O, kd, ar, cn, op, ch) else none := by
        show (if cn (op (O - 1)) = 0 then _ else _) = _
        rw [ho, hc]
      have K92 : (j < 2 ∨ (ta T t q = 44 ∧ j < if k0 < 7 then 2 else 4)) → ab_J p l e (ab_rm (d + 1) 0 0) s m args below meth c (MQ below (ab_Q D ca ad ab_nQ s.heap.size (rdP T t o (bE T t F (bB T t q0 o O0 k0 kd0 ar0 cn0 op0 ch0)) (ab_I 0) (ab_I 1) u)) args s 0 0 (ab_A ad ab_nQ s.heap.size)) D ca (ab_A ad ab_nQ s.heap.size) s.heap 8 0 0 ad ab_nQ u1 92 [(6, ab_I (nI j)), (5, ab_I w), (4, ab_I z), (0, ab_O 1 0), (1, ab_O 2 (np o)), (2, ab_I x), (3, ab_I y)] [] := by
        intro hg
        rw [if_pos (by rw [hG]; simpa using hg), hC] at hE0
        by_cases j0 : j = 0
        · rw [if_pos j0] at hE0
          refine ab_iload X 0 d_RD_readBranches_92 rfl ?_
          refine ab_if_le X 108 d_RD_readBranches_94 rfl (fun _ => ?_) (fun hb => absurd ((by rw [j0]; decide)) hb)
          exact K108 q _ P1 I1 R1 hE0
        · rw [if_neg j0] at hE0
          refine ab_iload X 0 d_RD_readBranches_92 rfl ?_
          refine ab_if_le X 108 d_RD_readBranches_94 rfl (fun hb => absurd hb ((nI_nle (by omega) (by omega)))) (fun _ => ?_)
          refine ab_aload_n X 3 d_RD_readBranches_97 rfl rfl ?_
          refine ab_bipush (v := 44) X d_RD_readBranches_98 (by decide) ?_
          refine ab_callV (as := [ab_I 44]) X (fun h => by cases h) (f_RD_expect u1 44 q T t ht eL hT P1.1 (by omega) ea (by decide)) lk_RD_124 d_RD_readBranches_100 rfl rfl (by first | assumption | decide | (show _ < 124; omega) | (show _ < 61; omega) | (show _ < 20; omega)) ⟨by first | exact Nat.le_of_ble_eq_true rfl | (simp only [ab_rm]; omega), by first | exact Nat.le_of_ble_eq_true rfl | (simp only [ab_rm]; omega)⟩ ⟨by first | exact Nat.le_of_ble_eq_true rfl | (simp only [ab_rm]; omega), by first | exact Nat.le_of_ble_eq_true rfl | (simp only [ab_rm]; omega)⟩ (Nat.le_of_ble_eq_true rfl) (fun u100 r100 h100 => ?_)
          rcases h100 with ⟨x100, e100, q100, rfl⟩ | ⟨x100, q100, rfl⟩
          ·
            have P100 := P1.trans q100 (by decide)
            refine ab_if_ne X 108 d_RD_readBranches_103 rfl (fun _ => ?_) (fun hb => absurd hb ((by decide)))
            rw [if_pos x100] at hE0
            exact K108 (q + 1) _ P100 (rdI.at I1 e100 (ta_lt x100 (by decide)) P100.1) (kq1 e100) hE0
          ·
            have P100 := P1.trans q100 (by decide)
            refine ab_if_ne X 108 d_RD_readBranches_103 rfl (fun hb => absurd ((by decide)) hb) (fun _ => ?_)
            refine ab_iconst (v := 0) X d_RD_readBranches_106 (by decide) ?_
            exact ab_retz X hr0 hlk (Or.inl rfl) d_RD_readBranches_107 (Or.inl ⟨by rw [← hE0, if_neg x100], P100, rfl⟩)
      refine ab_iload X 0 d_RD_readBranches_70 rfl ?_
      refine ab_iconst (v := 2) X d_RD_readBranches_72 (by decide) ?_
      refine ab_icmp_lt X 92 d_RD_readBranches_73 rfl (fun h73 => ?_) (fun h73 => ?_)
      ·
        have hg : j < 2 ∨ (ta T t q = 44 ∧ j < if k0 < 7 then 2 else 4) := Or.inl (nI_ltl h73 (by omega))
        first | exact K92 hg | (rw [← hw]; exact K92 hg) | (subst hw; exact K92 hg)
      ·
        have j2 : 2 ≤ j := Nat.le_of_not_lt (fun z => h73 (nI_lt z (by decide)))
        refine ab_iload X 0 d_RD_readBranches_76 rfl ?_
        refine ab_iload X 1 d_RD_readBranches_78 rfl ?_
        rw [hw]
        refine ab_icmp_ge X 136 d_RD_readBranches_80 rfl (fun h80 => ?_) (fun h80 => ?_)
        ·
          have jw : ¬ j < (if k0 < 7 then 2 else 4) := by revert h80; split <;> intro h80; (· exact fun z => nI_ge (b := 2) z (by decide) h80); exact fun z => nI_ge (b := 4) z (by decide) h80
          have ng : ¬ (ta T t q = 44 ∧ j < if k0 < 7 then 2 else 4) := fun y => jw y.2
          rw [if_neg (by rw [hG]; simp only [Bool.or_eq_true, Bool.and_eq_true, decide_eq_true_eq]; exact fun z => z.elim (fun y => absurd y (by omega)) ng)] at hE0
          rw [← hw]
          exact K136 hE0 j2
        ·
          have jw : j < (if k0 < 7 then 2 else 4) := by revert h80; split <;> intro h80; (· exact nI_lt_of (b := 2) h80 (by omega)); exact nI_lt_of (b := 4) h80 (by omega)
          refine ab_aload_n X 3 d_RD_readBranches_83 rfl rfl ?_
          refine ab_bipush (v := 44) X d_RD_readBranches_84 (by decide) ?_
          refine ab_callV (as := [ab_I 44]) X (fun h => by cases h) (t_RD_here u1 44 q T t ht eL hT P1.1 (by omega) ea (by decide)) lk_RD_128 d_RD_readBranches_86 rfl rfl (by first | assumption | decide | (show _ < 124; omega) | (show _ < 61; omega) | (show _ < 20; omega)) ⟨by first | exact Nat.le_of_ble_eq_true rfl | (simp only [ab_rm]; omega), by first | exact Nat.le_of_ble_eq_true rfl | (simp only [ab_rm]; omega)⟩ ⟨by first | exact Nat.le_of_ble_eq_true rfl | (simp only [ab_rm]; omega), by first | exact Nat.le_of_ble_eq_true rfl | (simp only [ab_rm]; omega)⟩ (Nat.le_of_ble_eq_true rfl) (fun u86 r86 h86 => ?_)
          obtain ⟨e86, rfl⟩ := h86
          subst u86
          refine ab_if_eq X 136 d_RD_readBranches_89 rfl (fun h89 => ?_) (fun h89 => ?_)
          ·
            have ng : ¬ (ta T t q = 44 ∧ j < if k0 < 7 then 2 else 4) := fun y => absurd h89 (by rw [if_pos y.1]; decide)
            rw [if_neg (by rw [hG]; simp only [Bool.or_eq_true, Bool.and_eq_true, decide_eq_true_eq]; exact fun z => z.elim (fun y => absurd y (by omega)) ng)] at hE0
            rw [← hw]
            exact K136 hE0 j2
          ·
            have hg : j < 2 ∨ (ta T t q = 44 ∧ j < if k0 < 7 then 2 else 4) := Or.inr ⟨Classical.byContradiction (fun z => h89 (if_neg z)), jw⟩
            first | exact K92 hg | (rw [← hw]; exact K92 hg) | (subst hw; exact K92 hg)
  have i0 := I0
  obtain ⟨-, eL, hT, ea, hq, eu, el, hl⟩ := i0
  have tab : ∀ (u1 : ab_S) (a : Nat), u1.1 2 (np o) 5 = nI (cnu k0 a) → (∀ c i k, ¬ (c = 1 ∧ (k = 4 ∨ k = 5)) → ¬ (c = 2 ∧ i = np o ∧ k = 5) → u1.1 c i k = u.1 c i k) → u1.2.1 = u.2.1 → rdT o (o + 1) (up1 kd0 o k0) (up1 ar0 o a) (up1 (c1f O0 cn0 op0) o 0) (h1f O0 o cn0 op0 ch0) u u1 := by
    intro u1 a e5 fr rr h19
    have hn : np o = o + 1 := np_in (by omega)
    rw [hn] at e5 fr ek en
    refine ⟨fun p a1 a2 => ?_, fun p hp => ⟨fun k z => fr _ _ _ (by omega) (by omega), fun i => by rw [rr]⟩⟩
    obtain rfl : p = o := by omega
    refine ⟨?_, ?_, ?_, fun i hi => ?_⟩
    · rw [up1_s, fr _ _ _ (by omega) (by omega), ek, hx]
    · rw [up1_s, up1_s]; exact e5
    · rw [up1_s, fr _ _ _ (by omega) (by omega), en]
    · rw [up1_s] at hi; exact absurd hi (Nat.not_lt_zero i)
  by_cases h7 : k0 < 7
  · have hB : bB T t q0 o O0 k0 kd0 ar0 cn0 op0 ch0 = some (q0, o + 1, O0 + 1, up1 kd0 o k0, up1 ar0 o 0, up1 (c1f O0 cn0 op0) o 0, up1 op0 O0 o, h1f O0 o cn0 op0 ch0) := if_pos h7
    have go : ∀ (z : Int32) (u1 : ab_S), z = nI (cnu k0 0) → cP [1, 2, 10] u u1 → u1 = ab_ui u 2 (np o) 5 z → ab_J p l e (ab_rm (d + 1) 0 0) s m args below meth c (MQ below (ab_Q D ca ad ab_nQ s.heap.size (rdP T t o (bE T t F (bB T t q0 o O0 k0 kd0 ar0 cn0 op0 ch0)) (ab_I 0) (ab_I 1) u)) args s 0 0 (ab_A ad ab_nQ s.heap.size)) D ca (ab_A ad ab_nQ s.heap.size) s.heap 8 0 0 ad ab_nQ u1 70 [(6, ab_I (nI 0)), (5, ab_I 2), (4, ab_I z), (0, ab_O 1 0), (1, ab_O 2 (np o)), (2, ab_I x), (3, ab_I y)] [] := by
      intro z u1 hz P1 e1
      have fr : ∀ c i k, ¬ (c = 2 ∧ i = np o ∧ k = 5) → u1.1 c i k = u.1 c i k := fun c i k h => by rw [e1]; exact ui_n _ h
      refine loop 4 0 2 z q0 (o + 1) (O0 + 1) (up1 kd0 o k0) (up1 ar0 o 0) (up1 (c1f O0 cn0 op0) o 0) (up1 op0 O0 o) (h1f O0 o cn0 op0 ch0) u1 rfl (if_pos h7).symm (by rw [up1_s]; exact hz) P1 ⟨P1.1, (fr _ _ _ (by omega)).trans eL, fun k hk => (fr _ _ _ (by omega)).trans (hT k hk), (fr _ _ _ (by omega)).trans ea, hq, (fr _ _ _ (by omega)).trans eu, (fr _ _ _ (by omega)).trans el, hl⟩ (by omega) (by rw [show O0 + 1 - 1 = O0 by omega, up1_s]) (by omega) (up1_s _ _ _) (up1_s _ _ _) (by rw [up1_s]; omega) (tab u1 0 (by rw [← hz]; exact gv e1) (fun c i k _ h => fr c i k h) (by rw [e1])) ?_
      rw [hB]; rfl
    have h56 : k0 = 5 ∨ k0 = 6 := by omega
    rcases h56 with rfl | rfl
    ·
      refine ab_iload_n X 2 d_RD_readBranches_0 rfl rfl ?_
      refine ab_bipush (v := 6) X d_RD_readBranches_1 (by decide) ?_
      refine ab_icmp_ne X 10 d_RD_readBranches_3 rfl (fun hb => absurd (hx) hb) (fun _ => ?_)
      refine ab_iconst (v := 2) X d_RD_readBranches_6 (by decide) ?_
      refine ab_goto X 11 d_RD_readBranches_7 rfl ?_
      refine ab_istore4 X 0 1 2 3 d_RD_readBranches_11 (by decide) rfl rfl rfl rfl rfl rfl rfl rfl ?_
      refine ab_iload_n X 3 d_RD_readBranches_13 rfl rfl ?_
      refine ab_bipush (v := 8) X d_RD_readBranches_14 (by decide) ?_
      refine ab_icmp_ne X 23 d_RD_readBranches_16 rfl (fun _ => ?_) (fun hb => absurd hb ((by rw [hx]; decide)))
      refine ab_iconst (v := 2) X d_RD_readBranches_23 (by decide) ?_
      refine ab_istore5 X 0 1 2 3 4 d_RD_readBranches_24 (by decide) rfl rfl rfl rfl rfl rfl rfl rfl rfl rfl ?_
      refine ab_iload_n X 4 d_RD_readBranches_26 rfl rfl ?_
      refine ab_bipush (v := 8) X d_RD_readBranches_27 (by decide) ?_
      refine ab_icmp_ne X 61 d_RD_readBranches_29 rfl (fun _ => ?_) (fun hb => absurd hb ((by rw [hx]; decide)))
      refine ab_aload_n X 3 d_RD_readBranches_61 rfl rfl ?_
      refine ab_iload X 1 d_RD_readBranches_62 rfl ?_
      refine ab_putI X fp_RD_118 d_RD_readBranches_64 (by first | assumption | decide | (show _ < 124; omega) | (show _ < 61; omega) | (show _ < 20; omega)) rfl rfl ?_
      refine ab_gen (fun u64 e64 => ?_)
      have P64 : cP [1, 2, 10] u u64 := by rw [e64]; exact P0.ui rfl (by decide)
      refine ab_iconst (v := 0) X d_RD_readBranches_67 (by decide) ?_
      refine ab_istore6 X 0 1 2 3 4 5 d_RD_readBranches_68 (by decide) rfl rfl rfl rfl rfl rfl rfl rfl rfl rfl rfl rfl ?_
      exact go _ _ rfl P64 e64
    ·
      refine ab_iload_n X 2 d_RD_readBranches_0 rfl rfl ?_
      refine ab_bipush (v := 6) X d_RD_readBranches_1 (by decide) ?_
      refine ab_icmp_ne X 10 d_RD_readBranches_3 rfl (fun _ => ?_) (fun hb => absurd hb ((by rw [hx]; decide)))
      refine ab_iconst (v := 1) X d_RD_readBranches_10 (by decide) ?_
      refine ab_istore4 X 0 1 2 3 d_RD_readBranches_11 (by decide) rfl rfl rfl rfl rfl rfl rfl rfl ?_
      refine ab_iload_n X 3 d_RD_readBranches_13 rfl rfl ?_
      refine ab_bipush (v := 8) X d_RD_readBranches_14 (by decide) ?_
      refine ab_icmp_ne X 23 d_RD_readBranches_16 rfl (fun _ => ?_) (fun hb => absurd hb ((by rw [hx]; decide)))
      refine ab_iconst (v := 2) X d_RD_readBranches_23 (by decide) ?_
      refine ab_istore5 X 0 1 2 3 4 d_RD_readBranches_24 (by decide) rfl rfl rfl rfl rfl rfl rfl rfl rfl rfl ?_
      refine ab_iload_n X 4 d_RD_readBranches_26 rfl rfl ?_
      refine ab_bipush (v := 8) X d_RD_readBranches_27 (by decide) ?_
      refine ab_icmp_ne X 61 d_RD_readBranches_29 rfl (fun _ => ?_) (fun hb => absurd hb ((by rw [hx]; decide)))
      refine ab_aload_n X 3 d_RD_readBranches_61 rfl rfl ?_
      refine ab_iload X 1 d_RD_readBranches_62 rfl ?_
      refine ab_putI X fp_RD_118 d_RD_readBranches_64 (by first | assumption | decide | (show _ < 124; omega) | (show _ < 61; omega) | (show _ < 20; omega)) rfl rfl ?_
      refine ab_gen (fun u64 e64 => ?_)
      have P64 : cP [1, 2, 10] u u64 := by rw [e64]; exact P0.ui rfl (by decide)
      refine ab_iconst (v := 0) X d_RD_readBranches_67 (by decide) ?_
      refine ab_istore6 X 0 1 2 3 4 5 d_RD_readBranches_68 (by decide) rfl rfl rfl rfl rfl rfl rfl rfl rfl rfl rfl rfl ?_
      exact go _ _ rfl P64 e64
  · have k07 : k0 = 7 := by omega
    have hB : bB T t q0 o O0 k0 kd0 ar0 cn0 op0 ch0 = if ta T t q0 < 49 ∨ 52 < ta T t q0 ∨ ta T t (q0 + 1) ≠ 44 then none else some (q0 + 2, o + 1, O0 + 1, up1 kd0 o k0, up1 ar0 o (dgv 48 (ta T t q0)), up1 (c1f O0 cn0 op0) o 0, up1 op0 O0 o, h1f O0 o cn0 op0 ch0) := by unfold bB; rw [if_neg h7, k07]
    have bad : (ta T t q0 < 49 ∨ 52 < ta T t q0 ∨ ta T t (q0 + 1) ≠ 44) → bE T t F (bB T t q0 o O0 k0 kd0 ar0 cn0 op0 ch0) = none := fun z => by rw [hB, if_pos z]; rfl
    have go : ∀ (a : Nat) (u1 u2 : ab_S), a = dgv 48 (ta T t q0) → 1 ≤ a → a ≤ 9 → ¬ ta T t q0 < 49 → ta T t q0 ≤ 57 → ta T t (q0 + 1) = 44 → cP [1, 2, 10] u u2 → rQ u u1 (q0 + 2) → u2 = ab_ui u1 2 (np o) 5 (nI a) → ab_J p l e (ab_rm (d + 1) 0 0) s m args below meth c (MQ below (ab_Q D ca ad ab_nQ s.heap.size (rdP T t o (bE T t F (bB T t q0 o O0 k0 kd0 ar0 cn0 op0 ch0)) (ab_I 0) (ab_I 1) u)) args s 0 0 (ab_A ad ab_nQ s.heap.size)) D ca (ab_A ad ab_nQ s.heap.size) s.heap 8 0 0 ad ab_nQ u2 70 [(6, ab_I (nI 0)), (5, ab_I 4), (4, ab_I (nI a)), (0, ab_O 1 0), (1, ab_O 2 (np o)), (2, ab_I x), (3, ab_I y)] [] := by
      intro a u1 u2 ha a1 a9 c1 c2 c3 P2 R1 e2
      have fr : ∀ c i k, ¬ (c = 1 ∧ (k = 4 ∨ k = 5)) → ¬ (c = 2 ∧ i = np o ∧ k = 5) → u2.1 c i k = u.1 c i k := fun c i k h h' => by rw [e2]; exact (ui_n _ h').trans (R1.2.2.1 c i k h)
      have q2 := ta_lt c3 (by decide)
      have I2 : rdI T t (q0 + 2) (o + 1) (up1 kd0 o k0) u2 := ⟨P2.1, (fr _ _ _ (by omega) (by omega)).trans eL, fun k hk => (fr _ _ _ (by omega) (by omega)).trans (hT k hk), (by rw [e2]; exact (ui_n _ (by omega)).trans R1.2.1), by omega, (fr _ _ _ (by omega) (by omega)).trans eu, (fr _ _ _ (by omega) (by omega)).trans el, hl⟩
      by_cases a4 : a ≤ 4
      · have c4 : ¬ (52 : Int32) < ta T t q0 := fun z => by
          have e := (dgv_of (lo := 48) (hi := 57) (by decide) (by decide) (fun y => c1 (Int32.lt_trans y (by decide))) c2).2
          have hc : ta T t q0 = nI (a + 48) := by
            have : ta T t q0 - nI 48 + nI 48 = nI a + nI 48 := by rw [e, ha]
            rwa [Int32.sub_add_cancel, nI_add] at this
          rw [hc] at z
          exact absurd z (nI_nlt (a := 52) (by omega) (by omega))
        refine loop 4 0 4 (nI a) (q0 + 2) (o + 1) (O0 + 1) (up1 kd0 o k0) (up1 ar0 o a) (up1 (c1f O0 cn0 op0) o 0) (up1 op0 O0 o) (h1f O0 o cn0 op0 ch0) u2 rfl (if_neg h7).symm (by rw [up1_s, k07]; rfl) P2 I2 (by omega) (by rw [show O0 + 1 - 1 = O0 by omega, up1_s]) (by omega) (up1_s _ _ _) (up1_s _ _ _) (by rw [up1_s]; exact a4) (tab u2 a (by rw [k07]; exact gv e2) fr (by rw [e2]; exact R1.2.2.2)) ?_
        rw [hB, if_neg (fun z => z.elim c1 (fun y => y.elim c4 (fun w => w c3))), ha]; rfl
      · refine dead 4 0 4 (nI a) (q0 + 2) (o + 1) (O0 + 1) (up1 kd0 o k0) ar0 cn0 op0 ch0 u2 rfl (Or.inr rfl) (nI_lt (a := 4) (by omega) (by omega)) P2 I2 (bad (Or.inr (Or.inl ?_)))
        have e := (dgv_of (lo := 48) (hi := 57) (by decide) (by decide) (fun y => c1 (Int32.lt_trans y (by decide))) c2).2
        have hc : ta T t q0 = nI (a + 48) := by
          have : ta T t q0 - nI 48 + nI 48 = nI a + nI 48 := by rw [e, ha]
          rwa [Int32.sub_add_cancel, nI_add] at this
        rw [hc]
        exact nI_lt (a := 52) (by omega) (by omega)
    refine ab_iload_n X 2 d_RD_readBranches_0 rfl rfl ?_
    refine ab_bipush (v := 6) X d_RD_readBranches_1 (by decide) ?_
    refine ab_icmp_ne X 10 d_RD_readBranches_3 rfl (fun _ => ?_) (fun hb => absurd hb ((by rw [hx, k07]; decide)))
    refine ab_iconst (v := 1) X d_RD_readBranches_10 (by decide) ?_
    refine ab_istore4 X 0 1 2 3 d_RD_readBranches_11 (by decide) rfl rfl rfl rfl rfl rfl rfl rfl ?_
    refine ab_iload_n X 3 d_RD_readBranches_13 rfl rfl ?_
    refine ab_bipush (v := 8) X d_RD_readBranches_14 (by decide) ?_
    refine ab_icmp_ne X 23 d_RD_readBranches_16 rfl (fun hb => absurd ((by rw [hx, k07]; rfl)) hb) (fun _ => ?_)
    refine ab_iconst (v := 4) X d_RD_readBranches_19 (by decide) ?_
    refine ab_goto X 24 d_RD_readBranches_20 rfl ?_
    refine ab_istore5 X 0 1 2 3 4 d_RD_readBranches_24 (by decide) rfl rfl rfl rfl rfl rfl rfl rfl rfl rfl ?_
    refine ab_iload_n X 4 d_RD_readBranches_26 rfl rfl ?_
    refine ab_bipush (v := 8) X d_RD_readBranches_27 (by decide) ?_
    refine ab_icmp_ne X 61 d_RD_readBranches_29 rfl (fun hb => absurd ((by rw [hx, k07]; rfl)) hb) (fun _ => ?_)
    refine ab_iconst (v := 1) X d_RD_readBranches_32 (by decide) ?_
    refine ab_aload_n X 2 d_RD_readBranches_33 rfl rfl ?_
    refine ab_bipush (v := 49) X d_RD_readBranches_34 (by decide) ?_
    refine ab_bipush (v := 57) X d_RD_readBranches_36 (by decide) ?_
    refine ab_callV (as := [ab_I (nI 49), ab_I (nI 57)]) X (fun h => by cases h) (f_RD_oneOf u 49 57 q0 T t ht eL hT h (by omega) ea (by decide) (by decide)) lk_RD_114 d_RD_readBranches_38 rfl rfl (by first | assumption | decide | (show _ < 124; omega) | (show _ < 61; omega) | (show _ < 20; omega)) ⟨by first | exact Nat.le_of_ble_eq_true rfl | (simp only [ab_rm]; omega), by first | exact Nat.le_of_ble_eq_true rfl | (simp only [ab_rm]; omega)⟩ ⟨by first | exact Nat.le_of_ble_eq_true rfl | (simp only [ab_rm]; omega), by first | exact Nat.le_of_ble_eq_true rfl | (simp only [ab_rm]; omega)⟩ (Nat.le_of_ble_eq_true rfl) (fun u38 r38 h38 => ?_)
    rcases h38 with ⟨d38, e38, q38, l38, rfl⟩ | ⟨d38, q38, rfl⟩
    ·
      have P38 := P0.trans q38 (by decide)
      have hdg := (dgv_of (lo := 49) (hi := 57) (by decide) (by decide) d38.1 d38.2).1
      have hd1 := dgv1 d38.1 d38.2
      refine ab_iadd X d_RD_readBranches_41 ?_
      refine ab_top (show _ = nI (1 + dgv 49 (ta T t q0)) from nI_add 1 _) ?_
      refine ab_istore5 X 0 2 3 4 5 d_RD_readBranches_42 (by decide) rfl rfl rfl rfl rfl rfl rfl rfl rfl rfl ?_
      refine ab_iload X 0 d_RD_readBranches_44 rfl ?_
      refine ab_iconst (v := 1) X d_RD_readBranches_46 (by decide) ?_
      refine ab_icmp_lt X 59 d_RD_readBranches_47 rfl (fun hb => absurd hb ((nI_nlt (b := 1) (by omega) (by omega)))) (fun _ => ?_)
      refine ab_aload_n X 2 d_RD_readBranches_50 rfl rfl ?_
      refine ab_bipush (v := 44) X d_RD_readBranches_51 (by decide) ?_
      refine ab_callV (as := [ab_I 44]) X (fun h => by cases h) (f_RD_expect u38 44 (q0 + 1) T t ht (by rw [e38]; exact (ui_n _ (by omega)).trans eL) (fun k hk => by rw [e38]; exact (ui_n _ (by omega)).trans (hT k hk)) P38.1 (by omega) (gv e38) (by decide)) lk_RD_124 d_RD_readBranches_53 rfl rfl (by first | assumption | decide | (show _ < 124; omega) | (show _ < 61; omega) | (show _ < 20; omega)) ⟨by first | exact Nat.le_of_ble_eq_true rfl | (simp only [ab_rm]; omega), by first | exact Nat.le_of_ble_eq_true rfl | (simp only [ab_rm]; omega)⟩ ⟨by first | exact Nat.le_of_ble_eq_true rfl | (simp only [ab_rm]; omega), by first | exact Nat.le_of_ble_eq_true rfl | (simp only [ab_rm]; omega)⟩ (Nat.le_of_ble_eq_true rfl) (fun u53 r53 h53 => ?_)
      rcases h53 with ⟨x53, e53, q53, rfl⟩ | ⟨x53, q53, rfl⟩
      ·
        have P53 := P38.trans q53 (by decide)
        refine ab_if_ne X 61 d_RD_readBranches_56 rfl (fun _ => ?_) (fun hb => absurd hb ((by decide)))
        refine ab_aload_n X 3 d_RD_readBranches_61 rfl rfl ?_
        refine ab_iload X 0 d_RD_readBranches_62 rfl ?_
        refine ab_putI X fp_RD_118 d_RD_readBranches_64 (by first | assumption | decide | (show _ < 124; omega) | (show _ < 61; omega) | (show _ < 20; omega)) rfl rfl ?_
        refine ab_gen (fun u64 e64 => ?_)
        have P64 : cP [1, 2, 10] u u64 := by rw [e64]; exact P53.ui rfl (by decide)
        refine ab_iconst (v := 0) X d_RD_readBranches_67 (by decide) ?_
        refine ab_istore6 X 0 1 2 3 4 5 d_RD_readBranches_68 (by decide) rfl rfl rfl rfl rfl rfl rfl rfl rfl rfl rfl rfl ?_
        refine ab_lv (List.forall_mem_cons.mpr ⟨List.mem_of_getElem? (i := 0) rfl, List.forall_mem_cons.mpr ⟨List.mem_of_getElem? (i := 2) rfl, List.forall_mem_cons.mpr ⟨List.mem_of_getElem? (i := 1) rfl, List.forall_mem_cons.mpr ⟨List.mem_of_getElem? (i := 3) rfl, List.forall_mem_cons.mpr ⟨List.mem_of_getElem? (i := 4) rfl, List.forall_mem_cons.mpr ⟨List.mem_of_getElem? (i := 5) rfl, List.forall_mem_cons.mpr ⟨List.mem_of_getElem? (i := 6) rfl, fun _ h => absurd h List.not_mem_nil⟩⟩⟩⟩⟩⟩⟩) ?_
        exact go (1 + dgv 49 (ta T t q0)) u53 _ (by omega) (by omega) (by omega) d38.1 d38.2 x53 P64 ⟨P53, gv e53, fun c i k z => by rw [e53, e38]; exact (ui_n _ (by omega)).trans (ui_n _ (by omega)), by rw [e53, e38]⟩ e64
      ·
        have P53 := P38.trans q53 (by decide)
        refine ab_if_ne X 61 d_RD_readBranches_56 rfl (fun hb => absurd ((by decide)) hb) (fun _ => ?_)
        refine ab_iconst (v := 0) X d_RD_readBranches_59 (by decide) ?_
        exact ab_retz X hr0 hlk (Or.inl rfl) d_RD_readBranches_60 (Or.inl ⟨bad (Or.inr (Or.inr x53)), P53, rfl⟩)
    ·
      have P38 := P0.trans q38 (by decide)
      refine ab_iadd X d_RD_readBranches_41 ?_
      refine ab_istore5 X 0 2 3 4 5 d_RD_readBranches_42 (by decide) rfl rfl rfl rfl rfl rfl rfl rfl rfl rfl ?_
      refine ab_iload X 0 d_RD_readBranches_44 rfl ?_
      refine ab_iconst (v := 1) X d_RD_readBranches_46 (by decide) ?_
      refine ab_icmp_lt X 59 d_RD_readBranches_47 rfl (fun _ => ?_) (fun hb => absurd ((by decide)) hb)
      refine ab_iconst (v := 0) X d_RD_readBranches_59 (by decide) ?_
      exact ab_retz X hr0 hlk (Or.inl rfl) d_RD_readBranches_60 (Or.inl ⟨bad (by rcases d38 with z | z; exact Or.inl z; exact Or.inr (Or.inl (Int32.lt_trans (by decide) z))), P38, rfl⟩)
end SaReadF

