/-! The class's reader: a part; the whole; read. -/
def bP (T : Nat → Int32) (t : Nat) (F : Cf → Option Cf) (O : Nat) (c : Option Cf) : Option Cf := match c with
  | none => none
  | some c1 => if c1.2.2.1 = O then some c1 else pK T t F 4 c1
theorem pP_s (T : Nat → Int32) (t n q M O : Nat) (kd ar cn op : Nat → Nat) (ch : Nat → Nat → Nat) : pP T t (n + 1) (q, M, O, kd, ar, cn, op, ch) = bP T t (pP T t n) O (bg T t q M O kd ar cn op ch) := rfl
theorem lcn_up (kd : Nat → Nat) (M k : Nat) : lcn (up1 kd M k) (M + 1) = lcn kd M + (if k < 5 then 1 else 0) := by
  show lcn (up1 kd M k) M + (if up1 kd M k M < 5 then 1 else 0) = _
  rw [up1_s, lcn_congr M (fun i hi => up1_n _ (by omega))]
section Bg
variable {T : Nat → Int32} {t q M O j : Nat} {kd ar cn op : Nat → Nat} {ch : Nat → Nat → Nat} {F : Cf → Option Cf}
theorem bg_0 (h : kA T t q = 0) : bg T t q M O kd ar cn op ch = none := if_pos (Or.inl h)
theorem bg_l0 (h : kA T t q = j + 1) (hj : j < 4) (z : lcn kd M = 10 ∨ lfA T t (j + 1) (q + ab_sl.getD j 0) = none) : bg T t q M O kd ar cn op ch = none := by
  unfold bg
  rw [h]
  by_cases h1 : lcn kd M = 10
  · exact if_pos (Or.inr ⟨by omega, h1⟩)
  · rw [if_neg (by omega), if_pos (show j + 1 < 5 by omega), show j + 1 - 1 = j by omega, z.resolve_left h1]
theorem bg_l1 (h : kA T t q = j + 1) (hj : j < 4) (h1 : lcn kd M < 10) {a q2 : Nat} (z : lfA T t (j + 1) (q + ab_sl.getD j 0) = some (a, q2)) : bg T t q M O kd ar cn op ch = some (q2, M + 1, O, up1 kd M (j + 1), up1 ar M a, up1 (c1f O cn op) M 0, op, h1f O M cn op ch) := by
  unfold bg
  rw [h, if_neg (by omega), if_pos (show j + 1 < 5 by omega), show j + 1 - 1 = j by omega, z]
theorem bg_b (h : kA T t q = j + 1) (hj : ¬ j < 4) (hj7 : j < 7) : bg T t q M O kd ar cn op ch = bB T t (q + ab_sl.getD j 0) M O (j + 1) kd ar cn op ch := by
  unfold bg bB
  rw [h, if_neg (by omega), if_neg (show ¬ j + 1 < 5 by omega), show j + 1 - 1 = j by omega]
  have h' : j = 4 ∨ j = 5 ∨ j = 6 := by omega
  rcases h' with rfl | rfl | rfl
  · rw [if_pos (by omega), if_pos (by omega)]
  · rw [if_pos (by omega), if_pos (by omega)]
  · rw [if_neg (show ¬ 6 + 1 < 7 by decide), show ab_sl.getD 6 0 = 4 from rfl, if_neg (show ¬ 6 + 1 < 7 by decide)]
theorem bP_b (k : Nat) : bP T t F O (bB T t q M O k kd ar cn op ch) = bE T t F (bB T t q M O k kd ar cn op ch) := by
  unfold bB
  by_cases h7 : k < 7
  · rw [if_pos h7]
    show (if O + 1 = O then _ else _) = _
    rw [if_neg (by omega)]; rfl
  · rw [if_neg h7]
    split
    · rfl
    · show (if O + 1 = O then _ else _) = _
      rw [if_neg (by omega)]; rfl
theorem bP_M (hF : ∀ c c', F c = some c' → fTc c c') {q' M' O' : Nat} {kd' ar' cn' op' : Nat → Nat} {ch' : Nat → Nat → Nat} (h : bP T t F O (bg T t q M O kd ar cn op ch) = some (q', M', O', kd', ar', cn', op', ch')) : M < M' := by
  cases hb : bg T t q M O kd ar cn op ch with
  | none => rw [hb] at h; cases h
  | some c1 =>
    rw [hb] at h
    replace h : (if c1.2.2.1 = O then some c1 else pK T t F 4 c1) = some (q', M', O', kd', ar', cn', op', ch') := h
    obtain ⟨q1, a, O1, op1, rfl, hO⟩ := bg_fr hb
    rcases hO with ⟨rfl, rfl, -⟩ | ⟨rfl, rfl, -⟩
    · rw [if_pos rfl] at h
      cases h
      exact Nat.lt_succ_self _
    · rw [if_neg (show ¬ O + 1 = O by omega)] at h
      have z := (pK_fr hF 4 _ _ (show 1 ≤ O + 1 by omega) h).2.1
      exact z
end Bg
section SaPartF
variable {l : Launch} {D : va_G} {ca : Nat → ClassId}
set_option maxRecDepth 100000 in
set_option maxHeartbeats 1000000 in
theorem f_RD_readPart0 (T : Nat → Int32) (t : Nat) (u : ab_S) (M : Nat) (y : Int32) (h : CI u) (hy : 40 < y) (d : Nat) (hd : 1 ≤ d) : ab_C true l D ca y_RD_readPart b_RD_readPart 6 (some (FieldType.object "PolicyForge$Part")) d ab_nQ u [ab_O 1 0, ab_I y] (rdP T t M none (ab_R none) (ab_O 2 (np M)) u) := by
  refine ab_C.of (by decide) (Nat.le_of_ble_eq_true rfl) ?_
  intro p e s m args below meth c ad X hZ hr0 hlk
  have P0 : cP [1, 2, 10] u u := cQ.rf h
  refine ab_aload_n X 0 d_RD_readPart_0 rfl rfl ?_
  refine ab_gI X fl_RD_30 d_RD_readPart_1 (by first | assumption | decide | (show _ < 124; omega) | (show _ < 61; omega) | (show _ < 20; omega)) (rfl) ?_
  refine ab_istore_n2 X 0 1 d_RD_readPart_4 rfl (by decide) rfl rfl rfl rfl ?_
  refine ab_iload_n X 2 d_RD_readPart_5 rfl rfl ?_
  refine ab_bipush (v := 40) X d_RD_readPart_6 (by decide) ?_
  refine ab_icmp_le X 22 d_RD_readPart_8 rfl (fun hb => absurd hb (Int32.not_le.mpr hy)) (fun _ => ?_)
  refine ab_aload_n X 1 d_RD_readPart_11 rfl rfl ?_
  refine ab_aload_n X 1 d_RD_readPart_12 rfl rfl ?_
  refine ab_gI X fl_RD_30 d_RD_readPart_13 (by first | assumption | decide | (show _ < 124; omega) | (show _ < 61; omega) | (show _ < 20; omega)) (rfl) ?_
  refine ab_callV (as := [ab_I _]) X (fun h => by cases h) (f_RD_refuse u _ h) lk_RD_46 d_RD_readPart_16 rfl rfl (by first | assumption | decide | (show _ < 124; omega) | (show _ < 61; omega) | (show _ < 20; omega)) ⟨by first | exact Nat.le_of_ble_eq_true rfl | (simp only [ab_rm]; omega), by first | exact Nat.le_of_ble_eq_true rfl | (simp only [ab_rm]; omega)⟩ ⟨by first | exact Nat.le_of_ble_eq_true rfl | (simp only [ab_rm]; omega), by first | exact Nat.le_of_ble_eq_true rfl | (simp only [ab_rm]; omega)⟩ (Nat.le_of_ble_eq_true rfl) (fun u16 r16 h16 => ?_)
  obtain ⟨q16, rfl⟩ := h16
  have P16 := P0.trans q16 (by decide)
  refine ab_pop X d_RD_readPart_19 rfl ?_
  refine ab_null X d_RD_readPart_20 ?_
  exact ab_retr X hr0 hlk d_RD_readPart_21 (Or.inl ⟨rfl, P16, rfl⟩)
set_option maxRecDepth 100000 in
set_option maxHeartbeats 1000000 in
theorem f_RD_readPart1 (T : Nat → Int32) (t : Nat) (ht : t ≤ 100) (d : Nat) (y : Int32) (F : Cf → Option Cf) (hF : ∀ c c', F c = some c' → fTc c c') (W : ∀ (u : ab_S) (q M O : Nat) (kd ar cn op : Nat → Nat) (ch : Nat → Nat → Nat), rdI T t q M kd u → ab_C true l D ca y_RD_readPart b_RD_readPart 6 (some (.object "PolicyForge$Part")) d ab_nQ u [ab_O 1 0, ab_I (y + 1)] (rdP T t M (F (q, M, O, kd, ar, cn, op, ch)) (ab_R none) (ab_O 2 (np M)) u)) (u : ab_S) (q M O : Nat) (kd ar cn op : Nat → Nat) (ch : Nat → Nat → Nat) (I : rdI T t q M kd u) (hy : y ≤ 40) (hd : 6 ≤ d) : ab_C true l D ca y_RD_readPart b_RD_readPart 6 (some (FieldType.object "PolicyForge$Part")) (d + 2) ab_nQ u [ab_O 1 0, ab_I y] (rdP T t M (bP T t F O (bg T t q M O kd ar cn op ch)) (ab_R none) (ab_O 2 (np M)) u) := by
  have h : CI u := I.1
  refine ab_C.of (by decide) (Nat.le_of_ble_eq_true rfl) ?_
  intro p e s m args below meth c ad X hZ hr0 hlk
  have P0 : cP [1, 2, 10] u u := cQ.rf h
  obtain ⟨-, eL, hT, ea, hq, eu, el, hl⟩ := I
  refine ab_aload_n X 0 d_RD_readPart_0 rfl rfl ?_
  refine ab_gI X fl_RD_30 d_RD_readPart_1 (by first | assumption | decide | (show _ < 124; omega) | (show _ < 61; omega) | (show _ < 20; omega)) (rfl) ?_
  refine ab_istore_n2 X 0 1 d_RD_readPart_4 rfl (by decide) rfl rfl rfl rfl ?_
  refine ab_iload_n X 2 d_RD_readPart_5 rfl rfl ?_
  refine ab_bipush (v := 40) X d_RD_readPart_6 (by decide) ?_
  refine ab_icmp_le X 22 d_RD_readPart_8 rfl (fun _ => ?_) (fun hb => absurd (hy) hb)
  refine ab_aload_n X 1 d_RD_readPart_22 rfl rfl ?_
  refine ab_callV (as := []) X (fun _ => hZ rfl) (f_RD_kindHere u q T t ht eL hT h (by omega) ea) lk_RD_50 d_RD_readPart_23 rfl rfl (by first | assumption | decide | (show _ < 124; omega) | (show _ < 61; omega) | (show _ < 20; omega)) ⟨by first | exact Nat.le_of_ble_eq_true rfl | (simp only [ab_rm]; omega), by first | exact Nat.le_of_ble_eq_true rfl | (simp only [ab_rm]; omega)⟩ ⟨by first | exact Nat.le_of_ble_eq_true rfl | (simp only [ab_rm]; omega), by first | exact Nat.le_of_ble_eq_true rfl | (simp only [ab_rm]; omega)⟩ (Nat.le_of_ble_eq_true rfl) (fun u23 r23 h23 => ?_)
  rcases h23 with ⟨j, hj, k23, l23, e23, q23, rfl⟩ | ⟨k23, q23, rfl⟩
  ·
    have P23 := P0.trans q23 (by decide)
    refine ab_istore_n3 X 0 1 2 d_RD_readPart_26 rfl (by decide) rfl rfl rfl rfl rfl rfl ?_
    refine ab_iload_n X 0 d_RD_readPart_27 rfl rfl ?_
    refine ab_if_ne X 33 d_RD_readPart_28 rfl (fun _ => ?_) (fun hb => absurd hb ((kd_ne j hj)))
    refine ab_aload_n X 2 d_RD_readPart_33 rfl rfl ?_
    refine ab_iload_n X 0 d_RD_readPart_34 rfl rfl ?_
    refine ab_callV (as := [ab_I (ab_kinds j)]) X (fun h => by cases h) (f_RD_newPart u23 M (ab_kinds j) P23.1 (by rw [e23]; exact (ui_n _ (by omega)).trans eu)) lk_RD_54 d_RD_readPart_35 rfl rfl (by first | assumption | decide | (show _ < 124; omega) | (show _ < 61; omega) | (show _ < 20; omega)) ⟨by first | exact Nat.le_of_ble_eq_true rfl | (simp only [ab_rm]; omega), by first | exact Nat.le_of_ble_eq_true rfl | (simp only [ab_rm]; omega)⟩ ⟨by first | exact Nat.le_of_ble_eq_true rfl | (simp only [ab_rm]; omega), by first | exact Nat.le_of_ble_eq_true rfl | (simp only [ab_rm]; omega)⟩ (Nat.le_of_ble_eq_true rfl) (fun u35 r35 h35 => ?_)
    obtain ⟨q35, N35, rfl⟩ := h35
    have P35 := P23.trans q35 (by decide)
    have fr : ∀ c i k, ¬ (c = 1 ∧ (k = 4 ∨ k = 7)) → ¬ (c = 2 ∧ i = np M ∧ (k = 4 ∨ k = 5 ∨ k = 6)) → u35.1 c i k = u.1 c i k := fun c i k a b => (N35.2.2.2.2.1 c i k (by omega) b).trans (by rw [e23]; exact ui_n _ (by omega))
    have rr : u35.2.1 = u.2.1 := N35.2.2.2.2.2.trans (by rw [e23])
    have a35 : u35.1 1 0 4 = nI (q + ab_sl.getD j 0) := (N35.2.2.2.2.1 1 0 4 (by omega) (by omega)).trans (gv e23)
    have eL35 := (fr 1 0 3 (by omega) (by omega)).trans eL
    have hT35 : ∀ k, k < t → u35.1 11 0 k = T k := fun k hk => (fr _ _ _ (by omega) (by omega)).trans (hT k hk)
    have el35 := (fr 1 0 6 (by omega) (by omega)).trans el
    have kq35 : M < 19 → ∀ p, p < M → kq p u u35 := fun h19 p hp => ⟨fun k z => fr _ _ _ (by omega) (by rw [np_in h19]; omega), fun i => by rw [rr]⟩
    refine ab_astore4 X 0 1 2 3 d_RD_readPart_38 (by decide) rfl rfl rfl rfl rfl rfl rfl rfl ?_
    refine ab_iload_n X 1 d_RD_readPart_40 rfl rfl ?_
    refine ab_callSN (as := [ab_I (ab_kinds j)]) X (fun h => by cases h) (t_PF_leafk u35 j P35.1 hj) ls_RD_57 d_RD_readPart_41 rfl rfl ⟨by first | exact Nat.le_of_ble_eq_true rfl | (simp only [ab_rm]; omega), by first | exact Nat.le_of_ble_eq_true rfl | (simp only [ab_rm]; omega)⟩ ⟨by first | exact Nat.le_of_ble_eq_true rfl | (simp only [ab_rm]; omega), by first | exact Nat.le_of_ble_eq_true rfl | (simp only [ab_rm]; omega)⟩ (Nat.le_of_ble_eq_true rfl) (fun u41 r41 h41 => ?_)
    obtain ⟨e41, rfl⟩ := h41
    subst u41
    refine ab_if_eq X 57 d_RD_readPart_44 rfl (fun h44 => ?_) (fun h44 => ?_)
    ·
      have j4 : ¬ j < 4 := fun z => absurd h44 (by rw [if_pos z]; decide)
      have I35 : rdI T t (q + ab_sl.getD j 0) (M + 1) (up1 kd M (j + 1)) u35 := ⟨P35.1, eL35, hT35, a35, l23, N35.1, by rw [lcn_up, if_neg (by omega)]; exact el35, by rw [lcn_up, if_neg (by omega)]; exact hl⟩
      refine ab_aload_n X 3 d_RD_readPart_57 rfl rfl ?_
      refine ab_aload X 0 d_RD_readPart_58 rfl ?_
      refine ab_iload_n X 1 d_RD_readPart_60 rfl rfl ?_
      refine ab_iload_n X 4 d_RD_readPart_61 rfl rfl ?_
      refine ab_callV (as := [ab_O 2 (np M), ab_I _, ab_I y]) X (fun _ => hZ rfl) (f_RD_readBranches T t ht d y F hF W u35 (q + ab_sl.getD j 0) M O (j + 1) kd ar cn op ch I35 (by omega) (by omega) (ab_kinds j) (ck_kd j hj) N35.2.1 N35.2.2.2.1 (by omega)) lk_RD_64 d_RD_readPart_62 rfl rfl (by first | assumption | decide | (show _ < 124; omega) | (show _ < 61; omega) | (show _ < 20; omega)) ⟨by first | exact Nat.le_of_ble_eq_true rfl | (simp only [ab_rm]; omega), by first | exact Nat.le_of_ble_eq_true rfl | (simp only [ab_rm]; omega)⟩ ⟨by first | exact Nat.le_of_ble_eq_true rfl | (simp only [ab_rm]; omega), by first | exact Nat.le_of_ble_eq_true rfl | (simp only [ab_rm]; omega)⟩ (Nat.le_of_ble_eq_true rfl) (fun u62 r62 h62 => ?_)
      rcases h62 with ⟨f62, q62, rfl⟩ | ⟨q', M', O', kd', ar', cn', op', ch', f62, q62, I62, T62, rfl⟩
      ·
        have P62 := P35.trans q62 (by decide)
        refine ab_istore5 X 0 1 2 3 4 d_RD_readPart_65 (by decide) rfl rfl rfl rfl rfl rfl rfl rfl rfl rfl ?_
        refine ab_iload X 0 d_RD_readPart_67 rfl ?_
        refine ab_if_eq X 77 d_RD_readPart_69 rfl (fun _ => ?_) (fun hb => absurd ((by decide)) hb)
        refine ab_null X d_RD_readPart_77 ?_
        exact ab_retr X hr0 hlk d_RD_readPart_78 (Or.inl ⟨by rw [bg_b k23 j4 hj, bP_b]; exact f62, P62, rfl⟩)
      ·
        have P62 := P35.trans q62 (by decide)
        have hh : bP T t F O (bg T t q M O kd ar cn op ch) = some (q', M', O', kd', ar', cn', op', ch') := by rw [bg_b k23 j4 hj, bP_b]; exact f62
        have m19 : M' ≤ 19 → M < 19 := fun z => Nat.lt_of_lt_of_le (bP_M hF hh) z
        refine ab_istore5 X 0 1 2 3 4 d_RD_readPart_65 (by decide) rfl rfl rfl rfl rfl rfl rfl rfl rfl rfl ?_
        refine ab_iload X 0 d_RD_readPart_67 rfl ?_
        refine ab_if_eq X 77 d_RD_readPart_69 rfl (fun hb => absurd hb ((by decide))) (fun _ => ?_)
        refine ab_aload X 1 d_RD_readPart_72 rfl ?_
        refine ab_goto X 78 d_RD_readPart_74 rfl ?_
        exact ab_retr X hr0 hlk d_RD_readPart_78 (Or.inr ⟨_, _, _, _, _, _, _, _, by rw [bg_b k23 j4 hj, bP_b]; exact f62, P62, I62, fun h19 => ⟨(T62 h19).1, fun p hp => (kq35 (m19 h19) p hp).trans ((T62 h19).2 p hp)⟩, rfl⟩)
    ·
      have j4 : j < 4 := Classical.byContradiction (fun z => h44 (if_neg z))
      refine ab_aload_n X 3 d_RD_readPart_47 rfl rfl ?_
      refine ab_aload X 0 d_RD_readPart_48 rfl ?_
      refine ab_iload_n X 2 d_RD_readPart_50 rfl rfl ?_
      refine ab_callV (as := [ab_O 2 (np M), ab_I _]) X (fun h => by cases h) (f_RD_readLeaf u35 (np M) (q + ab_sl.getD j 0) (j + 1) (lcn kd M) _ T t ht eL35 hT35 P35.1 l23 a35 (np_lt M) (N35.2.1.trans (by rw [ck_kd j hj]; unfold ck; rw [if_pos (by omega)])) (by omega) (by omega) el35 hl) lk_RD_60 d_RD_readPart_51 rfl rfl (by first | assumption | decide | (show _ < 124; omega) | (show _ < 61; omega) | (show _ < 20; omega)) ⟨by first | exact Nat.le_of_ble_eq_true rfl | (simp only [ab_rm]; omega), by first | exact Nat.le_of_ble_eq_true rfl | (simp only [ab_rm]; omega)⟩ ⟨by first | exact Nat.le_of_ble_eq_true rfl | (simp only [ab_rm]; omega), by first | exact Nat.le_of_ble_eq_true rfl | (simp only [ab_rm]; omega)⟩ (Nat.le_of_ble_eq_true rfl) (fun u51 r51 h51 => ?_)
      rcases h51 with ⟨a51, q51', f51, l51, m51, n51, q51, L51, rfl⟩ | ⟨f51, q51, rfl⟩
      ·
        have P51 := P35.trans q51 (by decide)
        refine ab_goto X 65 d_RD_readPart_54 rfl ?_
        refine ab_istore5 X 0 1 2 3 4 d_RD_readPart_65 (by decide) rfl rfl rfl rfl rfl rfl rfl rfl rfl rfl ?_
        refine ab_iload X 0 d_RD_readPart_67 rfl ?_
        refine ab_if_eq X 77 d_RD_readPart_69 rfl (fun hb => absurd hb ((by decide))) (fun _ => ?_)
        refine ab_aload X 1 d_RD_readPart_72 rfl ?_
        refine ab_goto X 78 d_RD_readPart_74 rfl ?_
        refine ab_retr X hr0 hlk d_RD_readPart_78 (Or.inr ⟨_, _, _, _, _, _, _, _, by rw [bg_l1 k23 j4 l51 f51]; exact if_pos rfl, P51, ⟨P51.1, (L51.2.2.2.1 _ _ _ (by omega) (by omega)).trans eL35, fun k hk => (L51.2.2.2.1 _ _ _ (by omega) (by omega)).trans (hT35 k hk), L51.1, m51, (L51.2.2.2.1 _ _ _ (by omega) (by omega)).trans N35.1, by rw [lcn_up, if_pos (by omega)]; exact L51.2.1, by rw [lcn_up, if_pos (by omega)]; omega⟩, fun h19 => ⟨fun p a b => ?_, fun p hp => (kq35 (by omega) p hp).trans ⟨fun k z => L51.2.2.2.1 _ _ _ (by omega) (by rw [np_in (M := M) (by omega)]; omega), fun i => by rw [L51.2.2.2.2]⟩⟩, rfl⟩)
        obtain rfl : p = M := by omega
        have hn : np p = p + 1 := np_in (by omega)
        unfold nP at N35
        rw [hn] at L51 N35
        refine ⟨?_, ?_, ?_, fun i hi => ?_⟩
        · rw [up1_s, L51.2.2.2.1 _ _ _ (by omega) (by omega), N35.2.1, ck_kd j hj]
        · rw [up1_s, up1_s, show cnu (j + 1) a51 = a51 by unfold cnu; rw [if_neg (by omega), if_neg (by omega)]]; exact L51.2.2.1
        · rw [up1_s, L51.2.2.2.1 _ _ _ (by omega) (by omega)]; exact N35.2.2.2.1
        · rw [up1_s] at hi; exact absurd hi (Nat.not_lt_zero i)
      ·
        have P51 := P35.trans q51 (by decide)
        refine ab_goto X 65 d_RD_readPart_54 rfl ?_
        refine ab_istore5 X 0 1 2 3 4 d_RD_readPart_65 (by decide) rfl rfl rfl rfl rfl rfl rfl rfl rfl rfl ?_
        refine ab_iload X 0 d_RD_readPart_67 rfl ?_
        refine ab_if_eq X 77 d_RD_readPart_69 rfl (fun _ => ?_) (fun hb => absurd ((by decide)) hb)
        refine ab_null X d_RD_readPart_77 ?_
        exact ab_retr X hr0 hlk d_RD_readPart_78 (Or.inl ⟨by rw [bg_l0 k23 j4 f51]; rfl, P51, rfl⟩)
  ·
    have P23 := P0.trans q23 (by decide)
    refine ab_istore_n3 X 0 1 2 d_RD_readPart_26 rfl (by decide) rfl rfl rfl rfl rfl rfl ?_
    refine ab_iload_n X 0 d_RD_readPart_27 rfl rfl ?_
    refine ab_if_ne X 33 d_RD_readPart_28 rfl (fun hb => absurd ((by decide)) hb) (fun _ => ?_)
    refine ab_null X d_RD_readPart_31 ?_
    exact ab_retr X hr0 hlk d_RD_readPart_32 (Or.inl ⟨by rw [bg_0 k23]; rfl, P23, rfl⟩)
theorem f_RD_readPart (T : Nat → Int32) (t : Nat) (ht : t ≤ 100) (n : Nat) : ∀ (j : Nat) (u : ab_S) (q M O : Nat) (kd ar cn op : Nat → Nat) (ch : Nat → Nat → Nat), j + n = 41 → rdI T t q M kd u → ab_C true l D ca y_RD_readPart b_RD_readPart 6 (some (.object "PolicyForge$Part")) (2 * n + 6) ab_nQ u [ab_O 1 0, ab_I (nI j)] (rdP T t M (pP T t n (q, M, O, kd, ar, cn, op, ch)) (ab_R none) (ab_O 2 (np M)) u) := by
  induction n with
  | zero => exact fun j u q M O kd ar cn op ch hj h => f_RD_readPart0 T t u M (nI j) h.1 (by obtain rfl : j = 41 := (by omega); decide) 6 (by decide)
  | succ n ih =>
    intro j u q M O kd ar cn op ch hj h
    refine f_RD_readPart1 T t ht (2 * n + 6) (nI j) (pP T t n) (fun c c' z => pP_fr n c c' z) (fun u1 q1 M1 O1 kd1 ar1 cn1 op1 ch1 h1 => ?_) u q M O kd ar cn op ch h (nI_le (b := 40) (by omega) (by decide)) (by omega)
    rw [show nI j + 1 = nI (j + 1) from (nI_succ j).symm]
    exact ih (j + 1) u1 q1 M1 O1 kd1 ar1 cn1 op1 ch1 (by omega) h1
/-- the class's tree -/
def cT (M : Nat) (kd ar cn : Nat → Nat) (ch : Nat → Nat → Nat) (u : ab_S) : Prop := u.1 1 0 7 = nI (mn M) ∧ u.1 1 0 6 = nI (lcn kd M) ∧ (M ≤ 19 → ∀ p, p < M → pm kd ar cn ch p u)
set_option maxRecDepth 100000 in
set_option maxHeartbeats 1000000 in
theorem f_RD_whole (u : ab_S) (T : Nat → Int32) (t : Nat) (ht : t ≤ 100) (eL : u.1 1 0 3 = nI t) (hT : ∀ k, k < t → u.1 11 0 k = T k) (h : CI u) : ab_C true l D ca y_RD_whole b_RD_whole 2 (some (FieldType.object "PolicyForge$Part")) 90 ab_nQ u [ab_O 1 0] (fun u' v => (parse T t = none ∧ wP u u' ∧ v = some (ab_R none)) ∨ ∃ (q M O : Nat) (kd ar cn op : Nat → Nat) (ch : Nat → Nat → Nat), parse T t = some (q, M, O, kd, ar, cn, op, ch) ∧ wP u u' ∧ cT M kd ar cn ch u' ∧ (∀ i k, u'.1 5 i k = u.1 5 i k) ∧ v = some (ab_O 2 1)) := by
  refine ab_C.of (by decide) (Nat.le_of_ble_eq_true rfl) ?_
  intro p e s m args below meth c ad X hZ hr0 hlk
  have P0 : cP [1, 2, 10] u u := cQ.rf h
  have fin : ∀ (u1 : ab_S) (r : Option (Nat × Nat)), cP [1, 2, 10] u u1 → (∀ u', u' = ab_ui u1 1 0 3 0 → wP u u' → ((fun u' v => (parse T t = none ∧ wP u u' ∧ v = some (ab_R none)) ∨ ∃ (q M O : Nat) (kd ar cn op : Nat → Nat) (ch : Nat → Nat → Nat), parse T t = some (q, M, O, kd, ar, cn, op, ch) ∧ wP u u' ∧ cT M kd ar cn ch u' ∧ (∀ i k, u'.1 5 i k = u.1 5 i k) ∧ v = some (ab_O 2 1)) : ab_S → Option ab_V → Prop) u' (some (ab_R r))) → ab_J p l e (ab_rm 90 0 0) s m args below meth c (MQ below (ab_Q D ca ad ab_nQ s.heap.size (fun u' v => (parse T t = none ∧ wP u u' ∧ v = some (ab_R none)) ∨ ∃ (q M O : Nat) (kd ar cn op : Nat → Nat) (ch : Nat → Nat → Nat), parse T t = some (q, M, O, kd, ar, cn, op, ch) ∧ wP u u' ∧ cT M kd ar cn ch u' ∧ (∀ i k, u'.1 5 i k = u.1 5 i k) ∧ v = some (ab_O 2 1))) args s 0 0 (ab_A ad ab_nQ s.heap.size)) D ca (ab_A ad ab_nQ s.heap.size) s.heap 2 0 0 ad ab_nQ u1 51 [(1, ab_R r), (0, ab_O 1 0)] [] := by
    intro u1 r P1 hr
    refine ab_aload_n X 1 d_RD_whole_51 rfl rfl ?_
    refine ab_iconst (v := 0) X d_RD_whole_52 (by decide) ?_
    refine ab_putI X fp_RD_26 d_RD_whole_53 (by first | assumption | decide) rfl rfl ?_
    refine ab_aload_n X 0 d_RD_whole_56 rfl rfl ?_
    exact ab_retr X hr0 hlk d_RD_whole_57 (hr _ rfl (wP.len (P1.wk (by decide))))
  have I17 : ∀ {u2 u7 u12 u17 : ab_S}, u2 = ab_ui u 1 0 4 0 → u7 = ab_ui u2 1 0 5 (-1) → u12 = ab_ui u7 1 0 6 0 → u17 = ab_ui u12 1 0 7 0 → CI u17 → rdI T t 0 0 z1f u17 := by
    intro u2 u7 u12 u17 e2 e7 e12 e17 h17
    have fr : ∀ c i k, ¬ (c = 1 ∧ (k = 4 ∨ k = 5 ∨ k = 6 ∨ k = 7)) → u17.1 c i k = u.1 c i k := fun c i k z => by rw [e17, e12, e7, e2]; exact (ui_n _ (by omega)).trans ((ui_n _ (by omega)).trans ((ui_n _ (by omega)).trans (ui_n _ (by omega))))
    exact ⟨h17, (fr _ _ _ (by omega)).trans eL, fun k hk => (fr _ _ _ (by omega)).trans (hT k hk), by rw [e17, e12, e7, e2]; simp [ab_up]; rfl, Nat.zero_le _, gv e17, by rw [e17, e12]; simp [ab_up]; rfl, by decide⟩
  have pr : ∀ {E : Option Cf}, pP T t 41 (0, 0, 0, z1f, z1f, z1f, z1f, z2f) = E → parse T t = match E with | none => none | some c => if c.1 < t then none else some c := fun {E} e => by unfold parse; rw [e]; cases E <;> rfl
  refine ab_aload_n X 0 d_RD_whole_0 rfl rfl ?_
  refine ab_iconst (v := 0) X d_RD_whole_1 (by decide) ?_
  refine ab_putI X fp_RD_30 d_RD_whole_2 (by first | assumption | decide | (show _ < 124; omega) | (show _ < 61; omega) | (show _ < 20; omega)) rfl rfl ?_
  refine ab_gen (fun u2 e2 => ?_)
  have P2 : cP [1, 2, 10] u u2 := by rw [e2]; exact P0.at (by decide) (n := 0) (by omega)
  refine ab_aload_n X 0 d_RD_whole_5 rfl rfl ?_
  refine ab_iconst (v := (-1)) X d_RD_whole_6 (by decide) ?_
  refine ab_putI X fp_RD_33 d_RD_whole_7 (by first | assumption | decide | (show _ < 124; omega) | (show _ < 61; omega) | (show _ < 20; omega)) rfl rfl ?_
  refine ab_gen (fun u7 e7 => ?_)
  have P7 : cP [1, 2, 10] u u7 := by rw [e7]; exact P2.ui rfl (by decide)
  refine ab_aload_n X 0 d_RD_whole_10 rfl rfl ?_
  refine ab_iconst (v := 0) X d_RD_whole_11 (by decide) ?_
  refine ab_putI X fp_RD_36 d_RD_whole_12 (by first | assumption | decide | (show _ < 124; omega) | (show _ < 61; omega) | (show _ < 20; omega)) rfl rfl ?_
  refine ab_gen (fun u12 e12 => ?_)
  have P12 : cP [1, 2, 10] u u12 := by rw [e12]; exact P7.ui rfl (by decide)
  refine ab_aload_n X 0 d_RD_whole_15 rfl rfl ?_
  refine ab_iconst (v := 0) X d_RD_whole_16 (by decide) ?_
  refine ab_putI X fp_RD_39 d_RD_whole_17 (by first | assumption | decide | (show _ < 124; omega) | (show _ < 61; omega) | (show _ < 20; omega)) rfl rfl ?_
  refine ab_gen (fun u17 e17 => ?_)
  have P17 : cP [1, 2, 10] u u17 := by rw [e17]; exact P12.used (by decide) (n := 0) (by omega)
  refine ab_aload_n X 0 d_RD_whole_20 rfl rfl ?_
  refine ab_iconst (v := 0) X d_RD_whole_21 (by decide) ?_
  refine ab_callV (as := [ab_I (nI 0)]) X (fun _ => hZ rfl) (f_RD_readPart T t ht 41 0 u17 0 0 0 z1f z1f z1f z1f z2f rfl (I17 e2 e7 e12 e17 P17.1)) lk_RD_42 d_RD_whole_22 rfl rfl (by first | assumption | decide | (show _ < 124; omega) | (show _ < 61; omega) | (show _ < 20; omega)) ⟨by first | exact Nat.le_of_ble_eq_true rfl | (simp only [ab_rm]; omega), by first | exact Nat.le_of_ble_eq_true rfl | (simp only [ab_rm]; omega)⟩ ⟨by first | exact Nat.le_of_ble_eq_true rfl | (simp only [ab_rm]; omega), by first | exact Nat.le_of_ble_eq_true rfl | (simp only [ab_rm]; omega)⟩ (Nat.le_of_ble_eq_true rfl) (fun u22 r22 h22 => ?_)
  rcases h22 with ⟨f22, q22, rfl⟩ | ⟨q', M', O', kd', ar', cn', op', ch', f22, q22, I22, T22, rfl⟩
  ·
    have P22 := P17.trans q22 (by decide)
    refine ab_astore_n1 X 0 d_RD_whole_25 rfl (by decide) rfl rfl ?_
    refine ab_aload_n X 0 d_RD_whole_26 rfl rfl ?_
    refine ab_ifnull X 51 d_RD_whole_27 rfl (fun _ => ?_) (fun hb => absurd (rfl) hb)
    exact fin _ _ P22 (fun u' e w => Or.inl ⟨pr f22, w, rfl⟩)
  ·
    have P22 := P17.trans q22 (by decide)
    refine ab_astore_n1 X 0 d_RD_whole_25 rfl (by decide) rfl rfl ?_
    refine ab_aload_n X 0 d_RD_whole_26 rfl rfl ?_
    refine ab_ifnull X 51 d_RD_whole_27 rfl (fun hb => absurd hb ((by intro z; cases z))) (fun _ => ?_)
    refine ab_aload_n X 1 d_RD_whole_30 rfl rfl ?_
    refine ab_gI X fl_RD_30 d_RD_whole_31 (by first | assumption | decide | (show _ < 124; omega) | (show _ < 61; omega) | (show _ < 20; omega)) (I22.2.2.2.1) ?_
    refine ab_aload_n X 1 d_RD_whole_34 rfl rfl ?_
    refine ab_gI X fl_RD_26 d_RD_whole_35 (by first | assumption | decide | (show _ < 124; omega) | (show _ < 61; omega) | (show _ < 20; omega)) (I22.2.1) ?_
    refine ab_icmp_ge X 51 d_RD_whole_38 rfl (fun h38 => ?_) (fun h38 => ?_)
    ·
      have hc := nI_le_of h38 (by omega)
      have hp := (pr f22).trans (if_neg (show ¬ q' < t by omega))
      first | exact fin _ _ P22 (fun u' e w => Or.inl ⟨hp, w, rfl⟩) | exact fin _ _ P22 (fun u' e w => Or.inr ⟨_, _, _, _, _, _, _, _, hp, w, ⟨by rw [e]; exact (ui_n _ (by omega)).trans I22.2.2.2.2.2.1, by rw [e]; exact (ui_n _ (by omega)).trans I22.2.2.2.2.2.2.1, fun h19 p hp => ((T22 h19).1 p (Nat.zero_le _) hp).kq ⟨fun k z => by rw [e]; exact ui_n _ (by omega), fun i => by rw [e]⟩ rfl rfl rfl (fun _ => rfl)⟩, fun i k => by rw [e]; exact (ui_n _ (by omega)).trans (P22.2.2.1 5 i k (by decide)).1, rfl⟩)
    ·
      have hc := nI_lt_of h38 (by have := I22.2.2.2.2.1; omega)
      have hp := (pr f22).trans (if_pos hc)
      refine ab_aload_n X 1 d_RD_whole_41 rfl rfl ?_
      refine ab_aload_n X 1 d_RD_whole_42 rfl rfl ?_
      refine ab_gI X fl_RD_30 d_RD_whole_43 (by first | assumption | decide | (show _ < 124; omega) | (show _ < 61; omega) | (show _ < 20; omega)) (I22.2.2.2.1) ?_
      refine ab_putI X fp_RD_33 d_RD_whole_46 (by first | assumption | decide | (show _ < 124; omega) | (show _ < 61; omega) | (show _ < 20; omega)) rfl rfl ?_
      refine ab_gen (fun u46 e46 => ?_)
      have P46 : cP [1, 2, 10] u u46 := by rw [e46]; exact P22.ui rfl (by decide)
      refine ab_null X d_RD_whole_49 ?_
      refine ab_astore_n1 X 1 d_RD_whole_50 rfl (by decide) rfl rfl ?_
      first | exact fin _ _ P46 (fun u' e w => Or.inl ⟨hp, w, rfl⟩) | exact fin _ _ P46 (fun u' e w => Or.inr ⟨_, _, _, _, _, _, _, _, hp, w, ⟨by rw [e]; exact (ui_n _ (by omega)).trans I22.2.2.2.2.2.1, by rw [e]; exact (ui_n _ (by omega)).trans I22.2.2.2.2.2.2.1, fun h19 p hp => ((T22 h19).1 p (Nat.zero_le _) hp).kq ⟨fun k z => by rw [e]; exact ui_n _ (by omega), fun i => by rw [e]⟩ rfl rfl rfl (fun _ => rfl)⟩, fun i k => by rw [e]; exact (ui_n _ (by omega)).trans (P22.2.2.1 5 i k (by decide)).1, rfl⟩)
end SaPartF

