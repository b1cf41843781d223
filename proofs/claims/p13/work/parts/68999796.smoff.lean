/-! The reference's offers: the better of the best row and the rows offered. -/
theorem ms.fo {u u' : ab_S} {f : Nat} {o : Option (List Nat)} (h : ms u f o) (g : gP [26, 27, 29, 30, 115, 116] u u') : ms u' f o := h.fr g (by decide) (by decide) (by decide)
theorem md.fo {u u' : ab_S} {f : Nat} {o : List Nat} (h : md u f o) (g : gP [26, 27, 29, 30, 115, 116] u u') : md u' f o := h.fr g (by decide) (by decide)
theorem mBs.fr3 {u u' : ab_S} {o : Option (List Nat)} (h : mBs u o) (g : gP [26, 27, 115] u u') : mBs u' o := h.fr g (by decide) (by decide) (by decide)
theorem itm0 : itm 0 := Or.inl (by decide)
theorem itm1 : itm 1 := Or.inl (by decide)
theorem oB.one {x : Nat} (h : itm x) : oB 1 (Option.some [x]) := oB.some (Nat.le_refl _) (fun y hy => by rw [List.mem_singleton] at hy; rw [hy]; exact h)
section SaSMOff
variable {l : Launch} {D : va_G} {ca : Nat → ClassId}
set_option maxRecDepth 100000 in
set_option maxHeartbeats 1000000 in
theorem x_MO_offerBoth (u : ab_S) (f g k1 k2 : Nat) (s1 s2 : Option (List Nat)) (b : Option (List Nat)) (B : mBs u b) (hb : oB 50 b) (h : mR u.2.1) (hf : f < 72) (hg : g < 72) (A1 : ms u f s1) (A2 : ms u g s2) (o1 : oB k1 s1) (o2 : oB k2 s2) (hk : k1 + k2 ≤ 50) : ab_C false l D ca y_MO_offerBoth b_MO_offerBoth 3 none 3 ab_nQ u [ab_O 17 0, ab_I (nI f), ab_I (nI g)] (fun u' v => (gP [26, 27, 29, 30, 115, 116] u u' ∧ mBs u' (bet b (jn s1 s2))) ∧ v = none) := by
  refine ab_C.of (by decide) (Nat.le_of_ble_eq_true rfl) ?_
  intro p e s m args below meth c ad X hZ hr0 hlk
  have P0 : gP [26, 27, 29, 30, 115, 116] u u := gP.rf h
  refine ab_aload_n X 0 d_MO_offerBoth_0 rfl rfl ?_
  refine ab_callV (as := []) X (fun h => by cases h) (x_MO_newRow u h) lk_MO_267 d_MO_offerBoth_1 rfl rfl (by first | assumption | decide | (show _ < 124; omega) | (show _ < 61; omega) | (show _ < 20; omega)) ⟨by first | exact Nat.le_of_ble_eq_true rfl | (simp only [ab_rm]; omega), by first | exact Nat.le_of_ble_eq_true rfl | (simp only [ab_rm]; omega)⟩ ⟨by first | exact Nat.le_of_ble_eq_true rfl | (simp only [ab_rm]; omega), by first | exact Nat.le_of_ble_eq_true rfl | (simp only [ab_rm]; omega)⟩ (Nat.le_of_ble_eq_true rfl) (fun u1 r1 h1 => ?_)
  obtain ⟨⟨q1, r1⟩, rfl⟩ := h1
  have P1 := P0.trans q1 (by decide)
  have b1 := B.fr3 q1
  refine ab_aload_n X 0 d_MO_offerBoth_4 rfl rfl ?_
  refine ab_iload_n X 1 d_MO_offerBoth_5 rfl rfl ?_
  refine ab_callV (as := [ab_I (nI f)]) X (fun h => by cases h) (x_MO_yes u1 f 0 0 k1 (some []) s1 P1.1 r1 (A1.fo P1) o1 (by omega) hf (by omega) (by decide)) lk_MO_270 d_MO_offerBoth_6 rfl rfl (by first | assumption | decide | (show _ < 124; omega) | (show _ < 61; omega) | (show _ < 20; omega)) ⟨by first | exact Nat.le_of_ble_eq_true rfl | (simp only [ab_rm]; omega), by first | exact Nat.le_of_ble_eq_true rfl | (simp only [ab_rm]; omega)⟩ ⟨by first | exact Nat.le_of_ble_eq_true rfl | (simp only [ab_rm]; omega), by first | exact Nat.le_of_ble_eq_true rfl | (simp only [ab_rm]; omega)⟩ (Nat.le_of_ble_eq_true rfl) (fun u6 r6 h6 => ?_)
  obtain ⟨⟨q6, r6⟩, rfl⟩ := h6
  have P6 := P1.trans q6 (by decide)
  rw [jn_nil] at r6
  have b6 := b1.fr3 q6
  refine ab_aload_n X 0 d_MO_offerBoth_9 rfl rfl ?_
  refine ab_iload_n X 2 d_MO_offerBoth_10 rfl rfl ?_
  refine ab_callV (as := [ab_I (nI g)]) X (fun h => by cases h) (x_MO_yes u6 g (0 + k1) (0 + 1) k2 s1 s2 P6.1 r6 (A2.fo P6) o2 (by omega) hg (by omega) (by decide)) lk_MO_270 d_MO_offerBoth_11 rfl rfl (by first | assumption | decide | (show _ < 124; omega) | (show _ < 61; omega) | (show _ < 20; omega)) ⟨by first | exact Nat.le_of_ble_eq_true rfl | (simp only [ab_rm]; omega), by first | exact Nat.le_of_ble_eq_true rfl | (simp only [ab_rm]; omega)⟩ ⟨by first | exact Nat.le_of_ble_eq_true rfl | (simp only [ab_rm]; omega), by first | exact Nat.le_of_ble_eq_true rfl | (simp only [ab_rm]; omega)⟩ (Nat.le_of_ble_eq_true rfl) (fun u11 r11 h11 => ?_)
  obtain ⟨⟨q11, r11⟩, rfl⟩ := h11
  have P11 := P6.trans q11 (by decide)
  have b11 := b6.fr3 q11
  refine ab_aload_n X 0 d_MO_offerBoth_14 rfl rfl ?_
  refine ab_callV (as := []) X (fun h => by cases h) (x_MO_offer u11 (0 + k1 + k2) (0 + 1 + 1) (jn s1 s2) b P11.1 r11 b11 ((oB.jnB o1 o2).wk hk) hb (by omega) (by decide)) lk_MO_273 d_MO_offerBoth_15 rfl rfl (by first | assumption | decide | (show _ < 124; omega) | (show _ < 61; omega) | (show _ < 20; omega)) ⟨by first | exact Nat.le_of_ble_eq_true rfl | (simp only [ab_rm]; omega), by first | exact Nat.le_of_ble_eq_true rfl | (simp only [ab_rm]; omega)⟩ ⟨by first | exact Nat.le_of_ble_eq_true rfl | (simp only [ab_rm]; omega), by first | exact Nat.le_of_ble_eq_true rfl | (simp only [ab_rm]; omega)⟩ (Nat.le_of_ble_eq_true rfl) (fun u15 r15 h15 => ?_)
  obtain ⟨⟨q15, r15⟩, rfl⟩ := h15
  have P15 := P11.trans q15 (by decide)
  exact ab_retv X hr0 hlk d_MO_offerBoth_18 ⟨⟨P15, r15⟩, rfl⟩
set_option maxRecDepth 100000 in
set_option maxHeartbeats 1000000 in
theorem x_MO_offerEither (u : ab_S) (f g2 g k1 k2 : Nat) (s1 s2 : Option (List Nat)) (xs : List Nat) (b : Option (List Nat)) (B : mBs u b) (hb : oB 50 b) (h : mR u.2.1) (hf : f < 72) (hg2 : g2 < 24) (hg : g < 72) (A1 : ms u f s1) (A3 : md u g2 xs) (A2 : ms u g s2) (o1 : oB k1 s1) (o2 : oB k2 s2) (hx : ∀ x, x ∈ xs → itm x) (hk1 : k1 ≤ 50) (hk : xs.length + k2 ≤ 50) : ab_C false l D ca y_MO_offerEither b_MO_offerEither 4 none 3 ab_nQ u [ab_O 17 0, ab_I (nI f), ab_I (nI g2), ab_I (nI g)] (fun u' v => (gP [26, 27, 29, 30, 115, 116] u u' ∧ mBs u' (bet (bet b s1) (jn (some xs) s2))) ∧ v = none) := by
  refine ab_C.of (by decide) (Nat.le_of_ble_eq_true rfl) ?_
  intro p e s m args below meth c ad X hZ hr0 hlk
  have P0 : gP [26, 27, 29, 30, 115, 116] u u := gP.rf h
  refine ab_aload_n X 0 d_MO_offerEither_0 rfl rfl ?_
  refine ab_callV (as := []) X (fun h => by cases h) (x_MO_newRow u h) lk_MO_267 d_MO_offerEither_1 rfl rfl (by first | assumption | decide | (show _ < 124; omega) | (show _ < 61; omega) | (show _ < 20; omega)) ⟨by first | exact Nat.le_of_ble_eq_true rfl | (simp only [ab_rm]; omega), by first | exact Nat.le_of_ble_eq_true rfl | (simp only [ab_rm]; omega)⟩ ⟨by first | exact Nat.le_of_ble_eq_true rfl | (simp only [ab_rm]; omega), by first | exact Nat.le_of_ble_eq_true rfl | (simp only [ab_rm]; omega)⟩ (Nat.le_of_ble_eq_true rfl) (fun u1 r1 h1 => ?_)
  obtain ⟨⟨q1, r1⟩, rfl⟩ := h1
  have P1 := P0.trans q1 (by decide)
  have b1 := B.fr3 q1
  refine ab_aload_n X 0 d_MO_offerEither_4 rfl rfl ?_
  refine ab_iload_n X 1 d_MO_offerEither_5 rfl rfl ?_
  refine ab_callV (as := [ab_I (nI f)]) X (fun h => by cases h) (x_MO_yes u1 f 0 0 k1 (some []) s1 P1.1 r1 (A1.fo P1) o1 (by omega) hf (by omega) (by decide)) lk_MO_270 d_MO_offerEither_6 rfl rfl (by first | assumption | decide | (show _ < 124; omega) | (show _ < 61; omega) | (show _ < 20; omega)) ⟨by first | exact Nat.le_of_ble_eq_true rfl | (simp only [ab_rm]; omega), by first | exact Nat.le_of_ble_eq_true rfl | (simp only [ab_rm]; omega)⟩ ⟨by first | exact Nat.le_of_ble_eq_true rfl | (simp only [ab_rm]; omega), by first | exact Nat.le_of_ble_eq_true rfl | (simp only [ab_rm]; omega)⟩ (Nat.le_of_ble_eq_true rfl) (fun u6 r6 h6 => ?_)
  obtain ⟨⟨q6, r6⟩, rfl⟩ := h6
  have P6 := P1.trans q6 (by decide)
  rw [jn_nil] at r6
  have b6 := b1.fr3 q6
  refine ab_aload_n X 0 d_MO_offerEither_9 rfl rfl ?_
  refine ab_callV (as := []) X (fun h => by cases h) (x_MO_offer u6 (0 + k1) (0 + 1) s1 b P6.1 r6 b6 (o1.wk hk1) hb (by omega) (by decide)) lk_MO_273 d_MO_offerEither_10 rfl rfl (by first | assumption | decide | (show _ < 124; omega) | (show _ < 61; omega) | (show _ < 20; omega)) ⟨by first | exact Nat.le_of_ble_eq_true rfl | (simp only [ab_rm]; omega), by first | exact Nat.le_of_ble_eq_true rfl | (simp only [ab_rm]; omega)⟩ ⟨by first | exact Nat.le_of_ble_eq_true rfl | (simp only [ab_rm]; omega), by first | exact Nat.le_of_ble_eq_true rfl | (simp only [ab_rm]; omega)⟩ (Nat.le_of_ble_eq_true rfl) (fun u10 r10 h10 => ?_)
  obtain ⟨⟨q10, r10⟩, rfl⟩ := h10
  have P10 := P6.trans q10 (by decide)
  refine ab_aload_n X 0 d_MO_offerEither_13 rfl rfl ?_
  refine ab_callV (as := []) X (fun h => by cases h) (x_MO_newRow u10 P10.1) lk_MO_267 d_MO_offerEither_14 rfl rfl (by first | assumption | decide | (show _ < 124; omega) | (show _ < 61; omega) | (show _ < 20; omega)) ⟨by first | exact Nat.le_of_ble_eq_true rfl | (simp only [ab_rm]; omega), by first | exact Nat.le_of_ble_eq_true rfl | (simp only [ab_rm]; omega)⟩ ⟨by first | exact Nat.le_of_ble_eq_true rfl | (simp only [ab_rm]; omega), by first | exact Nat.le_of_ble_eq_true rfl | (simp only [ab_rm]; omega)⟩ (Nat.le_of_ble_eq_true rfl) (fun u14 r14 h14 => ?_)
  obtain ⟨⟨q14, r14⟩, rfl⟩ := h14
  have P14 := P10.trans q14 (by decide)
  have b14 := mBs.fr3 r10 q14
  refine ab_aload_n X 0 d_MO_offerEither_17 rfl rfl ?_
  refine ab_iload_n X 2 d_MO_offerEither_18 rfl rfl ?_
  refine ab_callV (as := [ab_I (nI g2)]) X (fun h => by cases h) (x_MO_no u14 g2 0 0 (some []) xs P14.1 r14 (A3.fo P14) ⟨by omega, hx⟩ hg2 (by omega) (by decide)) lk_MO_276 d_MO_offerEither_19 rfl rfl (by first | assumption | decide | (show _ < 124; omega) | (show _ < 61; omega) | (show _ < 20; omega)) ⟨by first | exact Nat.le_of_ble_eq_true rfl | (simp only [ab_rm]; omega), by first | exact Nat.le_of_ble_eq_true rfl | (simp only [ab_rm]; omega)⟩ ⟨by first | exact Nat.le_of_ble_eq_true rfl | (simp only [ab_rm]; omega), by first | exact Nat.le_of_ble_eq_true rfl | (simp only [ab_rm]; omega)⟩ (Nat.le_of_ble_eq_true rfl) (fun u19 r19 h19 => ?_)
  obtain ⟨⟨q19, r19⟩, rfl⟩ := h19
  have P19 := P14.trans q19 (by decide)
  rw [jn_nil] at r19
  have b19 := b14.fr3 q19
  refine ab_aload_n X 0 d_MO_offerEither_22 rfl rfl ?_
  refine ab_iload_n X 3 d_MO_offerEither_23 rfl rfl ?_
  refine ab_callV (as := [ab_I (nI g)]) X (fun h => by cases h) (x_MO_yes u19 g (0 + xs.length) 0 k2 (some xs) s2 P19.1 r19 (A2.fo P19) o2 (by omega) hg (by omega) (by decide)) lk_MO_270 d_MO_offerEither_24 rfl rfl (by first | assumption | decide | (show _ < 124; omega) | (show _ < 61; omega) | (show _ < 20; omega)) ⟨by first | exact Nat.le_of_ble_eq_true rfl | (simp only [ab_rm]; omega), by first | exact Nat.le_of_ble_eq_true rfl | (simp only [ab_rm]; omega)⟩ ⟨by first | exact Nat.le_of_ble_eq_true rfl | (simp only [ab_rm]; omega), by first | exact Nat.le_of_ble_eq_true rfl | (simp only [ab_rm]; omega)⟩ (Nat.le_of_ble_eq_true rfl) (fun u24 r24 h24 => ?_)
  obtain ⟨⟨q24, r24⟩, rfl⟩ := h24
  have P24 := P19.trans q24 (by decide)
  have b24 := b19.fr3 q24
  refine ab_aload_n X 0 d_MO_offerEither_27 rfl rfl ?_
  refine ab_callV (as := []) X (fun h => by cases h) (x_MO_offer u24 (0 + xs.length + k2) (0 + 1) (jn (some xs) s2) (bet b s1) P24.1 r24 b24 ((oB.jnB (oB.some (Nat.le_refl _) hx) o2).wk hk) (hb.betB (o1.wk hk1)) (by omega) (by decide)) lk_MO_273 d_MO_offerEither_28 rfl rfl (by first | assumption | decide | (show _ < 124; omega) | (show _ < 61; omega) | (show _ < 20; omega)) ⟨by first | exact Nat.le_of_ble_eq_true rfl | (simp only [ab_rm]; omega), by first | exact Nat.le_of_ble_eq_true rfl | (simp only [ab_rm]; omega)⟩ ⟨by first | exact Nat.le_of_ble_eq_true rfl | (simp only [ab_rm]; omega), by first | exact Nat.le_of_ble_eq_true rfl | (simp only [ab_rm]; omega)⟩ (Nat.le_of_ble_eq_true rfl) (fun u28 r28 h28 => ?_)
  obtain ⟨⟨q28, r28⟩, rfl⟩ := h28
  have P28 := P24.trans q28 (by decide)
  exact ab_retv X hr0 hlk d_MO_offerEither_31 ⟨⟨P28, r28⟩, rfl⟩
set_option maxRecDepth 100000 in
set_option maxHeartbeats 1000000 in
theorem x_MO_offerChoice (u : ab_S) (f g k1 k2 : Nat) (s1 s2 : Option (List Nat)) (b : Option (List Nat)) (B : mBs u b) (hb : oB 50 b) (h : mR u.2.1) (hf : f < 72) (hg : g < 72) (A1 : ms u f s1) (A2 : ms u g s2) (o1 : oB k1 s1) (o2 : oB k2 s2) (hk1 : k1 < 50) (hk2 : k2 < 50) : ab_C false l D ca y_MO_offerChoice b_MO_offerChoice 3 none 3 ab_nQ u [ab_O 17 0, ab_I (nI f), ab_I (nI g)] (fun u' v => (gP [26, 27, 29, 30, 115, 116] u u' ∧ mBs u' (bet (bet b (jn (some [1]) s1)) (jn (some [0]) s2))) ∧ v = none) := by
  refine ab_C.of (by decide) (Nat.le_of_ble_eq_true rfl) ?_
  intro p e s m args below meth c ad X hZ hr0 hlk
  have P0 : gP [26, 27, 29, 30, 115, 116] u u := gP.rf h
  refine ab_aload_n X 0 d_MO_offerChoice_0 rfl rfl ?_
  refine ab_callV (as := []) X (fun h => by cases h) (x_MO_newRow u h) lk_MO_267 d_MO_offerChoice_1 rfl rfl (by first | assumption | decide | (show _ < 124; omega) | (show _ < 61; omega) | (show _ < 20; omega)) ⟨by first | exact Nat.le_of_ble_eq_true rfl | (simp only [ab_rm]; omega), by first | exact Nat.le_of_ble_eq_true rfl | (simp only [ab_rm]; omega)⟩ ⟨by first | exact Nat.le_of_ble_eq_true rfl | (simp only [ab_rm]; omega), by first | exact Nat.le_of_ble_eq_true rfl | (simp only [ab_rm]; omega)⟩ (Nat.le_of_ble_eq_true rfl) (fun u1 r1 h1 => ?_)
  obtain ⟨⟨q1, r1⟩, rfl⟩ := h1
  have P1 := P0.trans q1 (by decide)
  have b1 := B.fr3 q1
  refine ab_aload_n X 0 d_MO_offerChoice_4 rfl rfl ?_
  refine ab_iconst (v := 1) X d_MO_offerChoice_5 (by decide) ?_
  refine ab_callV (as := [ab_I (nI 1)]) X (fun h => by cases h) (x_MO_item1 u1 1 0 0 (some []) P1.1 r1 itm1 (by decide) (by decide)) lk_MO_264 d_MO_offerChoice_6 rfl rfl (by first | assumption | decide | (show _ < 124; omega) | (show _ < 61; omega) | (show _ < 20; omega)) ⟨by first | exact Nat.le_of_ble_eq_true rfl | (simp only [ab_rm]; omega), by first | exact Nat.le_of_ble_eq_true rfl | (simp only [ab_rm]; omega)⟩ ⟨by first | exact Nat.le_of_ble_eq_true rfl | (simp only [ab_rm]; omega), by first | exact Nat.le_of_ble_eq_true rfl | (simp only [ab_rm]; omega)⟩ (Nat.le_of_ble_eq_true rfl) (fun u6 r6 h6 => ?_)
  obtain ⟨⟨q6, r6⟩, rfl⟩ := h6
  have P6 := P1.trans q6 (by decide)
  have b6 := b1.fr3 q6
  refine ab_aload_n X 0 d_MO_offerChoice_9 rfl rfl ?_
  refine ab_iload_n X 1 d_MO_offerChoice_10 rfl rfl ?_
  refine ab_callV (as := [ab_I (nI f)]) X (fun h => by cases h) (x_MO_yes u6 f (0 + 1) 0 k1 (some [1]) s1 P6.1 r6 (A1.fo P6) o1 (by omega) hf (by omega) (by decide)) lk_MO_270 d_MO_offerChoice_11 rfl rfl (by first | assumption | decide | (show _ < 124; omega) | (show _ < 61; omega) | (show _ < 20; omega)) ⟨by first | exact Nat.le_of_ble_eq_true rfl | (simp only [ab_rm]; omega), by first | exact Nat.le_of_ble_eq_true rfl | (simp only [ab_rm]; omega)⟩ ⟨by first | exact Nat.le_of_ble_eq_true rfl | (simp only [ab_rm]; omega), by first | exact Nat.le_of_ble_eq_true rfl | (simp only [ab_rm]; omega)⟩ (Nat.le_of_ble_eq_true rfl) (fun u11 r11 h11 => ?_)
  obtain ⟨⟨q11, r11⟩, rfl⟩ := h11
  have P11 := P6.trans q11 (by decide)
  have b11 := b6.fr3 q11
  refine ab_aload_n X 0 d_MO_offerChoice_14 rfl rfl ?_
  refine ab_callV (as := []) X (fun h => by cases h) (x_MO_offer u11 (0 + 1 + k1) (0 + 1) (jn (some [1]) s1) b P11.1 r11 b11 ((oB.jnB (oB.one itm1) o1).wk (by omega)) hb (by omega) (by decide)) lk_MO_273 d_MO_offerChoice_15 rfl rfl (by first | assumption | decide | (show _ < 124; omega) | (show _ < 61; omega) | (show _ < 20; omega)) ⟨by first | exact Nat.le_of_ble_eq_true rfl | (simp only [ab_rm]; omega), by first | exact Nat.le_of_ble_eq_true rfl | (simp only [ab_rm]; omega)⟩ ⟨by first | exact Nat.le_of_ble_eq_true rfl | (simp only [ab_rm]; omega), by first | exact Nat.le_of_ble_eq_true rfl | (simp only [ab_rm]; omega)⟩ (Nat.le_of_ble_eq_true rfl) (fun u15 r15 h15 => ?_)
  obtain ⟨⟨q15, r15⟩, rfl⟩ := h15
  have P15 := P11.trans q15 (by decide)
  refine ab_aload_n X 0 d_MO_offerChoice_18 rfl rfl ?_
  refine ab_callV (as := []) X (fun h => by cases h) (x_MO_newRow u15 P15.1) lk_MO_267 d_MO_offerChoice_19 rfl rfl (by first | assumption | decide | (show _ < 124; omega) | (show _ < 61; omega) | (show _ < 20; omega)) ⟨by first | exact Nat.le_of_ble_eq_true rfl | (simp only [ab_rm]; omega), by first | exact Nat.le_of_ble_eq_true rfl | (simp only [ab_rm]; omega)⟩ ⟨by first | exact Nat.le_of_ble_eq_true rfl | (simp only [ab_rm]; omega), by first | exact Nat.le_of_ble_eq_true rfl | (simp only [ab_rm]; omega)⟩ (Nat.le_of_ble_eq_true rfl) (fun u19 r19 h19 => ?_)
  obtain ⟨⟨q19, r19⟩, rfl⟩ := h19
  have P19 := P15.trans q19 (by decide)
  have b19 := mBs.fr3 r15 q19
  refine ab_aload_n X 0 d_MO_offerChoice_22 rfl rfl ?_
  refine ab_iconst (v := 0) X d_MO_offerChoice_23 (by decide) ?_
  refine ab_callV (as := [ab_I (nI 0)]) X (fun h => by cases h) (x_MO_item1 u19 0 0 0 (some []) P19.1 r19 itm0 (by decide) (by decide)) lk_MO_264 d_MO_offerChoice_24 rfl rfl (by first | assumption | decide | (show _ < 124; omega) | (show _ < 61; omega) | (show _ < 20; omega)) ⟨by first | exact Nat.le_of_ble_eq_true rfl | (simp only [ab_rm]; omega), by first | exact Nat.le_of_ble_eq_true rfl | (simp only [ab_rm]; omega)⟩ ⟨by first | exact Nat.le_of_ble_eq_true rfl | (simp only [ab_rm]; omega), by first | exact Nat.le_of_ble_eq_true rfl | (simp only [ab_rm]; omega)⟩ (Nat.le_of_ble_eq_true rfl) (fun u24 r24 h24 => ?_)
  obtain ⟨⟨q24, r24⟩, rfl⟩ := h24
  have P24 := P19.trans q24 (by decide)
  have b24 := b19.fr3 q24
  refine ab_aload_n X 0 d_MO_offerChoice_27 rfl rfl ?_
  refine ab_iload_n X 2 d_MO_offerChoice_28 rfl rfl ?_
  refine ab_callV (as := [ab_I (nI g)]) X (fun h => by cases h) (x_MO_yes u24 g (0 + 1) 0 k2 (some [0]) s2 P24.1 r24 (A2.fo P24) o2 (by omega) hg (by omega) (by decide)) lk_MO_270 d_MO_offerChoice_29 rfl rfl (by first | assumption | decide | (show _ < 124; omega) | (show _ < 61; omega) | (show _ < 20; omega)) ⟨by first | exact Nat.le_of_ble_eq_true rfl | (simp only [ab_rm]; omega), by first | exact Nat.le_of_ble_eq_true rfl | (simp only [ab_rm]; omega)⟩ ⟨by first | exact Nat.le_of_ble_eq_true rfl | (simp only [ab_rm]; omega), by first | exact Nat.le_of_ble_eq_true rfl | (simp only [ab_rm]; omega)⟩ (Nat.le_of_ble_eq_true rfl) (fun u29 r29 h29 => ?_)
  obtain ⟨⟨q29, r29⟩, rfl⟩ := h29
  have P29 := P24.trans q29 (by decide)
  have b29 := b24.fr3 q29
  refine ab_aload_n X 0 d_MO_offerChoice_32 rfl rfl ?_
  refine ab_callV (as := []) X (fun h => by cases h) (x_MO_offer u29 (0 + 1 + k2) (0 + 1) (jn (some [0]) s2) (bet b (jn (some [1]) s1)) P29.1 r29 b29 ((oB.jnB (oB.one itm0) o2).wk (by omega)) (hb.betB ((oB.jnB (oB.one itm1) o1).wk (by omega))) (by omega) (by decide)) lk_MO_273 d_MO_offerChoice_33 rfl rfl (by first | assumption | decide | (show _ < 124; omega) | (show _ < 61; omega) | (show _ < 20; omega)) ⟨by first | exact Nat.le_of_ble_eq_true rfl | (simp only [ab_rm]; omega), by first | exact Nat.le_of_ble_eq_true rfl | (simp only [ab_rm]; omega)⟩ ⟨by first | exact Nat.le_of_ble_eq_true rfl | (simp only [ab_rm]; omega), by first | exact Nat.le_of_ble_eq_true rfl | (simp only [ab_rm]; omega)⟩ (Nat.le_of_ble_eq_true rfl) (fun u33 r33 h33 => ?_)
  obtain ⟨⟨q33, r33⟩, rfl⟩ := h33
  have P33 := P29.trans q33 (by decide)
  exact ab_retv X hr0 hlk d_MO_offerChoice_36 ⟨⟨P33, r33⟩, rfl⟩
theorem pcn_sm : ∀ n, n ≤ 4 → ∀ c, c < 2 ^ n → sm (fun i => c / 2 ^ i % 2) n = pcn c := by decide +kernel
set_option maxRecDepth 100000 in
set_option maxHeartbeats 1000000 in
theorem x_MO_offerThreshold (u : ab_S) (P : Nat) (kd ar cn lf : Nat → Nat) (ch : Nat → Nat → Nat) (W : tW P kd ar cn lf ch) (T : tR P kd ar cn ch u) (p1 : Nat) (hp : p1 < P) (hk : kd p1 = 7) (s1 : Nat → Option (List Nat)) (xs : Nat → List Nat) (A1 : ∀ i, i < cn p1 → ms u (3 * ch p1 i + 1) (s1 i)) (A2 : ∀ i, i < cn p1 → md u (ch p1 i) (xs i)) (o1 : ∀ i, i < cn p1 → oB (4 * lf (ch p1 i) - 2) (s1 i)) (o2 : ∀ i, i < cn p1 → (xs i).length ≤ 4 * lf (ch p1 i) - 2 ∧ ∀ x, x ∈ xs i → itm x) (B : mBs u none) (h : mR u.2.1) : ab_C false l D ca y_MO_offerThreshold b_MO_offerThreshold 5 none 3 ab_nQ u [ab_O 17 0, ab_I (nI p1)] (fun u' v => (gP [26, 27, 29, 30, 115, 116] u u' ∧ mBs u' (bts (ar p1) (cn p1) s1 (fun i => some (xs i)) (2 ^ cn p1))) ∧ v = none) := by
  refine ab_C.of (by decide) (Nat.le_of_ble_eq_true rfl) ?_
  intro p e s m args below meth c ad X hZ hr0 hlk
  have P0 : gP [26, 27, 29, 30, 115, 116] u u := gP.rf h
  have hP19 := W.2.1
  obtain ⟨⟨-, l10, -⟩, -, a3⟩ := W.2.2 p1 hp
  obtain ⟨n2, n4, -, b4, b5, b6⟩ := a3 (by omega)
  have b4 := b4 hk
  obtain ⟨-, ea, ec, ech⟩ := T.2 p1 hp
  have tw := ci_tw n4
  have l1 : ∀ i, i < cn p1 → 1 ≤ lf (ch p1 i) := fun i hi => (W.2.2 _ (b5 i hi).2).1.1
  have hB := sm_lf (fun i => lf (ch p1 i)) (cn p1) l1
  have jB : ∀ cc i, i ≤ cn p1 → oB (sm (fun i => 4 * lf (ch p1 i) - 2) i) (jns s1 (fun i => some (xs i)) cc i) := fun cc i hi => oB.jnsB i (fun k hk => ⟨o1 k (by omega), oB.some (o2 k (by omega)).1 (o2 k (by omega)).2⟩)
  have sB : ∀ i, i ≤ cn p1 → sm (fun i => 4 * lf (ch p1 i) - 2) i ≤ 40 := fun i hi => by
    have := sm_mono (fun i => 4 * lf (ch p1 i) - 2) hi
    omega
  have oBt : ∀ k, oB 50 (bts (ar p1) (cn p1) s1 (fun i => some (xs i)) k) := oB.btsB (fun cc => (jB cc _ (Nat.le_refl _)).wk (by have := sB _ (Nat.le_refl _); omega))
  have outer : ∀ (k c1 : Nat) (u1 : ab_S), k + c1 = 2 ^ cn p1 → gP [26, 27, 29, 30, 115, 116] u u1 → mBs u1 (bts (ar p1) (cn p1) s1 (fun i => some (xs i)) c1) → ab_J p l e (ab_rm 3 0 0) s m args below meth c (MQ below (ab_Q D ca ad ab_nQ s.heap.size (fun u' v => (gP [26, 27, 29, 30, 115, 116] u u' ∧ mBs u' (bts (ar p1) (cn p1) s1 (fun i => some (xs i)) (2 ^ cn p1))) ∧ v = none)) args s 0 0 (ab_A ad ab_nQ s.heap.size)) D ca (ab_A ad ab_nQ s.heap.size) s.heap 5 0 0 ad ab_nQ u1 2 [(2, ab_I (nI c1)), (0, ab_O 17 0), (1, ab_I (nI p1))] [] := by
    intro k
    induction k with
    | zero =>
      intro c1 u1 hc P1 b1
      obtain rfl : c1 = 2 ^ cn p1 := by omega
      refine ab_iload_n X 0 d_MO_offerThreshold_2 rfl rfl ?_
      refine ab_iconst (v := 1) X d_MO_offerThreshold_3 (by decide) ?_
      refine ab_aload_n X 1 d_MO_offerThreshold_4 rfl rfl ?_
      refine ab_gR X fl_MO_39 d_MO_offerThreshold_5 (by first | assumption | decide | (show _ < 124; omega) | (show _ < 61; omega) | (show _ < 20; omega)) (P1.1.mo9) ?_
      refine ab_iload_n X 2 d_MO_offerThreshold_8 rfl rfl ?_
      refine ab_iald X (p1) ⟨rfl, rfl⟩ d_MO_offerThreshold_9 (by first | assumption | decide | (show _ < 124; omega) | (show _ < 61; omega) | (show _ < 20; omega)) (rfl) (show p1 < 40 by omega) (ab_ln_lt _ _) ?_
      refine ab_top (P1.ai (by decide) ec) ?_
      refine ab_ishl X d_MO_offerThreshold_10 ?_
      refine ab_top tw.1 ?_
      refine ab_icmp_ge X 135 d_MO_offerThreshold_11 rfl (fun _ => ?_) (fun hb => absurd ((nI_le (by omega) (by omega))) hb)
      exact ab_retv X hr0 hlk d_MO_offerThreshold_135 ⟨⟨P1, b1⟩, rfl⟩
    | succ k ih =>
      intro c1 u1 hc P1 b1
      have c16 : c1 < 16 := by omega
      have p4 := pcn_le c1
      have es : bts (ar p1) (cn p1) s1 (fun i => some (xs i)) (c1 + 1) = if pcn c1 = ar p1 then bet (bts (ar p1) (cn p1) s1 (fun i => some (xs i)) c1) (jns s1 (fun i => some (xs i)) c1 (cn p1)) else bts (ar p1) (cn p1) s1 (fun i => some (xs i)) c1 := rfl
      have in2 : ∀ (k j : Nat) (z : Int32) (u2 : ab_S), pcn c1 = ar p1 → k + j = cn p1 → gP [26, 27, 29, 30, 115, 116] u u2 → mBs u2 (bts (ar p1) (cn p1) s1 (fun i => some (xs i)) c1) → mr u2 (sm (fun i => 4 * lf (ch p1 i) - 2) j) j (jns s1 (fun i => some (xs i)) c1 j) → ab_J p l e (ab_rm 3 0 0) s m args below meth c (MQ below (ab_Q D ca ad ab_nQ s.heap.size (fun u' v => (gP [26, 27, 29, 30, 115, 116] u u' ∧ mBs u' (bts (ar p1) (cn p1) s1 (fun i => some (xs i)) (2 ^ cn p1))) ∧ v = none)) args s 0 0 (ab_A ad ab_nQ s.heap.size)) D ca (ab_A ad ab_nQ s.heap.size) s.heap 5 0 0 ad ab_nQ u2 62 [(4, ab_I (nI j)), (3, ab_I z), (2, ab_I (nI c1)), (0, ab_O 17 0), (1, ab_I (nI p1))] [] := by
        intro k
        induction k with
        | zero =>
          intro j z u2 pe hj P2 b2 r2
          obtain rfl : j = cn p1 := by omega
          rw [if_pos pe] at es
          refine ab_iload X 0 d_MO_offerThreshold_62 rfl ?_
          refine ab_aload_n X 3 d_MO_offerThreshold_64 rfl rfl ?_
          refine ab_gR X fl_MO_39 d_MO_offerThreshold_65 (by first | assumption | decide | (show _ < 124; omega) | (show _ < 61; omega) | (show _ < 20; omega)) (P2.1.mo9) ?_
          refine ab_iload_n X 4 d_MO_offerThreshold_68 rfl rfl ?_
          refine ab_iald X (p1) ⟨rfl, rfl⟩ d_MO_offerThreshold_69 (by first | assumption | decide | (show _ < 124; omega) | (show _ < 61; omega) | (show _ < 20; omega)) (rfl) (show p1 < 40 by omega) (ab_ln_lt _ _) ?_
          refine ab_top (P2.ai (by decide) ec) ?_
          refine ab_icmp_ge X 125 d_MO_offerThreshold_70 rfl (fun _ => ?_) (fun hb => absurd ((nI_le (by omega) (by omega))) hb)
          refine ab_aload_n X 3 d_MO_offerThreshold_125 rfl rfl ?_
          refine ab_callV (as := []) X (fun h => by cases h) (x_MO_offer u2 _ (cn p1) _ _ P2.1 r2 b2 ((jB c1 _ (Nat.le_refl _)).wk (by have := sB _ (Nat.le_refl _); omega)) (oBt _) (by have := sB _ (Nat.le_refl _); omega) (by omega)) lk_MO_273 d_MO_offerThreshold_126 rfl rfl (by first | assumption | decide | (show _ < 124; omega) | (show _ < 61; omega) | (show _ < 20; omega)) ⟨by first | exact Nat.le_of_ble_eq_true rfl | (simp only [ab_rm]; omega), by first | exact Nat.le_of_ble_eq_true rfl | (simp only [ab_rm]; omega)⟩ ⟨by first | exact Nat.le_of_ble_eq_true rfl | (simp only [ab_rm]; omega), by first | exact Nat.le_of_ble_eq_true rfl | (simp only [ab_rm]; omega)⟩ (Nat.le_of_ble_eq_true rfl) (fun u126 r126 h126 => ?_)
          obtain ⟨⟨q126, r126⟩, rfl⟩ := h126
          have P126 := P2.trans q126 (by decide)
          refine ab_iinc4 X 2 0 1 3 4 d_MO_offerThreshold_129 rfl (by decide) rfl rfl rfl rfl rfl rfl rfl rfl ?_
          refine ab_goto X 2 d_MO_offerThreshold_132 rfl ?_
          refine ab_lv (List.forall_mem_cons.mpr ⟨List.mem_of_getElem? (i := 0) rfl, List.forall_mem_cons.mpr ⟨List.mem_of_getElem? (i := 3) rfl, List.forall_mem_cons.mpr ⟨List.mem_of_getElem? (i := 4) rfl, fun _ h => absurd h List.not_mem_nil⟩⟩⟩) ?_
          rw [show nI c1 + Int32.ofInt 1 = nI (c1 + 1) from nI_1 c1]
          rw [← es] at r126
          exact ih (c1 + 1) _ (by omega) P126 r126
        | succ k ih2 =>
          intro j z u2 pe hj P2 b2 r2
          have hj1 : j < cn p1 := by omega
          obtain ⟨c1', c2⟩ := b5 j hj1
          have s4 := sB (j + 1) (by omega)
          have hs : sm (fun i => 4 * lf (ch p1 i) - 2) (j + 1) = sm (fun i => 4 * lf (ch p1 i) - 2) j + (4 * lf (ch p1 j) - 2) := rfl
          have st : jns s1 (fun i => some (xs i)) c1 (j + 1) = jn (jns s1 (fun i => some (xs i)) c1 j) (if c1 / 2 ^ j % 2 = 1 then s1 j else some (xs j)) := rfl
          have mrw : ∀ {u3 : ab_S} {m1 c3 : Nat} {o3 : Option (List Nat)}, mr u3 m1 c3 o3 → m1 ≤ sm (fun i => 4 * lf (ch p1 i) - 2) (j + 1) → c3 ≤ j + 1 → mr u3 (sm (fun i => 4 * lf (ch p1 i) - 2) (j + 1)) (j + 1) o3 := fun ⟨r, n, w1, w2, w3, w4, w5⟩ hm hc3 => ⟨r, n, w1, w2, by omega, by omega, w5⟩
          by_cases bt1 : c1 / 2 ^ j % 2 = 1
          · rw [if_pos bt1] at st
            have eb : nI (c1 / 2 ^ j % 2) = 1 := by rw [bt1]; rfl
            refine ab_iload X 0 d_MO_offerThreshold_62 rfl ?_
            refine ab_aload_n X 3 d_MO_offerThreshold_64 rfl rfl ?_
            refine ab_gR X fl_MO_39 d_MO_offerThreshold_65 (by first | assumption | decide | (show _ < 124; omega) | (show _ < 61; omega) | (show _ < 20; omega)) (P2.1.mo9) ?_
            refine ab_iload_n X 4 d_MO_offerThreshold_68 rfl rfl ?_
            refine ab_iald X (p1) ⟨rfl, rfl⟩ d_MO_offerThreshold_69 (by first | assumption | decide | (show _ < 124; omega) | (show _ < 61; omega) | (show _ < 20; omega)) (rfl) (show p1 < 40 by omega) (ab_ln_lt _ _) ?_
            refine ab_top (P2.ai (by decide) ec) ?_
            refine ab_icmp_ge X 125 d_MO_offerThreshold_70 rfl (fun hb => absurd hb ((nI_ge (by omega) (by omega)))) (fun _ => ?_)
            refine ab_iload_n X 2 d_MO_offerThreshold_73 rfl rfl ?_
            refine ab_iload X 0 d_MO_offerThreshold_74 rfl ?_
            refine ab_ishr X d_MO_offerThreshold_76 ?_
            refine ab_iconst (v := 1) X d_MO_offerThreshold_77 (by decide) ?_
            refine ab_iand X d_MO_offerThreshold_78 ?_
            refine ab_top ((th_bit c1 c16 j (by omega)).trans eb) ?_
            refine ab_iconst (v := 1) X d_MO_offerThreshold_79 (by decide) ?_
            refine ab_icmp_ne X 104 d_MO_offerThreshold_80 rfl (fun hb => absurd ((by decide)) hb) (fun _ => ?_)
            refine ab_aload_n X 3 d_MO_offerThreshold_83 rfl rfl ?_
            refine ab_aload_n X 3 d_MO_offerThreshold_84 rfl rfl ?_
            refine ab_gR X fl_MO_42 d_MO_offerThreshold_85 (by first | assumption | decide | (show _ < 124; omega) | (show _ < 61; omega) | (show _ < 20; omega)) (P2.1.mo10) ?_
            refine ab_iconst (v := 4) X d_MO_offerThreshold_88 (by decide) ?_
            refine ab_iload_n X 4 d_MO_offerThreshold_89 rfl rfl ?_
            refine ab_imul X d_MO_offerThreshold_90 ?_
            refine ab_iload X 0 d_MO_offerThreshold_91 rfl ?_
            refine ab_iadd X d_MO_offerThreshold_93 ?_
            refine ab_iald X (4 * p1 + j) ⟨rfl, rfl⟩ d_MO_offerThreshold_94 (by first | assumption | decide | (show _ < 124; omega) | (show _ < 61; omega) | (show _ < 20; omega)) (nI_4a p1 j) (show 4 * p1 + j < 160 by omega) (ab_ln_lt _ _) ?_
            refine ab_top (P2.ai (by decide) (ech j hj1)) ?_
            refine ab_callS (as := [ab_I (nI (ch p1 j))]) X (fun h => by cases h) (t_MO_d u2 (ch p1 j)) ls_MO_195 d_MO_offerThreshold_95 rfl rfl ⟨by first | exact Nat.le_of_ble_eq_true rfl | (simp only [ab_rm]; omega), by first | exact Nat.le_of_ble_eq_true rfl | (simp only [ab_rm]; omega)⟩ ⟨by first | exact Nat.le_of_ble_eq_true rfl | (simp only [ab_rm]; omega), by first | exact Nat.le_of_ble_eq_true rfl | (simp only [ab_rm]; omega)⟩ (Nat.le_of_ble_eq_true rfl) (fun u95 r95 h95 => ?_)
            obtain ⟨e95, rfl⟩ := h95
            subst u95
            refine ab_callV (as := [ab_I (nI (3 * ch p1 j + 1))]) X (fun h => by cases h) (x_MO_yes u2 (3 * ch p1 j + 1) _ j (4 * lf (ch p1 j) - 2) _ (s1 j) P2.1 r2 ((A1 j hj1).fo P2) (o1 j hj1) (by omega) (by omega) (by omega) (by omega)) lk_MO_270 d_MO_offerThreshold_98 rfl rfl (by first | assumption | decide | (show _ < 124; omega) | (show _ < 61; omega) | (show _ < 20; omega)) ⟨by first | exact Nat.le_of_ble_eq_true rfl | (simp only [ab_rm]; omega), by first | exact Nat.le_of_ble_eq_true rfl | (simp only [ab_rm]; omega)⟩ ⟨by first | exact Nat.le_of_ble_eq_true rfl | (simp only [ab_rm]; omega), by first | exact Nat.le_of_ble_eq_true rfl | (simp only [ab_rm]; omega)⟩ (Nat.le_of_ble_eq_true rfl) (fun u98 r98 h98 => ?_)
            obtain ⟨⟨q98, r98⟩, rfl⟩ := h98
            have P98 := P2.trans q98 (by decide)
            refine ab_goto X 119 d_MO_offerThreshold_101 rfl ?_
            refine ab_iinc4 X 0 1 2 3 4 d_MO_offerThreshold_119 rfl (by decide) rfl rfl rfl rfl rfl rfl rfl rfl ?_
            refine ab_goto X 62 d_MO_offerThreshold_122 rfl ?_
            rw [show nI j + Int32.ofInt 1 = nI (j + 1) from nI_1 j]
            rw [← st] at r98
            exact ih2 (j + 1) _ _ pe (by omega) P98 (b2.fr3 q98) (mrw r98 (by omega) (by omega))
          · rw [if_neg bt1] at st
            have eb : nI (c1 / 2 ^ j % 2) = 0 := by rw [show c1 / 2 ^ j % 2 = 0 by omega]; rfl
            have x2 := o2 j hj1
            refine ab_iload X 0 d_MO_offerThreshold_62 rfl ?_
            refine ab_aload_n X 3 d_MO_offerThreshold_64 rfl rfl ?_
            refine ab_gR X fl_MO_39 d_MO_offerThreshold_65 (by first | assumption | decide | (show _ < 124; omega) | (show _ < 61; omega) | (show _ < 20; omega)) (P2.1.mo9) ?_
            refine ab_iload_n X 4 d_MO_offerThreshold_68 rfl rfl ?_
            refine ab_iald X (p1) ⟨rfl, rfl⟩ d_MO_offerThreshold_69 (by first | assumption | decide | (show _ < 124; omega) | (show _ < 61; omega) | (show _ < 20; omega)) (rfl) (show p1 < 40 by omega) (ab_ln_lt _ _) ?_
            refine ab_top (P2.ai (by decide) ec) ?_
            refine ab_icmp_ge X 125 d_MO_offerThreshold_70 rfl (fun hb => absurd hb ((nI_ge (by omega) (by omega)))) (fun _ => ?_)
            refine ab_iload_n X 2 d_MO_offerThreshold_73 rfl rfl ?_
            refine ab_iload X 0 d_MO_offerThreshold_74 rfl ?_
            refine ab_ishr X d_MO_offerThreshold_76 ?_
            refine ab_iconst (v := 1) X d_MO_offerThreshold_77 (by decide) ?_
            refine ab_iand X d_MO_offerThreshold_78 ?_
            refine ab_top ((th_bit c1 c16 j (by omega)).trans eb) ?_
            refine ab_iconst (v := 1) X d_MO_offerThreshold_79 (by decide) ?_
            refine ab_icmp_ne X 104 d_MO_offerThreshold_80 rfl (fun _ => ?_) (fun hb => absurd hb ((by decide)))
            refine ab_aload_n X 3 d_MO_offerThreshold_104 rfl rfl ?_
            refine ab_aload_n X 3 d_MO_offerThreshold_105 rfl rfl ?_
            refine ab_gR X fl_MO_42 d_MO_offerThreshold_106 (by first | assumption | decide | (show _ < 124; omega) | (show _ < 61; omega) | (show _ < 20; omega)) (P2.1.mo10) ?_
            refine ab_iconst (v := 4) X d_MO_offerThreshold_109 (by decide) ?_
            refine ab_iload_n X 4 d_MO_offerThreshold_110 rfl rfl ?_
            refine ab_imul X d_MO_offerThreshold_111 ?_
            refine ab_iload X 0 d_MO_offerThreshold_112 rfl ?_
            refine ab_iadd X d_MO_offerThreshold_114 ?_
            refine ab_iald X (4 * p1 + j) ⟨rfl, rfl⟩ d_MO_offerThreshold_115 (by first | assumption | decide | (show _ < 124; omega) | (show _ < 61; omega) | (show _ < 20; omega)) (nI_4a p1 j) (show 4 * p1 + j < 160 by omega) (ab_ln_lt _ _) ?_
            refine ab_top (P2.ai (by decide) (ech j hj1)) ?_
            refine ab_callV (as := [ab_I (nI (ch p1 j))]) X (fun h => by cases h) (x_MO_no u2 (ch p1 j) _ j _ (xs j) P2.1 r2 ((A2 j hj1).fo P2) ⟨by omega, x2.2⟩ (by omega) (by omega) (by omega)) lk_MO_276 d_MO_offerThreshold_116 rfl rfl (by first | assumption | decide | (show _ < 124; omega) | (show _ < 61; omega) | (show _ < 20; omega)) ⟨by first | exact Nat.le_of_ble_eq_true rfl | (simp only [ab_rm]; omega), by first | exact Nat.le_of_ble_eq_true rfl | (simp only [ab_rm]; omega)⟩ ⟨by first | exact Nat.le_of_ble_eq_true rfl | (simp only [ab_rm]; omega), by first | exact Nat.le_of_ble_eq_true rfl | (simp only [ab_rm]; omega)⟩ (Nat.le_of_ble_eq_true rfl) (fun u116 r116 h116 => ?_)
            obtain ⟨⟨q116, r116⟩, rfl⟩ := h116
            have P116 := P2.trans q116 (by decide)
            refine ab_iinc4 X 0 1 2 3 4 d_MO_offerThreshold_119 rfl (by decide) rfl rfl rfl rfl rfl rfl rfl rfl ?_
            refine ab_goto X 62 d_MO_offerThreshold_122 rfl ?_
            rw [show nI j + Int32.ofInt 1 = nI (j + 1) from nI_1 j]
            rw [← st] at r116
            exact ih2 (j + 1) _ _ pe (by omega) P116 (b2.fr3 q116) (mrw r116 (by omega) (by omega))
      have in1 : ∀ (k j : Nat), k + j = cn p1 → ab_J p l e (ab_rm 3 0 0) s m args below meth c (MQ below (ab_Q D ca ad ab_nQ s.heap.size (fun u' v => (gP [26, 27, 29, 30, 115, 116] u u' ∧ mBs u' (bts (ar p1) (cn p1) s1 (fun i => some (xs i)) (2 ^ cn p1))) ∧ v = none)) args s 0 0 (ab_A ad ab_nQ s.heap.size)) D ca (ab_A ad ab_nQ s.heap.size) s.heap 5 0 0 ad ab_nQ u1 19 [(4, ab_I (nI j)), (3, ab_I (nI (sm (fun i => c1 / 2 ^ i % 2) j))), (2, ab_I (nI c1)), (0, ab_O 17 0), (1, ab_I (nI p1))] [] := by
        intro k
        induction k with
        | zero =>
          intro j hj
          obtain rfl : j = cn p1 := by omega
          rw [pcn_sm _ n4 c1 (by omega)]
          by_cases pe : pcn c1 = ar p1
          ·
            refine ab_iload X 0 d_MO_offerThreshold_19 rfl ?_
            refine ab_aload_n X 3 d_MO_offerThreshold_21 rfl rfl ?_
            refine ab_gR X fl_MO_39 d_MO_offerThreshold_22 (by first | assumption | decide | (show _ < 124; omega) | (show _ < 61; omega) | (show _ < 20; omega)) (P1.1.mo9) ?_
            refine ab_iload_n X 4 d_MO_offerThreshold_25 rfl rfl ?_
            refine ab_iald X (p1) ⟨rfl, rfl⟩ d_MO_offerThreshold_26 (by first | assumption | decide | (show _ < 124; omega) | (show _ < 61; omega) | (show _ < 20; omega)) (rfl) (show p1 < 40 by omega) (ab_ln_lt _ _) ?_
            refine ab_top (P1.ai (by decide) ec) ?_
            refine ab_icmp_ge X 45 d_MO_offerThreshold_27 rfl (fun _ => ?_) (fun hb => absurd ((nI_le (by omega) (by omega))) hb)
            refine ab_iload_n X 1 d_MO_offerThreshold_45 rfl rfl ?_
            refine ab_aload_n X 3 d_MO_offerThreshold_46 rfl rfl ?_
            refine ab_gR X fl_MO_36 d_MO_offerThreshold_47 (by first | assumption | decide | (show _ < 124; omega) | (show _ < 61; omega) | (show _ < 20; omega)) (P1.1.mo8) ?_
            refine ab_iload_n X 4 d_MO_offerThreshold_50 rfl rfl ?_
            refine ab_iald X (p1) ⟨rfl, rfl⟩ d_MO_offerThreshold_51 (by first | assumption | decide | (show _ < 124; omega) | (show _ < 61; omega) | (show _ < 20; omega)) (rfl) (show p1 < 40 by omega) (ab_ln_lt _ _) ?_
            refine ab_top (P1.ai (by decide) ea) ?_
            refine ab_icmp_ne X 129 d_MO_offerThreshold_52 rfl (fun hb => absurd ((by rw [pe])) hb) (fun _ => ?_)
            refine ab_aload_n X 3 d_MO_offerThreshold_55 rfl rfl ?_
            refine ab_callV (as := []) X (fun h => by cases h) (x_MO_newRow u1 P1.1) lk_MO_267 d_MO_offerThreshold_56 rfl rfl (by first | assumption | decide | (show _ < 124; omega) | (show _ < 61; omega) | (show _ < 20; omega)) ⟨by first | exact Nat.le_of_ble_eq_true rfl | (simp only [ab_rm]; omega), by first | exact Nat.le_of_ble_eq_true rfl | (simp only [ab_rm]; omega)⟩ ⟨by first | exact Nat.le_of_ble_eq_true rfl | (simp only [ab_rm]; omega), by first | exact Nat.le_of_ble_eq_true rfl | (simp only [ab_rm]; omega)⟩ (Nat.le_of_ble_eq_true rfl) (fun u56 r56 h56 => ?_)
            obtain ⟨⟨q56, r56⟩, rfl⟩ := h56
            have P56 := P1.trans q56 (by decide)
            refine ab_iconst (v := 0) X d_MO_offerThreshold_59 (by decide) ?_
            refine ab_istore4 X 1 2 3 4 d_MO_offerThreshold_60 (by decide) rfl rfl rfl rfl rfl rfl rfl rfl ?_
            exact in2 (cn p1) 0 _ _ pe (by omega) P56 (b1.fr3 q56) r56
          · rw [if_neg pe] at es
            refine ab_iload X 0 d_MO_offerThreshold_19 rfl ?_
            refine ab_aload_n X 3 d_MO_offerThreshold_21 rfl rfl ?_
            refine ab_gR X fl_MO_39 d_MO_offerThreshold_22 (by first | assumption | decide | (show _ < 124; omega) | (show _ < 61; omega) | (show _ < 20; omega)) (P1.1.mo9) ?_
            refine ab_iload_n X 4 d_MO_offerThreshold_25 rfl rfl ?_
            refine ab_iald X (p1) ⟨rfl, rfl⟩ d_MO_offerThreshold_26 (by first | assumption | decide | (show _ < 124; omega) | (show _ < 61; omega) | (show _ < 20; omega)) (rfl) (show p1 < 40 by omega) (ab_ln_lt _ _) ?_
            refine ab_top (P1.ai (by decide) ec) ?_
            refine ab_icmp_ge X 45 d_MO_offerThreshold_27 rfl (fun _ => ?_) (fun hb => absurd ((nI_le (by omega) (by omega))) hb)
            refine ab_iload_n X 1 d_MO_offerThreshold_45 rfl rfl ?_
            refine ab_aload_n X 3 d_MO_offerThreshold_46 rfl rfl ?_
            refine ab_gR X fl_MO_36 d_MO_offerThreshold_47 (by first | assumption | decide | (show _ < 124; omega) | (show _ < 61; omega) | (show _ < 20; omega)) (P1.1.mo8) ?_
            refine ab_iload_n X 4 d_MO_offerThreshold_50 rfl rfl ?_
            refine ab_iald X (p1) ⟨rfl, rfl⟩ d_MO_offerThreshold_51 (by first | assumption | decide | (show _ < 124; omega) | (show _ < 61; omega) | (show _ < 20; omega)) (rfl) (show p1 < 40 by omega) (ab_ln_lt _ _) ?_
            refine ab_top (P1.ai (by decide) ea) ?_
            refine ab_icmp_ne X 129 d_MO_offerThreshold_52 rfl (fun _ => ?_) (fun hb => absurd hb ((fun z => pe ((nI_eq (by omega) (by omega)).mp z))))
            refine ab_iinc4 X 2 0 1 3 4 d_MO_offerThreshold_129 rfl (by decide) rfl rfl rfl rfl rfl rfl rfl rfl ?_
            refine ab_goto X 2 d_MO_offerThreshold_132 rfl ?_
            refine ab_lv (List.forall_mem_cons.mpr ⟨List.mem_of_getElem? (i := 0) rfl, List.forall_mem_cons.mpr ⟨List.mem_of_getElem? (i := 3) rfl, List.forall_mem_cons.mpr ⟨List.mem_of_getElem? (i := 4) rfl, fun _ h => absurd h List.not_mem_nil⟩⟩⟩) ?_
            rw [show nI c1 + Int32.ofInt 1 = nI (c1 + 1) from nI_1 c1]
            exact ih (c1 + 1) _ (by omega) P1 (by rw [es]; exact b1)
        | succ k ih2 =>
          intro j hj
          refine ab_iload X 0 d_MO_offerThreshold_19 rfl ?_
          refine ab_aload_n X 3 d_MO_offerThreshold_21 rfl rfl ?_
          refine ab_gR X fl_MO_39 d_MO_offerThreshold_22 (by first | assumption | decide | (show _ < 124; omega) | (show _ < 61; omega) | (show _ < 20; omega)) (P1.1.mo9) ?_
          refine ab_iload_n X 4 d_MO_offerThreshold_25 rfl rfl ?_
          refine ab_iald X (p1) ⟨rfl, rfl⟩ d_MO_offerThreshold_26 (by first | assumption | decide | (show _ < 124; omega) | (show _ < 61; omega) | (show _ < 20; omega)) (rfl) (show p1 < 40 by omega) (ab_ln_lt _ _) ?_
          refine ab_top (P1.ai (by decide) ec) ?_
          refine ab_icmp_ge X 45 d_MO_offerThreshold_27 rfl (fun hb => absurd hb ((nI_ge (by omega) (by omega)))) (fun _ => ?_)
          refine ab_iload_n X 1 d_MO_offerThreshold_30 rfl rfl ?_
          refine ab_iload_n X 2 d_MO_offerThreshold_31 rfl rfl ?_
          refine ab_iload X 0 d_MO_offerThreshold_32 rfl ?_
          refine ab_ishr X d_MO_offerThreshold_34 ?_
          refine ab_iconst (v := 1) X d_MO_offerThreshold_35 (by decide) ?_
          refine ab_iand X d_MO_offerThreshold_36 ?_
          refine ab_top (th_bit c1 c16 j (by omega)) ?_
          refine ab_iadd X d_MO_offerThreshold_37 ?_
          refine ab_top (nI_add _ _) ?_
          refine ab_istore_n4 X 0 2 3 4 d_MO_offerThreshold_38 rfl (by decide) rfl rfl rfl rfl rfl rfl rfl rfl ?_
          refine ab_iinc4 X 1 0 2 3 4 d_MO_offerThreshold_39 rfl (by decide) rfl rfl rfl rfl rfl rfl rfl rfl ?_
          refine ab_goto X 19 d_MO_offerThreshold_42 rfl ?_
          rw [show nI j + Int32.ofInt 1 = nI (j + 1) from nI_1 j]
          exact ih2 (j + 1) (by omega)
      refine ab_iload_n X 0 d_MO_offerThreshold_2 rfl rfl ?_
      refine ab_iconst (v := 1) X d_MO_offerThreshold_3 (by decide) ?_
      refine ab_aload_n X 1 d_MO_offerThreshold_4 rfl rfl ?_
      refine ab_gR X fl_MO_39 d_MO_offerThreshold_5 (by first | assumption | decide | (show _ < 124; omega) | (show _ < 61; omega) | (show _ < 20; omega)) (P1.1.mo9) ?_
      refine ab_iload_n X 2 d_MO_offerThreshold_8 rfl rfl ?_
      refine ab_iald X (p1) ⟨rfl, rfl⟩ d_MO_offerThreshold_9 (by first | assumption | decide | (show _ < 124; omega) | (show _ < 61; omega) | (show _ < 20; omega)) (rfl) (show p1 < 40 by omega) (ab_ln_lt _ _) ?_
      refine ab_top (P1.ai (by decide) ec) ?_
      refine ab_ishl X d_MO_offerThreshold_10 ?_
      refine ab_top tw.1 ?_
      refine ab_icmp_ge X 135 d_MO_offerThreshold_11 rfl (fun hb => absurd hb ((nI_ge (by omega) (by omega)))) (fun _ => ?_)
      refine ab_iconst (v := 0) X d_MO_offerThreshold_14 (by decide) ?_
      refine ab_istore_n3 X 0 1 2 d_MO_offerThreshold_15 rfl (by decide) rfl rfl rfl rfl rfl rfl ?_
      refine ab_iconst (v := 0) X d_MO_offerThreshold_16 (by decide) ?_
      refine ab_istore4 X 0 1 2 3 d_MO_offerThreshold_17 (by decide) rfl rfl rfl rfl rfl rfl rfl rfl ?_
      exact in1 (cn p1) 0 (by omega)
  refine ab_iconst (v := 0) X d_MO_offerThreshold_0 (by decide) ?_
  refine ab_istore_n2 X 0 1 d_MO_offerThreshold_1 rfl (by decide) rfl rfl rfl rfl ?_
  exact outer (2 ^ cn p1) 0 _ (by omega) P0 B
end SaSMOff

