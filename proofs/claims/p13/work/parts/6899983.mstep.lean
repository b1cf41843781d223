/-! The class's machine, one word. -/
section SaXStep
variable {l : Launch} {D : va_G} {ca : Nat → ClassId}
theorem cn_n {α : Type} {w : Nat} {t : List Nat} {a b : α} : (if w :: t = [] then a else b) = b := if_neg (List.cons_ne_nil _ _)
theorem tn_n {α : Type} {w : Nat} {t : List Nat} {a b : α} (h : w ≤ 9) : (if w :: t = [] ∨ 9 < (w :: t).headD 0 then a else b) = b := if_neg (by rintro (z | z); exact List.cons_ne_nil _ _ z; exact absurd (show 9 < w from z) (by omega))
theorem tn_y {α : Type} {w : Nat} {t : List Nat} {a b : α} (h : 9 < w) : (if w :: t = [] ∨ 9 < (w :: t).headD 0 then a else b) = a := if_pos (Or.inr h)
theorem tn_0 {α : Type} {a b : α} : (if ([] : List Nat) = [] ∨ 9 < ([] : List Nat).headD 0 then a else b) = a := if_pos (Or.inl rfl)
theorem tn_1 {w : Nat} {t : List Nat} {b : Int32} (hb : b = 1) : (if w :: t = [] ∨ 9 < (w :: t).headD 0 then 1 else b) = 1 := by rw [hb]; split <;> rfl
set_option maxRecDepth 100000 in
set_option maxHeartbeats 1000000 in
theorem x_MA_ar10 (u : ab_S) (st sd : List Nat) (h : CI u) (C : cM u st sd) (hh aa : Int32) (x a : Nat) (r : List Nat) (hL : st.length < 167) (hS : sd.length < 127) (e4 : u.1 7 0 4 = nI a) (e6 : u.1 7 0 6 = 0) (Wx : wX u a r) (G : gd x r st) (hx : x / 1000 = 10) : ab_C false l D ca y_MA_stepAround b_MA_stepAround 3 none 2 ab_nQ u [ab_O 7 0, ab_I (nI 10), ab_O 5 0] (fun u' w => sQ hh aa x r st sd a u u' ∧ w = none) := by
  refine ab_C.of (by decide) (Nat.le_of_ble_eq_true rfl) ?_
  intro p e s m args below meth c ad X hZ hr0 hlk
  have P0 : mQ u u := mQ.rf h
  cases st with
  | nil =>
    refine ab_iload_n X 1 d_MA_stepAround_0 rfl rfl ?_
    refine ab_tsw X [(10, 44), (11, 55), (12, 73), (13, 81), (15, 95), (16, 66)] 116 d_MA_stepAround_1 (by decide +kernel) rfl (List.forall_mem_cons.mpr ⟨fun _ => ?_, List.forall_mem_cons.mpr ⟨fun hsw => absurd hsw (by decide), List.forall_mem_cons.mpr ⟨fun hsw => absurd hsw (by decide), List.forall_mem_cons.mpr ⟨fun hsw => absurd hsw (by decide), List.forall_mem_cons.mpr ⟨fun hsw => absurd hsw (by decide), List.forall_mem_cons.mpr ⟨fun hsw => absurd hsw (by decide), fun _ h => absurd h List.not_mem_nil⟩⟩⟩⟩⟩⟩) (fun hsw => absurd hsw (by decide))
    refine ab_aload_n X 0 d_MA_stepAround_44 rfl rfl ?_
    refine ab_aload_n X 0 d_MA_stepAround_45 rfl rfl ?_
    refine ab_callV (as := []) X (fun h => by cases h) (x_MA_take u [] sd h C (by decide)) lk_MA_64 d_MA_stepAround_46 rfl rfl (by first | assumption | decide | (show _ < 124; omega) | (show _ < 61; omega) | (show _ < 20; omega)) ⟨by first | exact Nat.le_of_ble_eq_true rfl | (simp only [ab_rm]; omega), by first | exact Nat.le_of_ble_eq_true rfl | (simp only [ab_rm]; omega)⟩ ⟨by first | exact Nat.le_of_ble_eq_true rfl | (simp only [ab_rm]; omega), by first | exact Nat.le_of_ble_eq_true rfl | (simp only [ab_rm]; omega)⟩ (Nat.le_of_ble_eq_true rfl) (fun u46 r46 h46 => ?_)
    obtain ⟨⟨z46, c46, g46⟩, rfl⟩ := h46
    have q46 := z46.1
    have P46 := P0.trans q46 (by decide)
    refine ab_callV (as := [ab_I (nI 0)]) X (fun h => by cases h) (x_MA_pushAside u46 0 [] sd P46.1 c46 (by decide) (by omega)) lk_MA_85 d_MA_stepAround_49 rfl rfl (by first | assumption | decide | (show _ < 124; omega) | (show _ < 61; omega) | (show _ < 20; omega)) ⟨by first | exact Nat.le_of_ble_eq_true rfl | (simp only [ab_rm]; omega), by first | exact Nat.le_of_ble_eq_true rfl | (simp only [ab_rm]; omega)⟩ ⟨by first | exact Nat.le_of_ble_eq_true rfl | (simp only [ab_rm]; omega), by first | exact Nat.le_of_ble_eq_true rfl | (simp only [ab_rm]; omega)⟩ (Nat.le_of_ble_eq_true rfl) (fun u49 r49 h49 => ?_)
    obtain ⟨⟨z49, c49, g49⟩, rfl⟩ := h49
    have q49 := z49.1
    have P49 := P46.trans q49 (by decide)
    refine ab_goto X 116 d_MA_stepAround_52 rfl ?_
    exact ab_retv X hr0 hlk d_MA_stepAround_116 ⟨sQ.no P49 (show stp hh aa x r [] sd = none by simp [stp, hx]) (g49.trans (g46.trans (if_pos rfl))) (z49.2.trans (z46.2.trans e4)), rfl⟩
  | cons w t =>
    have hL : t.length + 1 < 167 := hL
    have hd : w < 2000 := C.1.2.1.2
    refine ab_iload_n X 1 d_MA_stepAround_0 rfl rfl ?_
    refine ab_tsw X [(10, 44), (11, 55), (12, 73), (13, 81), (15, 95), (16, 66)] 116 d_MA_stepAround_1 (by decide +kernel) rfl (List.forall_mem_cons.mpr ⟨fun _ => ?_, List.forall_mem_cons.mpr ⟨fun hsw => absurd hsw (by decide), List.forall_mem_cons.mpr ⟨fun hsw => absurd hsw (by decide), List.forall_mem_cons.mpr ⟨fun hsw => absurd hsw (by decide), List.forall_mem_cons.mpr ⟨fun hsw => absurd hsw (by decide), List.forall_mem_cons.mpr ⟨fun hsw => absurd hsw (by decide), fun _ h => absurd h List.not_mem_nil⟩⟩⟩⟩⟩⟩) (fun hsw => absurd hsw (by decide))
    refine ab_aload_n X 0 d_MA_stepAround_44 rfl rfl ?_
    refine ab_aload_n X 0 d_MA_stepAround_45 rfl rfl ?_
    refine ab_callV (as := []) X (fun h => by cases h) (x_MA_take u (w :: t) sd h C (by show t.length + 1 ≤ 168; omega)) lk_MA_64 d_MA_stepAround_46 rfl rfl (by first | assumption | decide | (show _ < 124; omega) | (show _ < 61; omega) | (show _ < 20; omega)) ⟨by first | exact Nat.le_of_ble_eq_true rfl | (simp only [ab_rm]; omega), by first | exact Nat.le_of_ble_eq_true rfl | (simp only [ab_rm]; omega)⟩ ⟨by first | exact Nat.le_of_ble_eq_true rfl | (simp only [ab_rm]; omega), by first | exact Nat.le_of_ble_eq_true rfl | (simp only [ab_rm]; omega)⟩ (Nat.le_of_ble_eq_true rfl) (fun u46 r46 h46 => ?_)
    obtain ⟨⟨z46, c46, g46⟩, rfl⟩ := h46
    have q46 := z46.1
    have P46 := P0.trans q46 (by decide)
    refine ab_callV (as := [ab_I (nI w)]) X (fun h => by cases h) (x_MA_pushAside u46 w t sd P46.1 c46 (by omega) (by omega)) lk_MA_85 d_MA_stepAround_49 rfl rfl (by first | assumption | decide | (show _ < 124; omega) | (show _ < 61; omega) | (show _ < 20; omega)) ⟨by first | exact Nat.le_of_ble_eq_true rfl | (simp only [ab_rm]; omega), by first | exact Nat.le_of_ble_eq_true rfl | (simp only [ab_rm]; omega)⟩ ⟨by first | exact Nat.le_of_ble_eq_true rfl | (simp only [ab_rm]; omega), by first | exact Nat.le_of_ble_eq_true rfl | (simp only [ab_rm]; omega)⟩ (Nat.le_of_ble_eq_true rfl) (fun u49 r49 h49 => ?_)
    obtain ⟨⟨z49, c49, g49⟩, rfl⟩ := h49
    have q49 := z49.1
    have P49 := P46.trans q49 (by decide)
    refine ab_goto X 116 d_MA_stepAround_52 rfl ?_
    exact ab_retv X hr0 hlk d_MA_stepAround_116 ⟨sQ.yes P49 (show stp hh aa x r (w :: t) sd = some (r, t, w :: sd) by simp [stp, hx]) (g49.trans (g46.trans (cn_n.trans e6))) (c49) (z49.2.trans (z46.2.trans e4)), rfl⟩
set_option maxRecDepth 100000 in
set_option maxHeartbeats 1000000 in
theorem x_MA_ar11 (u : ab_S) (st sd : List Nat) (h : CI u) (C : cM u st sd) (hh aa : Int32) (x a : Nat) (r : List Nat) (hL : st.length < 167) (hS : sd.length < 127) (e4 : u.1 7 0 4 = nI a) (e6 : u.1 7 0 6 = 0) (Wx : wX u a r) (G : gd x r st) (hx : x / 1000 = 11) : ab_C false l D ca y_MA_stepAround b_MA_stepAround 3 none 2 ab_nQ u [ab_O 7 0, ab_I (nI 11), ab_O 5 0] (fun u' w => sQ hh aa x r st sd a u u' ∧ w = none) := by
  refine ab_C.of (by decide) (Nat.le_of_ble_eq_true rfl) ?_
  intro p e s m args below meth c ad X hZ hr0 hlk
  have P0 : mQ u u := mQ.rf h
  cases sd with
  | nil =>
    refine ab_iload_n X 1 d_MA_stepAround_0 rfl rfl ?_
    refine ab_tsw X [(10, 44), (11, 55), (12, 73), (13, 81), (15, 95), (16, 66)] 116 d_MA_stepAround_1 (by decide +kernel) rfl (List.forall_mem_cons.mpr ⟨fun hsw => absurd hsw (by decide), List.forall_mem_cons.mpr ⟨fun _ => ?_, List.forall_mem_cons.mpr ⟨fun hsw => absurd hsw (by decide), List.forall_mem_cons.mpr ⟨fun hsw => absurd hsw (by decide), List.forall_mem_cons.mpr ⟨fun hsw => absurd hsw (by decide), List.forall_mem_cons.mpr ⟨fun hsw => absurd hsw (by decide), fun _ h => absurd h List.not_mem_nil⟩⟩⟩⟩⟩⟩) (fun hsw => absurd hsw (by decide))
    refine ab_aload_n X 0 d_MA_stepAround_55 rfl rfl ?_
    refine ab_aload_n X 0 d_MA_stepAround_56 rfl rfl ?_
    refine ab_callV (as := []) X (fun h => by cases h) (x_MA_takeBack u st [] h C (by decide)) lk_MA_88 d_MA_stepAround_57 rfl rfl (by first | assumption | decide | (show _ < 124; omega) | (show _ < 61; omega) | (show _ < 20; omega)) ⟨by first | exact Nat.le_of_ble_eq_true rfl | (simp only [ab_rm]; omega), by first | exact Nat.le_of_ble_eq_true rfl | (simp only [ab_rm]; omega)⟩ ⟨by first | exact Nat.le_of_ble_eq_true rfl | (simp only [ab_rm]; omega), by first | exact Nat.le_of_ble_eq_true rfl | (simp only [ab_rm]; omega)⟩ (Nat.le_of_ble_eq_true rfl) (fun u57 r57 h57 => ?_)
    obtain ⟨⟨z57, c57, g57⟩, rfl⟩ := h57
    have q57 := z57.1
    have P57 := P0.trans q57 (by decide)
    refine ab_callV (as := [ab_I (nI 0)]) X (fun h => by cases h) (x_MA_push u57 0 st [] P57.1 c57 (by decide) (by omega)) lk_MA_57 d_MA_stepAround_60 rfl rfl (by first | assumption | decide | (show _ < 124; omega) | (show _ < 61; omega) | (show _ < 20; omega)) ⟨by first | exact Nat.le_of_ble_eq_true rfl | (simp only [ab_rm]; omega), by first | exact Nat.le_of_ble_eq_true rfl | (simp only [ab_rm]; omega)⟩ ⟨by first | exact Nat.le_of_ble_eq_true rfl | (simp only [ab_rm]; omega), by first | exact Nat.le_of_ble_eq_true rfl | (simp only [ab_rm]; omega)⟩ (Nat.le_of_ble_eq_true rfl) (fun u60 r60 h60 => ?_)
    obtain ⟨⟨z60, c60, g60⟩, rfl⟩ := h60
    have q60 := z60.1
    have P60 := P57.trans q60 (by decide)
    refine ab_goto X 116 d_MA_stepAround_63 rfl ?_
    exact ab_retv X hr0 hlk d_MA_stepAround_116 ⟨sQ.no P60 (show stp hh aa x r st [] = none by simp [stp, hx]) (g60.trans (g57.trans (if_pos rfl))) (z60.2.trans (z57.2.trans e4)), rfl⟩
  | cons w t =>
    have hS : t.length + 1 < 127 := hS
    have hd : w < 2000 := C.2.2.1.2
    refine ab_iload_n X 1 d_MA_stepAround_0 rfl rfl ?_
    refine ab_tsw X [(10, 44), (11, 55), (12, 73), (13, 81), (15, 95), (16, 66)] 116 d_MA_stepAround_1 (by decide +kernel) rfl (List.forall_mem_cons.mpr ⟨fun hsw => absurd hsw (by decide), List.forall_mem_cons.mpr ⟨fun _ => ?_, List.forall_mem_cons.mpr ⟨fun hsw => absurd hsw (by decide), List.forall_mem_cons.mpr ⟨fun hsw => absurd hsw (by decide), List.forall_mem_cons.mpr ⟨fun hsw => absurd hsw (by decide), List.forall_mem_cons.mpr ⟨fun hsw => absurd hsw (by decide), fun _ h => absurd h List.not_mem_nil⟩⟩⟩⟩⟩⟩) (fun hsw => absurd hsw (by decide))
    refine ab_aload_n X 0 d_MA_stepAround_55 rfl rfl ?_
    refine ab_aload_n X 0 d_MA_stepAround_56 rfl rfl ?_
    refine ab_callV (as := []) X (fun h => by cases h) (x_MA_takeBack u st (w :: t) h C (by show t.length + 1 ≤ 128; omega)) lk_MA_88 d_MA_stepAround_57 rfl rfl (by first | assumption | decide | (show _ < 124; omega) | (show _ < 61; omega) | (show _ < 20; omega)) ⟨by first | exact Nat.le_of_ble_eq_true rfl | (simp only [ab_rm]; omega), by first | exact Nat.le_of_ble_eq_true rfl | (simp only [ab_rm]; omega)⟩ ⟨by first | exact Nat.le_of_ble_eq_true rfl | (simp only [ab_rm]; omega), by first | exact Nat.le_of_ble_eq_true rfl | (simp only [ab_rm]; omega)⟩ (Nat.le_of_ble_eq_true rfl) (fun u57 r57 h57 => ?_)
    obtain ⟨⟨z57, c57, g57⟩, rfl⟩ := h57
    have q57 := z57.1
    have P57 := P0.trans q57 (by decide)
    refine ab_callV (as := [ab_I (nI w)]) X (fun h => by cases h) (x_MA_push u57 w st t P57.1 c57 (by omega) (by omega)) lk_MA_57 d_MA_stepAround_60 rfl rfl (by first | assumption | decide | (show _ < 124; omega) | (show _ < 61; omega) | (show _ < 20; omega)) ⟨by first | exact Nat.le_of_ble_eq_true rfl | (simp only [ab_rm]; omega), by first | exact Nat.le_of_ble_eq_true rfl | (simp only [ab_rm]; omega)⟩ ⟨by first | exact Nat.le_of_ble_eq_true rfl | (simp only [ab_rm]; omega), by first | exact Nat.le_of_ble_eq_true rfl | (simp only [ab_rm]; omega)⟩ (Nat.le_of_ble_eq_true rfl) (fun u60 r60 h60 => ?_)
    obtain ⟨⟨z60, c60, g60⟩, rfl⟩ := h60
    have q60 := z60.1
    have P60 := P57.trans q60 (by decide)
    refine ab_goto X 116 d_MA_stepAround_63 rfl ?_
    exact ab_retv X hr0 hlk d_MA_stepAround_116 ⟨sQ.yes P60 (show stp hh aa x r st (w :: t) = some (r, w :: st, t) by simp [stp, hx]) (g60.trans (g57.trans (cn_n.trans e6))) c60 (z60.2.trans (z57.2.trans e4)), rfl⟩
set_option maxRecDepth 100000 in
set_option maxHeartbeats 1000000 in
theorem x_MA_ar12 (u : ab_S) (st sd : List Nat) (h : CI u) (C : cM u st sd) (hh aa : Int32) (x a : Nat) (r : List Nat) (hL : st.length < 167) (hS : sd.length < 127) (e4 : u.1 7 0 4 = nI a) (e6 : u.1 7 0 6 = 0) (Wx : wX u a r) (G : gd x r st) (hx : x / 1000 = 12) : ab_C false l D ca y_MA_stepAround b_MA_stepAround 3 none 2 ab_nQ u [ab_O 7 0, ab_I (nI 12), ab_O 5 0] (fun u' w => sQ hh aa x r st sd a u u' ∧ w = none) := by
  refine ab_C.of (by decide) (Nat.le_of_ble_eq_true rfl) ?_
  intro p e s m args below meth c ad X hZ hr0 hlk
  have P0 : mQ u u := mQ.rf h
  refine ab_iload_n X 1 d_MA_stepAround_0 rfl rfl ?_
  refine ab_tsw X [(10, 44), (11, 55), (12, 73), (13, 81), (15, 95), (16, 66)] 116 d_MA_stepAround_1 (by decide +kernel) rfl (List.forall_mem_cons.mpr ⟨fun hsw => absurd hsw (by decide), List.forall_mem_cons.mpr ⟨fun hsw => absurd hsw (by decide), List.forall_mem_cons.mpr ⟨fun _ => ?_, List.forall_mem_cons.mpr ⟨fun hsw => absurd hsw (by decide), List.forall_mem_cons.mpr ⟨fun hsw => absurd hsw (by decide), List.forall_mem_cons.mpr ⟨fun hsw => absurd hsw (by decide), fun _ h => absurd h List.not_mem_nil⟩⟩⟩⟩⟩⟩) (fun hsw => absurd hsw (by decide))
  refine ab_aload_n X 0 d_MA_stepAround_73 rfl rfl ?_
  refine ab_aload_n X 2 d_MA_stepAround_74 rfl rfl ?_
  refine ab_callV (as := [ab_O 5 0]) X (fun h => by cases h) (x_MA_tryIf u st sd h C hh aa x a r hL e4 e6 Wx G hx) lk_MA_94 d_MA_stepAround_75 rfl rfl (by first | assumption | decide | (show _ < 124; omega) | (show _ < 61; omega) | (show _ < 20; omega)) ⟨by first | exact Nat.le_of_ble_eq_true rfl | (simp only [ab_rm]; omega), by first | exact Nat.le_of_ble_eq_true rfl | (simp only [ab_rm]; omega)⟩ ⟨by first | exact Nat.le_of_ble_eq_true rfl | (simp only [ab_rm]; omega), by first | exact Nat.le_of_ble_eq_true rfl | (simp only [ab_rm]; omega)⟩ (Nat.le_of_ble_eq_true rfl) (fun u75 r75 h75 => ?_)
  obtain ⟨s75, rfl⟩ := h75
  have q75 := s75.1
  have P75 := P0.trans q75 (by decide)
  refine ab_goto X 116 d_MA_stepAround_78 rfl ?_
  exact ab_retv X hr0 hlk d_MA_stepAround_116 ⟨s75, rfl⟩
set_option maxRecDepth 100000 in
set_option maxHeartbeats 1000000 in
theorem x_MA_ar13 (u : ab_S) (st sd : List Nat) (h : CI u) (C : cM u st sd) (hh aa : Int32) (x a : Nat) (r : List Nat) (hL : st.length < 167) (hS : sd.length < 127) (e4 : u.1 7 0 4 = nI a) (e6 : u.1 7 0 6 = 0) (Wx : wX u a r) (G : gd x r st) (hx : x / 1000 = 13) : ab_C false l D ca y_MA_stepAround b_MA_stepAround 3 none 2 ab_nQ u [ab_O 7 0, ab_I (nI 13), ab_O 5 0] (fun u' w => sQ hh aa x r st sd a u u' ∧ w = none) := by
  refine ab_C.of (by decide) (Nat.le_of_ble_eq_true rfl) ?_
  intro p e s m args below meth c ad X hZ hr0 hlk
  have P0 : mQ u u := mQ.rf h
  obtain ⟨n, hf⟩ := G.2.2 (Or.inl hx)
  have hn := fnd_lt hf
  have hN := Wx.2.1
  refine ab_iload_n X 1 d_MA_stepAround_0 rfl rfl ?_
  refine ab_tsw X [(10, 44), (11, 55), (12, 73), (13, 81), (15, 95), (16, 66)] 116 d_MA_stepAround_1 (by decide +kernel) rfl (List.forall_mem_cons.mpr ⟨fun hsw => absurd hsw (by decide), List.forall_mem_cons.mpr ⟨fun hsw => absurd hsw (by decide), List.forall_mem_cons.mpr ⟨fun hsw => absurd hsw (by decide), List.forall_mem_cons.mpr ⟨fun _ => ?_, List.forall_mem_cons.mpr ⟨fun hsw => absurd hsw (by decide), List.forall_mem_cons.mpr ⟨fun hsw => absurd hsw (by decide), fun _ h => absurd h List.not_mem_nil⟩⟩⟩⟩⟩⟩) (fun hsw => absurd hsw (by decide))
  refine ab_aload_n X 0 d_MA_stepAround_81 rfl rfl ?_
  refine ab_aload_n X 0 d_MA_stepAround_82 rfl rfl ?_
  refine ab_bipush (v := 14) X d_MA_stepAround_83 (by decide) ?_
  refine ab_aload_n X 2 d_MA_stepAround_85 rfl rfl ?_
  refine ab_callV (as := [ab_I (nI 14), ab_O 5 0]) X (fun h => by cases h) (t_MA_findF u 14 a n r h (Or.inr rfl) e4 Wx hf) lk_MA_98 d_MA_stepAround_86 rfl rfl (by first | assumption | decide | (show _ < 124; omega) | (show _ < 61; omega) | (show _ < 20; omega)) ⟨by first | exact Nat.le_of_ble_eq_true rfl | (simp only [ab_rm]; omega), by first | exact Nat.le_of_ble_eq_true rfl | (simp only [ab_rm]; omega)⟩ ⟨by first | exact Nat.le_of_ble_eq_true rfl | (simp only [ab_rm]; omega), by first | exact Nat.le_of_ble_eq_true rfl | (simp only [ab_rm]; omega)⟩ (Nat.le_of_ble_eq_true rfl) (fun u86 r86 h86 => ?_)
  obtain ⟨e86, rfl⟩ := h86
  subst u86
  refine ab_putI X fp_MA_25 d_MA_stepAround_89 (by first | assumption | decide | (show _ < 124; omega) | (show _ < 61; omega) | (show _ < 20; omega)) rfl rfl ?_
  refine ab_gen (fun u89 e89 => ?_)
  have P89 : mQ u u89 := by rw [e89]; exact P0.m4 (by omega)
  refine ab_goto X 116 d_MA_stepAround_92 rfl ?_
  exact ab_retv X hr0 hlk d_MA_stepAround_116 ⟨sQ.jmp P89 hf (stp_13 hx) (by rw [e89]; exact (ui_n _ (by omega)).trans e6) (by rw [e89]; exact C.ui (by decide)) hn (by rw [e89]; exact ui_s _), rfl⟩
set_option maxRecDepth 100000 in
set_option maxHeartbeats 1000000 in
theorem x_MA_ar14 (u : ab_S) (st sd : List Nat) (h : CI u) (C : cM u st sd) (hh aa : Int32) (x a : Nat) (r : List Nat) (hL : st.length < 167) (hS : sd.length < 127) (e4 : u.1 7 0 4 = nI a) (e6 : u.1 7 0 6 = 0) (Wx : wX u a r) (G : gd x r st) (hx : x / 1000 = 14) : ab_C false l D ca y_MA_stepAround b_MA_stepAround 3 none 2 ab_nQ u [ab_O 7 0, ab_I (nI 14), ab_O 5 0] (fun u' w => sQ hh aa x r st sd a u u' ∧ w = none) := by
  refine ab_C.of (by decide) (Nat.le_of_ble_eq_true rfl) ?_
  intro p e s m args below meth c ad X hZ hr0 hlk
  have P0 : mQ u u := mQ.rf h
  refine ab_iload_n X 1 d_MA_stepAround_0 rfl rfl ?_
  refine ab_tsw X [(10, 44), (11, 55), (12, 73), (13, 81), (15, 95), (16, 66)] 116 d_MA_stepAround_1 (by decide +kernel) rfl (List.forall_mem_cons.mpr ⟨fun hsw => absurd hsw (by decide), List.forall_mem_cons.mpr ⟨fun hsw => absurd hsw (by decide), List.forall_mem_cons.mpr ⟨fun hsw => absurd hsw (by decide), List.forall_mem_cons.mpr ⟨fun hsw => absurd hsw (by decide), List.forall_mem_cons.mpr ⟨fun hsw => absurd hsw (by decide), List.forall_mem_cons.mpr ⟨fun hsw => absurd hsw (by decide), fun _ h => absurd h List.not_mem_nil⟩⟩⟩⟩⟩⟩) (fun _ => ?_)
  exact ab_retv X hr0 hlk d_MA_stepAround_116 ⟨sQ.yes P0 (stp_14 hx) e6 C e4, rfl⟩
set_option maxRecDepth 100000 in
set_option maxHeartbeats 1000000 in
theorem x_MA_ar15 (u : ab_S) (st sd : List Nat) (h : CI u) (C : cM u st sd) (hh aa : Int32) (x a : Nat) (r : List Nat) (hL : st.length < 167) (hS : sd.length < 127) (e4 : u.1 7 0 4 = nI a) (e6 : u.1 7 0 6 = 0) (Wx : wX u a r) (G : gd x r st) (hx : x / 1000 = 15) : ab_C false l D ca y_MA_stepAround b_MA_stepAround 3 none 2 ab_nQ u [ab_O 7 0, ab_I (nI 15), ab_O 5 0] (fun u' w => sQ hh aa x r st sd a u u' ∧ w = none) := by
  refine ab_C.of (by decide) (Nat.le_of_ble_eq_true rfl) ?_
  intro p e s m args below meth c ad X hZ hr0 hlk
  have P0 : mQ u u := mQ.rf h
  obtain ⟨w, t, rfl, hw⟩ := G.1 (Or.inr hx)
  obtain ⟨n, hf⟩ := G.2.2 (Or.inr hx)
  have hn := fnd_lt hf
  have hN := Wx.2.1
  have hL : t.length + 1 < 167 := hL
  by_cases q0 : w = 0
  ·
    refine ab_iload_n X 1 d_MA_stepAround_0 rfl rfl ?_
    refine ab_tsw X [(10, 44), (11, 55), (12, 73), (13, 81), (15, 95), (16, 66)] 116 d_MA_stepAround_1 (by decide +kernel) rfl (List.forall_mem_cons.mpr ⟨fun hsw => absurd hsw (by decide), List.forall_mem_cons.mpr ⟨fun hsw => absurd hsw (by decide), List.forall_mem_cons.mpr ⟨fun hsw => absurd hsw (by decide), List.forall_mem_cons.mpr ⟨fun hsw => absurd hsw (by decide), List.forall_mem_cons.mpr ⟨fun _ => ?_, List.forall_mem_cons.mpr ⟨fun hsw => absurd hsw (by decide), fun _ h => absurd h List.not_mem_nil⟩⟩⟩⟩⟩⟩) (fun hsw => absurd hsw (by decide))
    refine ab_aload_n X 0 d_MA_stepAround_95 rfl rfl ?_
    refine ab_callV (as := []) X (fun h => by cases h) (x_MA_takeNumber u (w :: t) sd h C (by show t.length + 1 ≤ 168; omega)) lk_MA_74 d_MA_stepAround_96 rfl rfl (by first | assumption | decide | (show _ < 124; omega) | (show _ < 61; omega) | (show _ < 20; omega)) ⟨by first | exact Nat.le_of_ble_eq_true rfl | (simp only [ab_rm]; omega), by first | exact Nat.le_of_ble_eq_true rfl | (simp only [ab_rm]; omega)⟩ ⟨by first | exact Nat.le_of_ble_eq_true rfl | (simp only [ab_rm]; omega), by first | exact Nat.le_of_ble_eq_true rfl | (simp only [ab_rm]; omega)⟩ (Nat.le_of_ble_eq_true rfl) (fun u96 r96 h96 => ?_)
    obtain ⟨⟨z96, c96, g96⟩, rfl⟩ := h96
    have q96 := z96.1
    have P96 := P0.trans q96 (by decide)
    refine ab_if_eq X 116 d_MA_stepAround_99 rfl (fun _ => ?_) (fun hb => absurd ((congrArg nI q0)) hb)
    exact ab_retv X hr0 hlk d_MA_stepAround_116 ⟨sQ.yes P96 (show stp hh aa x r (w :: t) sd = some (r, t, sd) by rw [stp_15 hx hw, if_pos q0]) (g96.trans ((tn_n hw).trans e6)) c96 (z96.2.trans e4), rfl⟩
  ·
    refine ab_iload_n X 1 d_MA_stepAround_0 rfl rfl ?_
    refine ab_tsw X [(10, 44), (11, 55), (12, 73), (13, 81), (15, 95), (16, 66)] 116 d_MA_stepAround_1 (by decide +kernel) rfl (List.forall_mem_cons.mpr ⟨fun hsw => absurd hsw (by decide), List.forall_mem_cons.mpr ⟨fun hsw => absurd hsw (by decide), List.forall_mem_cons.mpr ⟨fun hsw => absurd hsw (by decide), List.forall_mem_cons.mpr ⟨fun hsw => absurd hsw (by decide), List.forall_mem_cons.mpr ⟨fun _ => ?_, List.forall_mem_cons.mpr ⟨fun hsw => absurd hsw (by decide), fun _ h => absurd h List.not_mem_nil⟩⟩⟩⟩⟩⟩) (fun hsw => absurd hsw (by decide))
    refine ab_aload_n X 0 d_MA_stepAround_95 rfl rfl ?_
    refine ab_callV (as := []) X (fun h => by cases h) (x_MA_takeNumber u (w :: t) sd h C (by show t.length + 1 ≤ 168; omega)) lk_MA_74 d_MA_stepAround_96 rfl rfl (by first | assumption | decide | (show _ < 124; omega) | (show _ < 61; omega) | (show _ < 20; omega)) ⟨by first | exact Nat.le_of_ble_eq_true rfl | (simp only [ab_rm]; omega), by first | exact Nat.le_of_ble_eq_true rfl | (simp only [ab_rm]; omega)⟩ ⟨by first | exact Nat.le_of_ble_eq_true rfl | (simp only [ab_rm]; omega), by first | exact Nat.le_of_ble_eq_true rfl | (simp only [ab_rm]; omega)⟩ (Nat.le_of_ble_eq_true rfl) (fun u96 r96 h96 => ?_)
    obtain ⟨⟨z96, c96, g96⟩, rfl⟩ := h96
    have q96 := z96.1
    have P96 := P0.trans q96 (by decide)
    refine ab_if_eq X 116 d_MA_stepAround_99 rfl (fun hb => absurd hb ((nI_n0 (n := w) (by omega) q0))) (fun _ => ?_)
    refine ab_aload_n X 0 d_MA_stepAround_102 rfl rfl ?_
    refine ab_aload_n X 0 d_MA_stepAround_103 rfl rfl ?_
    refine ab_bipush (v := 14) X d_MA_stepAround_104 (by decide) ?_
    refine ab_aload_n X 2 d_MA_stepAround_106 rfl rfl ?_
    refine ab_callV (as := [ab_I (nI 14), ab_O 5 0]) X (fun h => by cases h) (t_MA_findF u96 14 a n r P96.1 (Or.inr rfl) (z96.2.trans e4) (Wx.fr z96.1) hf) lk_MA_98 d_MA_stepAround_107 rfl rfl (by first | assumption | decide | (show _ < 124; omega) | (show _ < 61; omega) | (show _ < 20; omega)) ⟨by first | exact Nat.le_of_ble_eq_true rfl | (simp only [ab_rm]; omega), by first | exact Nat.le_of_ble_eq_true rfl | (simp only [ab_rm]; omega)⟩ ⟨by first | exact Nat.le_of_ble_eq_true rfl | (simp only [ab_rm]; omega), by first | exact Nat.le_of_ble_eq_true rfl | (simp only [ab_rm]; omega)⟩ (Nat.le_of_ble_eq_true rfl) (fun u107 r107 h107 => ?_)
    obtain ⟨e107, rfl⟩ := h107
    subst u107
    refine ab_putI X fp_MA_25 d_MA_stepAround_110 (by first | assumption | decide | (show _ < 124; omega) | (show _ < 61; omega) | (show _ < 20; omega)) rfl rfl ?_
    refine ab_gen (fun u110 e110 => ?_)
    have P110 : mQ u u110 := by rw [e110]; exact P96.m4 (by omega)
    refine ab_goto X 116 d_MA_stepAround_113 rfl ?_
    exact ab_retv X hr0 hlk d_MA_stepAround_116 ⟨sQ.jmp P110 hf (show stp hh aa x r (w :: t) sd = some (skw 14 r, t, sd) by rw [stp_15 hx hw, if_neg q0]) (by rw [e110]; exact (ui_n _ (by omega)).trans (g96.trans ((tn_n hw).trans e6))) (by rw [e110]; exact c96.ui (by decide)) hn (by rw [e110]; exact ui_s _), rfl⟩
set_option maxRecDepth 100000 in
set_option maxHeartbeats 1000000 in
theorem x_MA_ar16 (u : ab_S) (st sd : List Nat) (h : CI u) (C : cM u st sd) (hh aa : Int32) (x a : Nat) (r : List Nat) (hL : st.length < 167) (hS : sd.length < 127) (e4 : u.1 7 0 4 = nI a) (e6 : u.1 7 0 6 = 0) (Wx : wX u a r) (G : gd x r st) (hx : x / 1000 = 16) : ab_C false l D ca y_MA_stepAround b_MA_stepAround 3 none 2 ab_nQ u [ab_O 7 0, ab_I (nI 16), ab_O 5 0] (fun u' w => sQ hh aa x r st sd a u u' ∧ w = none) := by
  refine ab_C.of (by decide) (Nat.le_of_ble_eq_true rfl) ?_
  intro p e s m args below meth c ad X hZ hr0 hlk
  have P0 : mQ u u := mQ.rf h
  refine ab_iload_n X 1 d_MA_stepAround_0 rfl rfl ?_
  refine ab_tsw X [(10, 44), (11, 55), (12, 73), (13, 81), (15, 95), (16, 66)] 116 d_MA_stepAround_1 (by decide +kernel) rfl (List.forall_mem_cons.mpr ⟨fun hsw => absurd hsw (by decide), List.forall_mem_cons.mpr ⟨fun hsw => absurd hsw (by decide), List.forall_mem_cons.mpr ⟨fun hsw => absurd hsw (by decide), List.forall_mem_cons.mpr ⟨fun hsw => absurd hsw (by decide), List.forall_mem_cons.mpr ⟨fun hsw => absurd hsw (by decide), List.forall_mem_cons.mpr ⟨fun _ => ?_, fun _ h => absurd h List.not_mem_nil⟩⟩⟩⟩⟩⟩) (fun hsw => absurd hsw (by decide))
  refine ab_aload_n X 0 d_MA_stepAround_66 rfl rfl ?_
  refine ab_callV (as := []) X (fun h => by cases h) (x_MA_repeatTop u st sd h C hh aa x a r hL e4 e6 Wx G hx) lk_MA_91 d_MA_stepAround_67 rfl rfl (by first | assumption | decide | (show _ < 124; omega) | (show _ < 61; omega) | (show _ < 20; omega)) ⟨by first | exact Nat.le_of_ble_eq_true rfl | (simp only [ab_rm]; omega), by first | exact Nat.le_of_ble_eq_true rfl | (simp only [ab_rm]; omega)⟩ ⟨by first | exact Nat.le_of_ble_eq_true rfl | (simp only [ab_rm]; omega), by first | exact Nat.le_of_ble_eq_true rfl | (simp only [ab_rm]; omega)⟩ (Nat.le_of_ble_eq_true rfl) (fun u67 r67 h67 => ?_)
  obtain ⟨s67, rfl⟩ := h67
  have q67 := s67.1
  have P67 := P0.trans q67 (by decide)
  refine ab_goto X 116 d_MA_stepAround_70 rfl ?_
  exact ab_retv X hr0 hlk d_MA_stepAround_116 ⟨s67, rfl⟩
set_option maxRecDepth 100000 in
set_option maxHeartbeats 1000000 in
theorem x_MA_st10 (u : ab_S) (st sd : List Nat) (h : CI u) (C : cM u st sd) (hh aa : Int32) (x a : Nat) (r : List Nat) (hL : st.length < 167) (hS : sd.length < 127) (e4 : u.1 7 0 4 = nI a) (e6 : u.1 7 0 6 = 0) (Wx : wX u a r) (G : gd x r st) (f0 : u.1 6 0 0 = 0) (f1 : u.1 6 0 1 = 0) (f2 : u.1 6 0 2 = hh) (f3 : u.1 6 0 3 = aa) (hx : x / 1000 = 10) : ab_C false l D ca y_MA_step b_MA_step 5 none 3 ab_nQ u [ab_O 7 0, ab_I (nI 10), ab_I (nI (x % 1000)), ab_O 5 0, ab_O 6 0] (fun u' w => sQ hh aa x r st sd a u u' ∧ w = none) := by
  refine ab_C.of (by decide) (Nat.le_of_ble_eq_true rfl) ?_
  intro p e s m args below meth c ad X hZ hr0 hlk
  have P0 : mQ u u := mQ.rf h
  refine ab_iload_n X 1 d_MA_step_0 rfl rfl ?_
  refine ab_tsw X [(1, 84), (2, 92), (3, 115), (4, 115), (5, 142), (6, 157), (7, 157), (8, 157), (9, 176), (17, 196)] 204 d_MA_step_1 (by decide +kernel) rfl (List.forall_mem_cons.mpr ⟨fun hsw => absurd hsw (by decide), List.forall_mem_cons.mpr ⟨fun hsw => absurd hsw (by decide), List.forall_mem_cons.mpr ⟨fun hsw => absurd hsw (by decide), List.forall_mem_cons.mpr ⟨fun hsw => absurd hsw (by decide), List.forall_mem_cons.mpr ⟨fun hsw => absurd hsw (by decide), List.forall_mem_cons.mpr ⟨fun hsw => absurd hsw (by decide), List.forall_mem_cons.mpr ⟨fun hsw => absurd hsw (by decide), List.forall_mem_cons.mpr ⟨fun hsw => absurd hsw (by decide), List.forall_mem_cons.mpr ⟨fun hsw => absurd hsw (by decide), List.forall_mem_cons.mpr ⟨fun hsw => absurd hsw (by decide), fun _ h => absurd h List.not_mem_nil⟩⟩⟩⟩⟩⟩⟩⟩⟩⟩) (fun _ => ?_)
  refine ab_aload_n X 0 d_MA_step_204 rfl rfl ?_
  refine ab_iload_n X 1 d_MA_step_205 rfl rfl ?_
  refine ab_aload_n X 3 d_MA_step_206 rfl rfl ?_
  refine ab_callV (as := [ab_I (nI 10), ab_O 5 0]) X (fun h => by cases h) (x_MA_ar10 u st sd h C hh aa x a r hL hS e4 e6 Wx G hx) lk_MA_81 d_MA_step_207 rfl rfl (by first | assumption | decide | (show _ < 124; omega) | (show _ < 61; omega) | (show _ < 20; omega)) ⟨by first | exact Nat.le_of_ble_eq_true rfl | (simp only [ab_rm]; omega), by first | exact Nat.le_of_ble_eq_true rfl | (simp only [ab_rm]; omega)⟩ ⟨by first | exact Nat.le_of_ble_eq_true rfl | (simp only [ab_rm]; omega), by first | exact Nat.le_of_ble_eq_true rfl | (simp only [ab_rm]; omega)⟩ (Nat.le_of_ble_eq_true rfl) (fun u207 r207 h207 => ?_)
  obtain ⟨s207, rfl⟩ := h207
  have q207 := s207.1
  have P207 := P0.trans q207 (by decide)
  exact ab_retv X hr0 hlk d_MA_step_210 ⟨s207, rfl⟩
set_option maxRecDepth 100000 in
set_option maxHeartbeats 1000000 in
theorem x_MA_st11 (u : ab_S) (st sd : List Nat) (h : CI u) (C : cM u st sd) (hh aa : Int32) (x a : Nat) (r : List Nat) (hL : st.length < 167) (hS : sd.length < 127) (e4 : u.1 7 0 4 = nI a) (e6 : u.1 7 0 6 = 0) (Wx : wX u a r) (G : gd x r st) (f0 : u.1 6 0 0 = 0) (f1 : u.1 6 0 1 = 0) (f2 : u.1 6 0 2 = hh) (f3 : u.1 6 0 3 = aa) (hx : x / 1000 = 11) : ab_C false l D ca y_MA_step b_MA_step 5 none 3 ab_nQ u [ab_O 7 0, ab_I (nI 11), ab_I (nI (x % 1000)), ab_O 5 0, ab_O 6 0] (fun u' w => sQ hh aa x r st sd a u u' ∧ w = none) := by
  refine ab_C.of (by decide) (Nat.le_of_ble_eq_true rfl) ?_
  intro p e s m args below meth c ad X hZ hr0 hlk
  have P0 : mQ u u := mQ.rf h
  refine ab_iload_n X 1 d_MA_step_0 rfl rfl ?_
  refine ab_tsw X [(1, 84), (2, 92), (3, 115), (4, 115), (5, 142), (6, 157), (7, 157), (8, 157), (9, 176), (17, 196)] 204 d_MA_step_1 (by decide +kernel) rfl (List.forall_mem_cons.mpr ⟨fun hsw => absurd hsw (by decide), List.forall_mem_cons.mpr ⟨fun hsw => absurd hsw (by decide), List.forall_mem_cons.mpr ⟨fun hsw => absurd hsw (by decide), List.forall_mem_cons.mpr ⟨fun hsw => absurd hsw (by decide), List.forall_mem_cons.mpr ⟨fun hsw => absurd hsw (by decide), List.forall_mem_cons.mpr ⟨fun hsw => absurd hsw (by decide), List.forall_mem_cons.mpr ⟨fun hsw => absurd hsw (by decide), List.forall_mem_cons.mpr ⟨fun hsw => absurd hsw (by decide), List.forall_mem_cons.mpr ⟨fun hsw => absurd hsw (by decide), List.forall_mem_cons.mpr ⟨fun hsw => absurd hsw (by decide), fun _ h => absurd h List.not_mem_nil⟩⟩⟩⟩⟩⟩⟩⟩⟩⟩) (fun _ => ?_)
  refine ab_aload_n X 0 d_MA_step_204 rfl rfl ?_
  refine ab_iload_n X 1 d_MA_step_205 rfl rfl ?_
  refine ab_aload_n X 3 d_MA_step_206 rfl rfl ?_
  refine ab_callV (as := [ab_I (nI 11), ab_O 5 0]) X (fun h => by cases h) (x_MA_ar11 u st sd h C hh aa x a r hL hS e4 e6 Wx G hx) lk_MA_81 d_MA_step_207 rfl rfl (by first | assumption | decide | (show _ < 124; omega) | (show _ < 61; omega) | (show _ < 20; omega)) ⟨by first | exact Nat.le_of_ble_eq_true rfl | (simp only [ab_rm]; omega), by first | exact Nat.le_of_ble_eq_true rfl | (simp only [ab_rm]; omega)⟩ ⟨by first | exact Nat.le_of_ble_eq_true rfl | (simp only [ab_rm]; omega), by first | exact Nat.le_of_ble_eq_true rfl | (simp only [ab_rm]; omega)⟩ (Nat.le_of_ble_eq_true rfl) (fun u207 r207 h207 => ?_)
  obtain ⟨s207, rfl⟩ := h207
  have q207 := s207.1
  have P207 := P0.trans q207 (by decide)
  exact ab_retv X hr0 hlk d_MA_step_210 ⟨s207, rfl⟩
set_option maxRecDepth 100000 in
set_option maxHeartbeats 1000000 in
theorem x_MA_st12 (u : ab_S) (st sd : List Nat) (h : CI u) (C : cM u st sd) (hh aa : Int32) (x a : Nat) (r : List Nat) (hL : st.length < 167) (hS : sd.length < 127) (e4 : u.1 7 0 4 = nI a) (e6 : u.1 7 0 6 = 0) (Wx : wX u a r) (G : gd x r st) (f0 : u.1 6 0 0 = 0) (f1 : u.1 6 0 1 = 0) (f2 : u.1 6 0 2 = hh) (f3 : u.1 6 0 3 = aa) (hx : x / 1000 = 12) : ab_C false l D ca y_MA_step b_MA_step 5 none 3 ab_nQ u [ab_O 7 0, ab_I (nI 12), ab_I (nI (x % 1000)), ab_O 5 0, ab_O 6 0] (fun u' w => sQ hh aa x r st sd a u u' ∧ w = none) := by
  refine ab_C.of (by decide) (Nat.le_of_ble_eq_true rfl) ?_
  intro p e s m args below meth c ad X hZ hr0 hlk
  have P0 : mQ u u := mQ.rf h
  refine ab_iload_n X 1 d_MA_step_0 rfl rfl ?_
  refine ab_tsw X [(1, 84), (2, 92), (3, 115), (4, 115), (5, 142), (6, 157), (7, 157), (8, 157), (9, 176), (17, 196)] 204 d_MA_step_1 (by decide +kernel) rfl (List.forall_mem_cons.mpr ⟨fun hsw => absurd hsw (by decide), List.forall_mem_cons.mpr ⟨fun hsw => absurd hsw (by decide), List.forall_mem_cons.mpr ⟨fun hsw => absurd hsw (by decide), List.forall_mem_cons.mpr ⟨fun hsw => absurd hsw (by decide), List.forall_mem_cons.mpr ⟨fun hsw => absurd hsw (by decide), List.forall_mem_cons.mpr ⟨fun hsw => absurd hsw (by decide), List.forall_mem_cons.mpr ⟨fun hsw => absurd hsw (by decide), List.forall_mem_cons.mpr ⟨fun hsw => absurd hsw (by decide), List.forall_mem_cons.mpr ⟨fun hsw => absurd hsw (by decide), List.forall_mem_cons.mpr ⟨fun hsw => absurd hsw (by decide), fun _ h => absurd h List.not_mem_nil⟩⟩⟩⟩⟩⟩⟩⟩⟩⟩) (fun _ => ?_)
  refine ab_aload_n X 0 d_MA_step_204 rfl rfl ?_
  refine ab_iload_n X 1 d_MA_step_205 rfl rfl ?_
  refine ab_aload_n X 3 d_MA_step_206 rfl rfl ?_
  refine ab_callV (as := [ab_I (nI 12), ab_O 5 0]) X (fun h => by cases h) (x_MA_ar12 u st sd h C hh aa x a r hL hS e4 e6 Wx G hx) lk_MA_81 d_MA_step_207 rfl rfl (by first | assumption | decide | (show _ < 124; omega) | (show _ < 61; omega) | (show _ < 20; omega)) ⟨by first | exact Nat.le_of_ble_eq_true rfl | (simp only [ab_rm]; omega), by first | exact Nat.le_of_ble_eq_true rfl | (simp only [ab_rm]; omega)⟩ ⟨by first | exact Nat.le_of_ble_eq_true rfl | (simp only [ab_rm]; omega), by first | exact Nat.le_of_ble_eq_true rfl | (simp only [ab_rm]; omega)⟩ (Nat.le_of_ble_eq_true rfl) (fun u207 r207 h207 => ?_)
  obtain ⟨s207, rfl⟩ := h207
  have q207 := s207.1
  have P207 := P0.trans q207 (by decide)
  exact ab_retv X hr0 hlk d_MA_step_210 ⟨s207, rfl⟩
set_option maxRecDepth 100000 in
set_option maxHeartbeats 1000000 in
theorem x_MA_st13 (u : ab_S) (st sd : List Nat) (h : CI u) (C : cM u st sd) (hh aa : Int32) (x a : Nat) (r : List Nat) (hL : st.length < 167) (hS : sd.length < 127) (e4 : u.1 7 0 4 = nI a) (e6 : u.1 7 0 6 = 0) (Wx : wX u a r) (G : gd x r st) (f0 : u.1 6 0 0 = 0) (f1 : u.1 6 0 1 = 0) (f2 : u.1 6 0 2 = hh) (f3 : u.1 6 0 3 = aa) (hx : x / 1000 = 13) : ab_C false l D ca y_MA_step b_MA_step 5 none 3 ab_nQ u [ab_O 7 0, ab_I (nI 13), ab_I (nI (x % 1000)), ab_O 5 0, ab_O 6 0] (fun u' w => sQ hh aa x r st sd a u u' ∧ w = none) := by
  refine ab_C.of (by decide) (Nat.le_of_ble_eq_true rfl) ?_
  intro p e s m args below meth c ad X hZ hr0 hlk
  have P0 : mQ u u := mQ.rf h
  refine ab_iload_n X 1 d_MA_step_0 rfl rfl ?_
  refine ab_tsw X [(1, 84), (2, 92), (3, 115), (4, 115), (5, 142), (6, 157), (7, 157), (8, 157), (9, 176), (17, 196)] 204 d_MA_step_1 (by decide +kernel) rfl (List.forall_mem_cons.mpr ⟨fun hsw => absurd hsw (by decide), List.forall_mem_cons.mpr ⟨fun hsw => absurd hsw (by decide), List.forall_mem_cons.mpr ⟨fun hsw => absurd hsw (by decide), List.forall_mem_cons.mpr ⟨fun hsw => absurd hsw (by decide), List.forall_mem_cons.mpr ⟨fun hsw => absurd hsw (by decide), List.forall_mem_cons.mpr ⟨fun hsw => absurd hsw (by decide), List.forall_mem_cons.mpr ⟨fun hsw => absurd hsw (by decide), List.forall_mem_cons.mpr ⟨fun hsw => absurd hsw (by decide), List.forall_mem_cons.mpr ⟨fun hsw => absurd hsw (by decide), List.forall_mem_cons.mpr ⟨fun hsw => absurd hsw (by decide), fun _ h => absurd h List.not_mem_nil⟩⟩⟩⟩⟩⟩⟩⟩⟩⟩) (fun _ => ?_)
  refine ab_aload_n X 0 d_MA_step_204 rfl rfl ?_
  refine ab_iload_n X 1 d_MA_step_205 rfl rfl ?_
  refine ab_aload_n X 3 d_MA_step_206 rfl rfl ?_
  refine ab_callV (as := [ab_I (nI 13), ab_O 5 0]) X (fun h => by cases h) (x_MA_ar13 u st sd h C hh aa x a r hL hS e4 e6 Wx G hx) lk_MA_81 d_MA_step_207 rfl rfl (by first | assumption | decide | (show _ < 124; omega) | (show _ < 61; omega) | (show _ < 20; omega)) ⟨by first | exact Nat.le_of_ble_eq_true rfl | (simp only [ab_rm]; omega), by first | exact Nat.le_of_ble_eq_true rfl | (simp only [ab_rm]; omega)⟩ ⟨by first | exact Nat.le_of_ble_eq_true rfl | (simp only [ab_rm]; omega), by first | exact Nat.le_of_ble_eq_true rfl | (simp only [ab_rm]; omega)⟩ (Nat.le_of_ble_eq_true rfl) (fun u207 r207 h207 => ?_)
  obtain ⟨s207, rfl⟩ := h207
  have q207 := s207.1
  have P207 := P0.trans q207 (by decide)
  exact ab_retv X hr0 hlk d_MA_step_210 ⟨s207, rfl⟩
set_option maxRecDepth 100000 in
set_option maxHeartbeats 1000000 in
theorem x_MA_st14 (u : ab_S) (st sd : List Nat) (h : CI u) (C : cM u st sd) (hh aa : Int32) (x a : Nat) (r : List Nat) (hL : st.length < 167) (hS : sd.length < 127) (e4 : u.1 7 0 4 = nI a) (e6 : u.1 7 0 6 = 0) (Wx : wX u a r) (G : gd x r st) (f0 : u.1 6 0 0 = 0) (f1 : u.1 6 0 1 = 0) (f2 : u.1 6 0 2 = hh) (f3 : u.1 6 0 3 = aa) (hx : x / 1000 = 14) : ab_C false l D ca y_MA_step b_MA_step 5 none 3 ab_nQ u [ab_O 7 0, ab_I (nI 14), ab_I (nI (x % 1000)), ab_O 5 0, ab_O 6 0] (fun u' w => sQ hh aa x r st sd a u u' ∧ w = none) := by
  refine ab_C.of (by decide) (Nat.le_of_ble_eq_true rfl) ?_
  intro p e s m args below meth c ad X hZ hr0 hlk
  have P0 : mQ u u := mQ.rf h
  refine ab_iload_n X 1 d_MA_step_0 rfl rfl ?_
  refine ab_tsw X [(1, 84), (2, 92), (3, 115), (4, 115), (5, 142), (6, 157), (7, 157), (8, 157), (9, 176), (17, 196)] 204 d_MA_step_1 (by decide +kernel) rfl (List.forall_mem_cons.mpr ⟨fun hsw => absurd hsw (by decide), List.forall_mem_cons.mpr ⟨fun hsw => absurd hsw (by decide), List.forall_mem_cons.mpr ⟨fun hsw => absurd hsw (by decide), List.forall_mem_cons.mpr ⟨fun hsw => absurd hsw (by decide), List.forall_mem_cons.mpr ⟨fun hsw => absurd hsw (by decide), List.forall_mem_cons.mpr ⟨fun hsw => absurd hsw (by decide), List.forall_mem_cons.mpr ⟨fun hsw => absurd hsw (by decide), List.forall_mem_cons.mpr ⟨fun hsw => absurd hsw (by decide), List.forall_mem_cons.mpr ⟨fun hsw => absurd hsw (by decide), List.forall_mem_cons.mpr ⟨fun hsw => absurd hsw (by decide), fun _ h => absurd h List.not_mem_nil⟩⟩⟩⟩⟩⟩⟩⟩⟩⟩) (fun _ => ?_)
  refine ab_aload_n X 0 d_MA_step_204 rfl rfl ?_
  refine ab_iload_n X 1 d_MA_step_205 rfl rfl ?_
  refine ab_aload_n X 3 d_MA_step_206 rfl rfl ?_
  refine ab_callV (as := [ab_I (nI 14), ab_O 5 0]) X (fun h => by cases h) (x_MA_ar14 u st sd h C hh aa x a r hL hS e4 e6 Wx G hx) lk_MA_81 d_MA_step_207 rfl rfl (by first | assumption | decide | (show _ < 124; omega) | (show _ < 61; omega) | (show _ < 20; omega)) ⟨by first | exact Nat.le_of_ble_eq_true rfl | (simp only [ab_rm]; omega), by first | exact Nat.le_of_ble_eq_true rfl | (simp only [ab_rm]; omega)⟩ ⟨by first | exact Nat.le_of_ble_eq_true rfl | (simp only [ab_rm]; omega), by first | exact Nat.le_of_ble_eq_true rfl | (simp only [ab_rm]; omega)⟩ (Nat.le_of_ble_eq_true rfl) (fun u207 r207 h207 => ?_)
  obtain ⟨s207, rfl⟩ := h207
  have q207 := s207.1
  have P207 := P0.trans q207 (by decide)
  exact ab_retv X hr0 hlk d_MA_step_210 ⟨s207, rfl⟩
set_option maxRecDepth 100000 in
set_option maxHeartbeats 1000000 in
theorem x_MA_st15 (u : ab_S) (st sd : List Nat) (h : CI u) (C : cM u st sd) (hh aa : Int32) (x a : Nat) (r : List Nat) (hL : st.length < 167) (hS : sd.length < 127) (e4 : u.1 7 0 4 = nI a) (e6 : u.1 7 0 6 = 0) (Wx : wX u a r) (G : gd x r st) (f0 : u.1 6 0 0 = 0) (f1 : u.1 6 0 1 = 0) (f2 : u.1 6 0 2 = hh) (f3 : u.1 6 0 3 = aa) (hx : x / 1000 = 15) : ab_C false l D ca y_MA_step b_MA_step 5 none 3 ab_nQ u [ab_O 7 0, ab_I (nI 15), ab_I (nI (x % 1000)), ab_O 5 0, ab_O 6 0] (fun u' w => sQ hh aa x r st sd a u u' ∧ w = none) := by
  refine ab_C.of (by decide) (Nat.le_of_ble_eq_true rfl) ?_
  intro p e s m args below meth c ad X hZ hr0 hlk
  have P0 : mQ u u := mQ.rf h
  refine ab_iload_n X 1 d_MA_step_0 rfl rfl ?_
  refine ab_tsw X [(1, 84), (2, 92), (3, 115), (4, 115), (5, 142), (6, 157), (7, 157), (8, 157), (9, 176), (17, 196)] 204 d_MA_step_1 (by decide +kernel) rfl (List.forall_mem_cons.mpr ⟨fun hsw => absurd hsw (by decide), List.forall_mem_cons.mpr ⟨fun hsw => absurd hsw (by decide), List.forall_mem_cons.mpr ⟨fun hsw => absurd hsw (by decide), List.forall_mem_cons.mpr ⟨fun hsw => absurd hsw (by decide), List.forall_mem_cons.mpr ⟨fun hsw => absurd hsw (by decide), List.forall_mem_cons.mpr ⟨fun hsw => absurd hsw (by decide), List.forall_mem_cons.mpr ⟨fun hsw => absurd hsw (by decide), List.forall_mem_cons.mpr ⟨fun hsw => absurd hsw (by decide), List.forall_mem_cons.mpr ⟨fun hsw => absurd hsw (by decide), List.forall_mem_cons.mpr ⟨fun hsw => absurd hsw (by decide), fun _ h => absurd h List.not_mem_nil⟩⟩⟩⟩⟩⟩⟩⟩⟩⟩) (fun _ => ?_)
  refine ab_aload_n X 0 d_MA_step_204 rfl rfl ?_
  refine ab_iload_n X 1 d_MA_step_205 rfl rfl ?_
  refine ab_aload_n X 3 d_MA_step_206 rfl rfl ?_
  refine ab_callV (as := [ab_I (nI 15), ab_O 5 0]) X (fun h => by cases h) (x_MA_ar15 u st sd h C hh aa x a r hL hS e4 e6 Wx G hx) lk_MA_81 d_MA_step_207 rfl rfl (by first | assumption | decide | (show _ < 124; omega) | (show _ < 61; omega) | (show _ < 20; omega)) ⟨by first | exact Nat.le_of_ble_eq_true rfl | (simp only [ab_rm]; omega), by first | exact Nat.le_of_ble_eq_true rfl | (simp only [ab_rm]; omega)⟩ ⟨by first | exact Nat.le_of_ble_eq_true rfl | (simp only [ab_rm]; omega), by first | exact Nat.le_of_ble_eq_true rfl | (simp only [ab_rm]; omega)⟩ (Nat.le_of_ble_eq_true rfl) (fun u207 r207 h207 => ?_)
  obtain ⟨s207, rfl⟩ := h207
  have q207 := s207.1
  have P207 := P0.trans q207 (by decide)
  exact ab_retv X hr0 hlk d_MA_step_210 ⟨s207, rfl⟩
set_option maxRecDepth 100000 in
set_option maxHeartbeats 1000000 in
theorem x_MA_st16 (u : ab_S) (st sd : List Nat) (h : CI u) (C : cM u st sd) (hh aa : Int32) (x a : Nat) (r : List Nat) (hL : st.length < 167) (hS : sd.length < 127) (e4 : u.1 7 0 4 = nI a) (e6 : u.1 7 0 6 = 0) (Wx : wX u a r) (G : gd x r st) (f0 : u.1 6 0 0 = 0) (f1 : u.1 6 0 1 = 0) (f2 : u.1 6 0 2 = hh) (f3 : u.1 6 0 3 = aa) (hx : x / 1000 = 16) : ab_C false l D ca y_MA_step b_MA_step 5 none 3 ab_nQ u [ab_O 7 0, ab_I (nI 16), ab_I (nI (x % 1000)), ab_O 5 0, ab_O 6 0] (fun u' w => sQ hh aa x r st sd a u u' ∧ w = none) := by
  refine ab_C.of (by decide) (Nat.le_of_ble_eq_true rfl) ?_
  intro p e s m args below meth c ad X hZ hr0 hlk
  have P0 : mQ u u := mQ.rf h
  refine ab_iload_n X 1 d_MA_step_0 rfl rfl ?_
  refine ab_tsw X [(1, 84), (2, 92), (3, 115), (4, 115), (5, 142), (6, 157), (7, 157), (8, 157), (9, 176), (17, 196)] 204 d_MA_step_1 (by decide +kernel) rfl (List.forall_mem_cons.mpr ⟨fun hsw => absurd hsw (by decide), List.forall_mem_cons.mpr ⟨fun hsw => absurd hsw (by decide), List.forall_mem_cons.mpr ⟨fun hsw => absurd hsw (by decide), List.forall_mem_cons.mpr ⟨fun hsw => absurd hsw (by decide), List.forall_mem_cons.mpr ⟨fun hsw => absurd hsw (by decide), List.forall_mem_cons.mpr ⟨fun hsw => absurd hsw (by decide), List.forall_mem_cons.mpr ⟨fun hsw => absurd hsw (by decide), List.forall_mem_cons.mpr ⟨fun hsw => absurd hsw (by decide), List.forall_mem_cons.mpr ⟨fun hsw => absurd hsw (by decide), List.forall_mem_cons.mpr ⟨fun hsw => absurd hsw (by decide), fun _ h => absurd h List.not_mem_nil⟩⟩⟩⟩⟩⟩⟩⟩⟩⟩) (fun _ => ?_)
  refine ab_aload_n X 0 d_MA_step_204 rfl rfl ?_
  refine ab_iload_n X 1 d_MA_step_205 rfl rfl ?_
  refine ab_aload_n X 3 d_MA_step_206 rfl rfl ?_
  refine ab_callV (as := [ab_I (nI 16), ab_O 5 0]) X (fun h => by cases h) (x_MA_ar16 u st sd h C hh aa x a r hL hS e4 e6 Wx G hx) lk_MA_81 d_MA_step_207 rfl rfl (by first | assumption | decide | (show _ < 124; omega) | (show _ < 61; omega) | (show _ < 20; omega)) ⟨by first | exact Nat.le_of_ble_eq_true rfl | (simp only [ab_rm]; omega), by first | exact Nat.le_of_ble_eq_true rfl | (simp only [ab_rm]; omega)⟩ ⟨by first | exact Nat.le_of_ble_eq_true rfl | (simp only [ab_rm]; omega), by first | exact Nat.le_of_ble_eq_true rfl | (simp only [ab_rm]; omega)⟩ (Nat.le_of_ble_eq_true rfl) (fun u207 r207 h207 => ?_)
  obtain ⟨s207, rfl⟩ := h207
  have q207 := s207.1
  have P207 := P0.trans q207 (by decide)
  exact ab_retv X hr0 hlk d_MA_step_210 ⟨s207, rfl⟩
set_option maxRecDepth 100000 in
set_option maxHeartbeats 1000000 in
theorem x_MA_st1 (u : ab_S) (st sd : List Nat) (h : CI u) (C : cM u st sd) (hh aa : Int32) (x a : Nat) (r : List Nat) (hL : st.length < 167) (hS : sd.length < 127) (e4 : u.1 7 0 4 = nI a) (e6 : u.1 7 0 6 = 0) (Wx : wX u a r) (G : gd x r st) (f0 : u.1 6 0 0 = 0) (f1 : u.1 6 0 1 = 0) (f2 : u.1 6 0 2 = hh) (f3 : u.1 6 0 3 = aa) (hx : x / 1000 = 1) : ab_C false l D ca y_MA_step b_MA_step 5 none 3 ab_nQ u [ab_O 7 0, ab_I (nI 1), ab_I (nI (x % 1000)), ab_O 5 0, ab_O 6 0] (fun u' w => sQ hh aa x r st sd a u u' ∧ w = none) := by
  refine ab_C.of (by decide) (Nat.le_of_ble_eq_true rfl) ?_
  intro p e s m args below meth c ad X hZ hr0 hlk
  have P0 : mQ u u := mQ.rf h
  refine ab_iload_n X 1 d_MA_step_0 rfl rfl ?_
  refine ab_tsw X [(1, 84), (2, 92), (3, 115), (4, 115), (5, 142), (6, 157), (7, 157), (8, 157), (9, 176), (17, 196)] 204 d_MA_step_1 (by decide +kernel) rfl (List.forall_mem_cons.mpr ⟨fun _ => ?_, List.forall_mem_cons.mpr ⟨fun hsw => absurd hsw (by decide), List.forall_mem_cons.mpr ⟨fun hsw => absurd hsw (by decide), List.forall_mem_cons.mpr ⟨fun hsw => absurd hsw (by decide), List.forall_mem_cons.mpr ⟨fun hsw => absurd hsw (by decide), List.forall_mem_cons.mpr ⟨fun hsw => absurd hsw (by decide), List.forall_mem_cons.mpr ⟨fun hsw => absurd hsw (by decide), List.forall_mem_cons.mpr ⟨fun hsw => absurd hsw (by decide), List.forall_mem_cons.mpr ⟨fun hsw => absurd hsw (by decide), List.forall_mem_cons.mpr ⟨fun hsw => absurd hsw (by decide), fun _ h => absurd h List.not_mem_nil⟩⟩⟩⟩⟩⟩⟩⟩⟩⟩) (fun hsw => absurd hsw (by decide))
  refine ab_aload_n X 0 d_MA_step_84 rfl rfl ?_
  refine ab_iload_n X 2 d_MA_step_85 rfl rfl ?_
  refine ab_callV (as := [ab_I (nI (x % 1000))]) X (fun h => by cases h) (x_MA_tryKey u st sd h C hh aa x a r hL e4 e6 hx) lk_MA_61 d_MA_step_86 rfl rfl (by first | assumption | decide | (show _ < 124; omega) | (show _ < 61; omega) | (show _ < 20; omega)) ⟨by first | exact Nat.le_of_ble_eq_true rfl | (simp only [ab_rm]; omega), by first | exact Nat.le_of_ble_eq_true rfl | (simp only [ab_rm]; omega)⟩ ⟨by first | exact Nat.le_of_ble_eq_true rfl | (simp only [ab_rm]; omega), by first | exact Nat.le_of_ble_eq_true rfl | (simp only [ab_rm]; omega)⟩ (Nat.le_of_ble_eq_true rfl) (fun u86 r86 h86 => ?_)
  obtain ⟨s86, rfl⟩ := h86
  have q86 := s86.1
  have P86 := P0.trans q86 (by decide)
  refine ab_goto X 210 d_MA_step_89 rfl ?_
  exact ab_retv X hr0 hlk d_MA_step_210 ⟨s86, rfl⟩
set_option maxRecDepth 100000 in
set_option maxHeartbeats 1000000 in
theorem x_MA_st2 (u : ab_S) (st sd : List Nat) (h : CI u) (C : cM u st sd) (hh aa : Int32) (x a : Nat) (r : List Nat) (hL : st.length < 167) (hS : sd.length < 127) (e4 : u.1 7 0 4 = nI a) (e6 : u.1 7 0 6 = 0) (Wx : wX u a r) (G : gd x r st) (f0 : u.1 6 0 0 = 0) (f1 : u.1 6 0 1 = 0) (f2 : u.1 6 0 2 = hh) (f3 : u.1 6 0 3 = aa) (hx : x / 1000 = 2) : ab_C false l D ca y_MA_step b_MA_step 5 none 3 ab_nQ u [ab_O 7 0, ab_I (nI 2), ab_I (nI (x % 1000)), ab_O 5 0, ab_O 6 0] (fun u' w => sQ hh aa x r st sd a u u' ∧ w = none) := by
  refine ab_C.of (by decide) (Nat.le_of_ble_eq_true rfl) ?_
  intro p e s m args below meth c ad X hZ hr0 hlk
  have P0 : mQ u u := mQ.rf h
  cases st with
  | nil =>
    refine ab_iload_n X 1 d_MA_step_0 rfl rfl ?_
    refine ab_tsw X [(1, 84), (2, 92), (3, 115), (4, 115), (5, 142), (6, 157), (7, 157), (8, 157), (9, 176), (17, 196)] 204 d_MA_step_1 (by decide +kernel) rfl (List.forall_mem_cons.mpr ⟨fun hsw => absurd hsw (by decide), List.forall_mem_cons.mpr ⟨fun _ => ?_, List.forall_mem_cons.mpr ⟨fun hsw => absurd hsw (by decide), List.forall_mem_cons.mpr ⟨fun hsw => absurd hsw (by decide), List.forall_mem_cons.mpr ⟨fun hsw => absurd hsw (by decide), List.forall_mem_cons.mpr ⟨fun hsw => absurd hsw (by decide), List.forall_mem_cons.mpr ⟨fun hsw => absurd hsw (by decide), List.forall_mem_cons.mpr ⟨fun hsw => absurd hsw (by decide), List.forall_mem_cons.mpr ⟨fun hsw => absurd hsw (by decide), List.forall_mem_cons.mpr ⟨fun hsw => absurd hsw (by decide), fun _ h => absurd h List.not_mem_nil⟩⟩⟩⟩⟩⟩⟩⟩⟩⟩) (fun hsw => absurd hsw (by decide))
    refine ab_aload_n X 0 d_MA_step_92 rfl rfl ?_
    refine ab_aload_n X 0 d_MA_step_93 rfl rfl ?_
    refine ab_callV (as := []) X (fun h => by cases h) (x_MA_take u [] sd h C (by decide)) lk_MA_64 d_MA_step_94 rfl rfl (by first | assumption | decide | (show _ < 124; omega) | (show _ < 61; omega) | (show _ < 20; omega)) ⟨by first | exact Nat.le_of_ble_eq_true rfl | (simp only [ab_rm]; omega), by first | exact Nat.le_of_ble_eq_true rfl | (simp only [ab_rm]; omega)⟩ ⟨by first | exact Nat.le_of_ble_eq_true rfl | (simp only [ab_rm]; omega), by first | exact Nat.le_of_ble_eq_true rfl | (simp only [ab_rm]; omega)⟩ (Nat.le_of_ble_eq_true rfl) (fun u94 r94 h94 => ?_)
    obtain ⟨⟨z94, c94, g94⟩, rfl⟩ := h94
    have q94 := z94.1
    have P94 := P0.trans q94 (by decide)
    refine ab_bipush (v := 20) X d_MA_step_97 (by decide) ?_
    refine ab_iload_n X 2 d_MA_step_99 rfl rfl ?_
    refine ab_iadd X d_MA_step_100 ?_
    refine ab_top (nI_add 20 (x % 1000)) ?_
    refine ab_icmp_ne X 108 d_MA_step_101 rfl (fun _ => ?_) (fun hb => absurd hb ((nI_ne (a := 0) (b := 20 + x % 1000) (by decide) (by omega) (by omega))))
    refine ab_iconst (v := 0) X d_MA_step_108 (by decide) ?_
    refine ab_callV (as := [ab_I (nI 0)]) X (fun h => by cases h) (x_MA_push u94 0 [] sd P94.1 c94 (by decide) (by decide)) lk_MA_57 d_MA_step_109 rfl rfl (by first | assumption | decide | (show _ < 124; omega) | (show _ < 61; omega) | (show _ < 20; omega)) ⟨by first | exact Nat.le_of_ble_eq_true rfl | (simp only [ab_rm]; omega), by first | exact Nat.le_of_ble_eq_true rfl | (simp only [ab_rm]; omega)⟩ ⟨by first | exact Nat.le_of_ble_eq_true rfl | (simp only [ab_rm]; omega), by first | exact Nat.le_of_ble_eq_true rfl | (simp only [ab_rm]; omega)⟩ (Nat.le_of_ble_eq_true rfl) (fun u109 r109 h109 => ?_)
    obtain ⟨⟨z109, c109, g109⟩, rfl⟩ := h109
    have q109 := z109.1
    have P109 := P94.trans q109 (by decide)
    refine ab_goto X 210 d_MA_step_112 rfl ?_
    exact ab_retv X hr0 hlk d_MA_step_210 ⟨sQ.no P109 (show stp hh aa x r [] sd = none by simp [stp, hx]) (g109.trans (g94.trans (if_pos rfl))) (z109.2.trans (z94.2.trans e4)), rfl⟩
  | cons w t =>
    have hL : t.length + 1 < 167 := hL
    have hd : w < 2000 := C.1.2.1.2
    by_cases q1 : w = 20 + x % 1000
    ·
      refine ab_iload_n X 1 d_MA_step_0 rfl rfl ?_
      refine ab_tsw X [(1, 84), (2, 92), (3, 115), (4, 115), (5, 142), (6, 157), (7, 157), (8, 157), (9, 176), (17, 196)] 204 d_MA_step_1 (by decide +kernel) rfl (List.forall_mem_cons.mpr ⟨fun hsw => absurd hsw (by decide), List.forall_mem_cons.mpr ⟨fun _ => ?_, List.forall_mem_cons.mpr ⟨fun hsw => absurd hsw (by decide), List.forall_mem_cons.mpr ⟨fun hsw => absurd hsw (by decide), List.forall_mem_cons.mpr ⟨fun hsw => absurd hsw (by decide), List.forall_mem_cons.mpr ⟨fun hsw => absurd hsw (by decide), List.forall_mem_cons.mpr ⟨fun hsw => absurd hsw (by decide), List.forall_mem_cons.mpr ⟨fun hsw => absurd hsw (by decide), List.forall_mem_cons.mpr ⟨fun hsw => absurd hsw (by decide), List.forall_mem_cons.mpr ⟨fun hsw => absurd hsw (by decide), fun _ h => absurd h List.not_mem_nil⟩⟩⟩⟩⟩⟩⟩⟩⟩⟩) (fun hsw => absurd hsw (by decide))
      refine ab_aload_n X 0 d_MA_step_92 rfl rfl ?_
      refine ab_aload_n X 0 d_MA_step_93 rfl rfl ?_
      refine ab_callV (as := []) X (fun h => by cases h) (x_MA_take u (w :: t) sd h C (by show t.length + 1 ≤ 168; omega)) lk_MA_64 d_MA_step_94 rfl rfl (by first | assumption | decide | (show _ < 124; omega) | (show _ < 61; omega) | (show _ < 20; omega)) ⟨by first | exact Nat.le_of_ble_eq_true rfl | (simp only [ab_rm]; omega), by first | exact Nat.le_of_ble_eq_true rfl | (simp only [ab_rm]; omega)⟩ ⟨by first | exact Nat.le_of_ble_eq_true rfl | (simp only [ab_rm]; omega), by first | exact Nat.le_of_ble_eq_true rfl | (simp only [ab_rm]; omega)⟩ (Nat.le_of_ble_eq_true rfl) (fun u94 r94 h94 => ?_)
      obtain ⟨⟨z94, c94, g94⟩, rfl⟩ := h94
      have q94 := z94.1
      have P94 := P0.trans q94 (by decide)
      refine ab_bipush (v := 20) X d_MA_step_97 (by decide) ?_
      refine ab_iload_n X 2 d_MA_step_99 rfl rfl ?_
      refine ab_iadd X d_MA_step_100 ?_
      refine ab_top (nI_add 20 (x % 1000)) ?_
      refine ab_icmp_ne X 108 d_MA_step_101 rfl (fun hb => absurd ((congrArg nI q1)) hb) (fun _ => ?_)
      refine ab_iconst (v := 1) X d_MA_step_104 (by decide) ?_
      refine ab_goto X 109 d_MA_step_105 rfl ?_
      refine ab_callV (as := [ab_I (nI 1)]) X (fun h => by cases h) (x_MA_push u94 1 t sd P94.1 c94 (by decide) (by omega)) lk_MA_57 d_MA_step_109 rfl rfl (by first | assumption | decide | (show _ < 124; omega) | (show _ < 61; omega) | (show _ < 20; omega)) ⟨by first | exact Nat.le_of_ble_eq_true rfl | (simp only [ab_rm]; omega), by first | exact Nat.le_of_ble_eq_true rfl | (simp only [ab_rm]; omega)⟩ ⟨by first | exact Nat.le_of_ble_eq_true rfl | (simp only [ab_rm]; omega), by first | exact Nat.le_of_ble_eq_true rfl | (simp only [ab_rm]; omega)⟩ (Nat.le_of_ble_eq_true rfl) (fun u109 r109 h109 => ?_)
      obtain ⟨⟨z109, c109, g109⟩, rfl⟩ := h109
      have q109 := z109.1
      have P109 := P94.trans q109 (by decide)
      refine ab_goto X 210 d_MA_step_112 rfl ?_
      exact ab_retv X hr0 hlk d_MA_step_210 ⟨sQ.yes P109 (show stp hh aa x r (w :: t) sd = some (r, 1 :: t, sd) by simp [stp, hx, q1]) (g109.trans (g94.trans (cn_n.trans e6))) (c109) (z109.2.trans (z94.2.trans e4)), rfl⟩
    ·
      refine ab_iload_n X 1 d_MA_step_0 rfl rfl ?_
      refine ab_tsw X [(1, 84), (2, 92), (3, 115), (4, 115), (5, 142), (6, 157), (7, 157), (8, 157), (9, 176), (17, 196)] 204 d_MA_step_1 (by decide +kernel) rfl (List.forall_mem_cons.mpr ⟨fun hsw => absurd hsw (by decide), List.forall_mem_cons.mpr ⟨fun _ => ?_, List.forall_mem_cons.mpr ⟨fun hsw => absurd hsw (by decide), List.forall_mem_cons.mpr ⟨fun hsw => absurd hsw (by decide), List.forall_mem_cons.mpr ⟨fun hsw => absurd hsw (by decide), List.forall_mem_cons.mpr ⟨fun hsw => absurd hsw (by decide), List.forall_mem_cons.mpr ⟨fun hsw => absurd hsw (by decide), List.forall_mem_cons.mpr ⟨fun hsw => absurd hsw (by decide), List.forall_mem_cons.mpr ⟨fun hsw => absurd hsw (by decide), List.forall_mem_cons.mpr ⟨fun hsw => absurd hsw (by decide), fun _ h => absurd h List.not_mem_nil⟩⟩⟩⟩⟩⟩⟩⟩⟩⟩) (fun hsw => absurd hsw (by decide))
      refine ab_aload_n X 0 d_MA_step_92 rfl rfl ?_
      refine ab_aload_n X 0 d_MA_step_93 rfl rfl ?_
      refine ab_callV (as := []) X (fun h => by cases h) (x_MA_take u (w :: t) sd h C (by show t.length + 1 ≤ 168; omega)) lk_MA_64 d_MA_step_94 rfl rfl (by first | assumption | decide | (show _ < 124; omega) | (show _ < 61; omega) | (show _ < 20; omega)) ⟨by first | exact Nat.le_of_ble_eq_true rfl | (simp only [ab_rm]; omega), by first | exact Nat.le_of_ble_eq_true rfl | (simp only [ab_rm]; omega)⟩ ⟨by first | exact Nat.le_of_ble_eq_true rfl | (simp only [ab_rm]; omega), by first | exact Nat.le_of_ble_eq_true rfl | (simp only [ab_rm]; omega)⟩ (Nat.le_of_ble_eq_true rfl) (fun u94 r94 h94 => ?_)
      obtain ⟨⟨z94, c94, g94⟩, rfl⟩ := h94
      have q94 := z94.1
      have P94 := P0.trans q94 (by decide)
      refine ab_bipush (v := 20) X d_MA_step_97 (by decide) ?_
      refine ab_iload_n X 2 d_MA_step_99 rfl rfl ?_
      refine ab_iadd X d_MA_step_100 ?_
      refine ab_top (nI_add 20 (x % 1000)) ?_
      refine ab_icmp_ne X 108 d_MA_step_101 rfl (fun _ => ?_) (fun hb => absurd hb ((nI_ne (a := w) (by omega) (by omega) q1)))
      refine ab_iconst (v := 0) X d_MA_step_108 (by decide) ?_
      refine ab_callV (as := [ab_I (nI 0)]) X (fun h => by cases h) (x_MA_push u94 0 t sd P94.1 c94 (by decide) (by omega)) lk_MA_57 d_MA_step_109 rfl rfl (by first | assumption | decide | (show _ < 124; omega) | (show _ < 61; omega) | (show _ < 20; omega)) ⟨by first | exact Nat.le_of_ble_eq_true rfl | (simp only [ab_rm]; omega), by first | exact Nat.le_of_ble_eq_true rfl | (simp only [ab_rm]; omega)⟩ ⟨by first | exact Nat.le_of_ble_eq_true rfl | (simp only [ab_rm]; omega), by first | exact Nat.le_of_ble_eq_true rfl | (simp only [ab_rm]; omega)⟩ (Nat.le_of_ble_eq_true rfl) (fun u109 r109 h109 => ?_)
      obtain ⟨⟨z109, c109, g109⟩, rfl⟩ := h109
      have q109 := z109.1
      have P109 := P94.trans q109 (by decide)
      refine ab_goto X 210 d_MA_step_112 rfl ?_
      exact ab_retv X hr0 hlk d_MA_step_210 ⟨sQ.yes P109 (show stp hh aa x r (w :: t) sd = some (r, 0 :: t, sd) by simp [stp, hx, q1]) (g109.trans (g94.trans (cn_n.trans e6))) (c109) (z109.2.trans (z94.2.trans e4)), rfl⟩
set_option maxRecDepth 100000 in
set_option maxHeartbeats 1000000 in
theorem x_MA_st3 (u : ab_S) (st sd : List Nat) (h : CI u) (C : cM u st sd) (hh aa : Int32) (x a : Nat) (r : List Nat) (hL : st.length < 167) (hS : sd.length < 127) (e4 : u.1 7 0 4 = nI a) (e6 : u.1 7 0 6 = 0) (Wx : wX u a r) (G : gd x r st) (f0 : u.1 6 0 0 = 0) (f1 : u.1 6 0 1 = 0) (f2 : u.1 6 0 2 = hh) (f3 : u.1 6 0 3 = aa) (hx : x / 1000 = 3) : ab_C false l D ca y_MA_step b_MA_step 5 none 3 ab_nQ u [ab_O 7 0, ab_I (nI 3), ab_I (nI (x % 1000)), ab_O 5 0, ab_O 6 0] (fun u' w => sQ hh aa x r st sd a u u' ∧ w = none) := by
  refine ab_C.of (by decide) (Nat.le_of_ble_eq_true rfl) ?_
  intro p e s m args below meth c ad X hZ hr0 hlk
  have P0 : mQ u u := mQ.rf h
  by_cases q1 : hh < nI (x % 1000)
  ·
    refine ab_iload_n X 1 d_MA_step_0 rfl rfl ?_
    refine ab_tsw X [(1, 84), (2, 92), (3, 115), (4, 115), (5, 142), (6, 157), (7, 157), (8, 157), (9, 176), (17, 196)] 204 d_MA_step_1 (by decide +kernel) rfl (List.forall_mem_cons.mpr ⟨fun hsw => absurd hsw (by decide), List.forall_mem_cons.mpr ⟨fun hsw => absurd hsw (by decide), List.forall_mem_cons.mpr ⟨fun _ => ?_, List.forall_mem_cons.mpr ⟨fun hsw => absurd hsw (by decide), List.forall_mem_cons.mpr ⟨fun hsw => absurd hsw (by decide), List.forall_mem_cons.mpr ⟨fun hsw => absurd hsw (by decide), List.forall_mem_cons.mpr ⟨fun hsw => absurd hsw (by decide), List.forall_mem_cons.mpr ⟨fun hsw => absurd hsw (by decide), List.forall_mem_cons.mpr ⟨fun hsw => absurd hsw (by decide), List.forall_mem_cons.mpr ⟨fun hsw => absurd hsw (by decide), fun _ h => absurd h List.not_mem_nil⟩⟩⟩⟩⟩⟩⟩⟩⟩⟩) (fun hsw => absurd hsw (by decide))
    refine ab_aload_n X 0 d_MA_step_115 rfl rfl ?_
    refine ab_aload X 4 d_MA_step_116 rfl ?_
    refine ab_iload_n X 1 d_MA_step_118 rfl rfl ?_
    refine ab_iload_n X 2 d_MA_step_119 rfl rfl ?_
    refine ab_callV (as := [ab_I 3, ab_I (nI (x % 1000))]) X (fun h => by cases h) (t_FA_meetF u 3 (nI (x % 1000)) 0 0 hh aa h f0 f1 f2 f3) lk_MA_68 d_MA_step_120 rfl rfl (by first | assumption | decide | (show _ < 124; omega) | (show _ < 61; omega) | (show _ < 20; omega)) ⟨by first | exact Nat.le_of_ble_eq_true rfl | (simp only [ab_rm]; omega), by first | exact Nat.le_of_ble_eq_true rfl | (simp only [ab_rm]; omega)⟩ ⟨by first | exact Nat.le_of_ble_eq_true rfl | (simp only [ab_rm]; omega), by first | exact Nat.le_of_ble_eq_true rfl | (simp only [ab_rm]; omega)⟩ (Nat.le_of_ble_eq_true rfl) (fun u120 r120 h120 => ?_)
    obtain ⟨e120, rfl⟩ := h120
    subst u120
    refine ab_top ((hl3).trans (if_pos q1)) ?_
    refine ab_if_ne X 130 d_MA_step_123 rfl (fun hb => absurd (rfl) hb) (fun _ => ?_)
    refine ab_iconst (v := 1) X d_MA_step_126 (by decide) ?_
    refine ab_goto X 131 d_MA_step_127 rfl ?_
    refine ab_putI X fp_MA_31 d_MA_step_131 (by first | assumption | decide | (show _ < 124; omega) | (show _ < 61; omega) | (show _ < 20; omega)) rfl rfl ?_
    refine ab_gen (fun u131 e131 => ?_)
    have P131 : mQ u u131 := by rw [e131]; exact P0.ui rfl (by decide)
    have c131 : cM u131 st sd := by rw [e131]; exact C.ui (by decide)
    refine ab_aload_n X 0 d_MA_step_134 rfl rfl ?_
    refine ab_iconst (v := 1) X d_MA_step_135 (by decide) ?_
    refine ab_callV (as := [ab_I (nI 1)]) X (fun h => by cases h) (x_MA_push u131 1 st sd P131.1 c131 (by decide) (by omega)) lk_MA_57 d_MA_step_136 rfl rfl (by first | assumption | decide | (show _ < 124; omega) | (show _ < 61; omega) | (show _ < 20; omega)) ⟨by first | exact Nat.le_of_ble_eq_true rfl | (simp only [ab_rm]; omega), by first | exact Nat.le_of_ble_eq_true rfl | (simp only [ab_rm]; omega)⟩ ⟨by first | exact Nat.le_of_ble_eq_true rfl | (simp only [ab_rm]; omega), by first | exact Nat.le_of_ble_eq_true rfl | (simp only [ab_rm]; omega)⟩ (Nat.le_of_ble_eq_true rfl) (fun u136 r136 h136 => ?_)
    obtain ⟨⟨z136, c136, g136⟩, rfl⟩ := h136
    have q136 := z136.1
    have P136 := P131.trans q136 (by decide)
    refine ab_goto X 210 d_MA_step_139 rfl ?_
    exact ab_retv X hr0 hlk d_MA_step_210 ⟨sQ.no P136 (show stp hh aa x r st sd = none by simp [stp, hx, q1]) (g136.trans (by rw [e131]; exact ui_s _)) (z136.2.trans (by rw [e131]; exact (ui_n _ (by omega)).trans e4)), rfl⟩
  ·
    refine ab_iload_n X 1 d_MA_step_0 rfl rfl ?_
    refine ab_tsw X [(1, 84), (2, 92), (3, 115), (4, 115), (5, 142), (6, 157), (7, 157), (8, 157), (9, 176), (17, 196)] 204 d_MA_step_1 (by decide +kernel) rfl (List.forall_mem_cons.mpr ⟨fun hsw => absurd hsw (by decide), List.forall_mem_cons.mpr ⟨fun hsw => absurd hsw (by decide), List.forall_mem_cons.mpr ⟨fun _ => ?_, List.forall_mem_cons.mpr ⟨fun hsw => absurd hsw (by decide), List.forall_mem_cons.mpr ⟨fun hsw => absurd hsw (by decide), List.forall_mem_cons.mpr ⟨fun hsw => absurd hsw (by decide), List.forall_mem_cons.mpr ⟨fun hsw => absurd hsw (by decide), List.forall_mem_cons.mpr ⟨fun hsw => absurd hsw (by decide), List.forall_mem_cons.mpr ⟨fun hsw => absurd hsw (by decide), List.forall_mem_cons.mpr ⟨fun hsw => absurd hsw (by decide), fun _ h => absurd h List.not_mem_nil⟩⟩⟩⟩⟩⟩⟩⟩⟩⟩) (fun hsw => absurd hsw (by decide))
    refine ab_aload_n X 0 d_MA_step_115 rfl rfl ?_
    refine ab_aload X 4 d_MA_step_116 rfl ?_
    refine ab_iload_n X 1 d_MA_step_118 rfl rfl ?_
    refine ab_iload_n X 2 d_MA_step_119 rfl rfl ?_
    refine ab_callV (as := [ab_I 3, ab_I (nI (x % 1000))]) X (fun h => by cases h) (t_FA_meetF u 3 (nI (x % 1000)) 0 0 hh aa h f0 f1 f2 f3) lk_MA_68 d_MA_step_120 rfl rfl (by first | assumption | decide | (show _ < 124; omega) | (show _ < 61; omega) | (show _ < 20; omega)) ⟨by first | exact Nat.le_of_ble_eq_true rfl | (simp only [ab_rm]; omega), by first | exact Nat.le_of_ble_eq_true rfl | (simp only [ab_rm]; omega)⟩ ⟨by first | exact Nat.le_of_ble_eq_true rfl | (simp only [ab_rm]; omega), by first | exact Nat.le_of_ble_eq_true rfl | (simp only [ab_rm]; omega)⟩ (Nat.le_of_ble_eq_true rfl) (fun u120 r120 h120 => ?_)
    obtain ⟨e120, rfl⟩ := h120
    subst u120
    refine ab_top ((hl3).trans (if_neg q1)) ?_
    refine ab_if_ne X 130 d_MA_step_123 rfl (fun _ => ?_) (fun hb => absurd hb ((by decide)))
    refine ab_iconst (v := 0) X d_MA_step_130 (by decide) ?_
    refine ab_putI X fp_MA_31 d_MA_step_131 (by first | assumption | decide | (show _ < 124; omega) | (show _ < 61; omega) | (show _ < 20; omega)) rfl rfl ?_
    refine ab_gen (fun u131 e131 => ?_)
    have P131 : mQ u u131 := by rw [e131]; exact P0.ui rfl (by decide)
    have c131 : cM u131 st sd := by rw [e131]; exact C.ui (by decide)
    refine ab_aload_n X 0 d_MA_step_134 rfl rfl ?_
    refine ab_iconst (v := 1) X d_MA_step_135 (by decide) ?_
    refine ab_callV (as := [ab_I (nI 1)]) X (fun h => by cases h) (x_MA_push u131 1 st sd P131.1 c131 (by decide) (by omega)) lk_MA_57 d_MA_step_136 rfl rfl (by first | assumption | decide | (show _ < 124; omega) | (show _ < 61; omega) | (show _ < 20; omega)) ⟨by first | exact Nat.le_of_ble_eq_true rfl | (simp only [ab_rm]; omega), by first | exact Nat.le_of_ble_eq_true rfl | (simp only [ab_rm]; omega)⟩ ⟨by first | exact Nat.le_of_ble_eq_true rfl | (simp only [ab_rm]; omega), by first | exact Nat.le_of_ble_eq_true rfl | (simp only [ab_rm]; omega)⟩ (Nat.le_of_ble_eq_true rfl) (fun u136 r136 h136 => ?_)
    obtain ⟨⟨z136, c136, g136⟩, rfl⟩ := h136
    have q136 := z136.1
    have P136 := P131.trans q136 (by decide)
    refine ab_goto X 210 d_MA_step_139 rfl ?_
    exact ab_retv X hr0 hlk d_MA_step_210 ⟨sQ.yes P136 (show stp hh aa x r st sd = some (r, 1 :: st, sd) by simp [stp, hx, q1]) (g136.trans (by rw [e131]; exact ui_s _)) (c136) (z136.2.trans (by rw [e131]; exact (ui_n _ (by omega)).trans e4)), rfl⟩
set_option maxRecDepth 100000 in
set_option maxHeartbeats 1000000 in
theorem x_MA_st4 (u : ab_S) (st sd : List Nat) (h : CI u) (C : cM u st sd) (hh aa : Int32) (x a : Nat) (r : List Nat) (hL : st.length < 167) (hS : sd.length < 127) (e4 : u.1 7 0 4 = nI a) (e6 : u.1 7 0 6 = 0) (Wx : wX u a r) (G : gd x r st) (f0 : u.1 6 0 0 = 0) (f1 : u.1 6 0 1 = 0) (f2 : u.1 6 0 2 = hh) (f3 : u.1 6 0 3 = aa) (hx : x / 1000 = 4) : ab_C false l D ca y_MA_step b_MA_step 5 none 3 ab_nQ u [ab_O 7 0, ab_I (nI 4), ab_I (nI (x % 1000)), ab_O 5 0, ab_O 6 0] (fun u' w => sQ hh aa x r st sd a u u' ∧ w = none) := by
  refine ab_C.of (by decide) (Nat.le_of_ble_eq_true rfl) ?_
  intro p e s m args below meth c ad X hZ hr0 hlk
  have P0 : mQ u u := mQ.rf h
  by_cases q1 : aa < nI (x % 1000)
  ·
    refine ab_iload_n X 1 d_MA_step_0 rfl rfl ?_
    refine ab_tsw X [(1, 84), (2, 92), (3, 115), (4, 115), (5, 142), (6, 157), (7, 157), (8, 157), (9, 176), (17, 196)] 204 d_MA_step_1 (by decide +kernel) rfl (List.forall_mem_cons.mpr ⟨fun hsw => absurd hsw (by decide), List.forall_mem_cons.mpr ⟨fun hsw => absurd hsw (by decide), List.forall_mem_cons.mpr ⟨fun hsw => absurd hsw (by decide), List.forall_mem_cons.mpr ⟨fun _ => ?_, List.forall_mem_cons.mpr ⟨fun hsw => absurd hsw (by decide), List.forall_mem_cons.mpr ⟨fun hsw => absurd hsw (by decide), List.forall_mem_cons.mpr ⟨fun hsw => absurd hsw (by decide), List.forall_mem_cons.mpr ⟨fun hsw => absurd hsw (by decide), List.forall_mem_cons.mpr ⟨fun hsw => absurd hsw (by decide), List.forall_mem_cons.mpr ⟨fun hsw => absurd hsw (by decide), fun _ h => absurd h List.not_mem_nil⟩⟩⟩⟩⟩⟩⟩⟩⟩⟩) (fun hsw => absurd hsw (by decide))
    refine ab_aload_n X 0 d_MA_step_115 rfl rfl ?_
    refine ab_aload X 4 d_MA_step_116 rfl ?_
    refine ab_iload_n X 1 d_MA_step_118 rfl rfl ?_
    refine ab_iload_n X 2 d_MA_step_119 rfl rfl ?_
    refine ab_callV (as := [ab_I 4, ab_I (nI (x % 1000))]) X (fun h => by cases h) (t_FA_meetF u 4 (nI (x % 1000)) 0 0 hh aa h f0 f1 f2 f3) lk_MA_68 d_MA_step_120 rfl rfl (by first | assumption | decide | (show _ < 124; omega) | (show _ < 61; omega) | (show _ < 20; omega)) ⟨by first | exact Nat.le_of_ble_eq_true rfl | (simp only [ab_rm]; omega), by first | exact Nat.le_of_ble_eq_true rfl | (simp only [ab_rm]; omega)⟩ ⟨by first | exact Nat.le_of_ble_eq_true rfl | (simp only [ab_rm]; omega), by first | exact Nat.le_of_ble_eq_true rfl | (simp only [ab_rm]; omega)⟩ (Nat.le_of_ble_eq_true rfl) (fun u120 r120 h120 => ?_)
    obtain ⟨e120, rfl⟩ := h120
    subst u120
    refine ab_top ((hl4).trans (if_pos q1)) ?_
    refine ab_if_ne X 130 d_MA_step_123 rfl (fun hb => absurd (rfl) hb) (fun _ => ?_)
    refine ab_iconst (v := 1) X d_MA_step_126 (by decide) ?_
    refine ab_goto X 131 d_MA_step_127 rfl ?_
    refine ab_putI X fp_MA_31 d_MA_step_131 (by first | assumption | decide | (show _ < 124; omega) | (show _ < 61; omega) | (show _ < 20; omega)) rfl rfl ?_
    refine ab_gen (fun u131 e131 => ?_)
    have P131 : mQ u u131 := by rw [e131]; exact P0.ui rfl (by decide)
    have c131 : cM u131 st sd := by rw [e131]; exact C.ui (by decide)
    refine ab_aload_n X 0 d_MA_step_134 rfl rfl ?_
    refine ab_iconst (v := 1) X d_MA_step_135 (by decide) ?_
    refine ab_callV (as := [ab_I (nI 1)]) X (fun h => by cases h) (x_MA_push u131 1 st sd P131.1 c131 (by decide) (by omega)) lk_MA_57 d_MA_step_136 rfl rfl (by first | assumption | decide | (show _ < 124; omega) | (show _ < 61; omega) | (show _ < 20; omega)) ⟨by first | exact Nat.le_of_ble_eq_true rfl | (simp only [ab_rm]; omega), by first | exact Nat.le_of_ble_eq_true rfl | (simp only [ab_rm]; omega)⟩ ⟨by first | exact Nat.le_of_ble_eq_true rfl | (simp only [ab_rm]; omega), by first | exact Nat.le_of_ble_eq_true rfl | (simp only [ab_rm]; omega)⟩ (Nat.le_of_ble_eq_true rfl) (fun u136 r136 h136 => ?_)
    obtain ⟨⟨z136, c136, g136⟩, rfl⟩ := h136
    have q136 := z136.1
    have P136 := P131.trans q136 (by decide)
    refine ab_goto X 210 d_MA_step_139 rfl ?_
    exact ab_retv X hr0 hlk d_MA_step_210 ⟨sQ.no P136 (show stp hh aa x r st sd = none by simp [stp, hx, q1]) (g136.trans (by rw [e131]; exact ui_s _)) (z136.2.trans (by rw [e131]; exact (ui_n _ (by omega)).trans e4)), rfl⟩
  ·
    refine ab_iload_n X 1 d_MA_step_0 rfl rfl ?_
    refine ab_tsw X [(1, 84), (2, 92), (3, 115), (4, 115), (5, 142), (6, 157), (7, 157), (8, 157), (9, 176), (17, 196)] 204 d_MA_step_1 (by decide +kernel) rfl (List.forall_mem_cons.mpr ⟨fun hsw => absurd hsw (by decide), List.forall_mem_cons.mpr ⟨fun hsw => absurd hsw (by decide), List.forall_mem_cons.mpr ⟨fun hsw => absurd hsw (by decide), List.forall_mem_cons.mpr ⟨fun _ => ?_, List.forall_mem_cons.mpr ⟨fun hsw => absurd hsw (by decide), List.forall_mem_cons.mpr ⟨fun hsw => absurd hsw (by decide), List.forall_mem_cons.mpr ⟨fun hsw => absurd hsw (by decide), List.forall_mem_cons.mpr ⟨fun hsw => absurd hsw (by decide), List.forall_mem_cons.mpr ⟨fun hsw => absurd hsw (by decide), List.forall_mem_cons.mpr ⟨fun hsw => absurd hsw (by decide), fun _ h => absurd h List.not_mem_nil⟩⟩⟩⟩⟩⟩⟩⟩⟩⟩) (fun hsw => absurd hsw (by decide))
    refine ab_aload_n X 0 d_MA_step_115 rfl rfl ?_
    refine ab_aload X 4 d_MA_step_116 rfl ?_
    refine ab_iload_n X 1 d_MA_step_118 rfl rfl ?_
    refine ab_iload_n X 2 d_MA_step_119 rfl rfl ?_
    refine ab_callV (as := [ab_I 4, ab_I (nI (x % 1000))]) X (fun h => by cases h) (t_FA_meetF u 4 (nI (x % 1000)) 0 0 hh aa h f0 f1 f2 f3) lk_MA_68 d_MA_step_120 rfl rfl (by first | assumption | decide | (show _ < 124; omega) | (show _ < 61; omega) | (show _ < 20; omega)) ⟨by first | exact Nat.le_of_ble_eq_true rfl | (simp only [ab_rm]; omega), by first | exact Nat.le_of_ble_eq_true rfl | (simp only [ab_rm]; omega)⟩ ⟨by first | exact Nat.le_of_ble_eq_true rfl | (simp only [ab_rm]; omega), by first | exact Nat.le_of_ble_eq_true rfl | (simp only [ab_rm]; omega)⟩ (Nat.le_of_ble_eq_true rfl) (fun u120 r120 h120 => ?_)
    obtain ⟨e120, rfl⟩ := h120
    subst u120
    refine ab_top ((hl4).trans (if_neg q1)) ?_
    refine ab_if_ne X 130 d_MA_step_123 rfl (fun _ => ?_) (fun hb => absurd hb ((by decide)))
    refine ab_iconst (v := 0) X d_MA_step_130 (by decide) ?_
    refine ab_putI X fp_MA_31 d_MA_step_131 (by first | assumption | decide | (show _ < 124; omega) | (show _ < 61; omega) | (show _ < 20; omega)) rfl rfl ?_
    refine ab_gen (fun u131 e131 => ?_)
    have P131 : mQ u u131 := by rw [e131]; exact P0.ui rfl (by decide)
    have c131 : cM u131 st sd := by rw [e131]; exact C.ui (by decide)
    refine ab_aload_n X 0 d_MA_step_134 rfl rfl ?_
    refine ab_iconst (v := 1) X d_MA_step_135 (by decide) ?_
    refine ab_callV (as := [ab_I (nI 1)]) X (fun h => by cases h) (x_MA_push u131 1 st sd P131.1 c131 (by decide) (by omega)) lk_MA_57 d_MA_step_136 rfl rfl (by first | assumption | decide | (show _ < 124; omega) | (show _ < 61; omega) | (show _ < 20; omega)) ⟨by first | exact Nat.le_of_ble_eq_true rfl | (simp only [ab_rm]; omega), by first | exact Nat.le_of_ble_eq_true rfl | (simp only [ab_rm]; omega)⟩ ⟨by first | exact Nat.le_of_ble_eq_true rfl | (simp only [ab_rm]; omega), by first | exact Nat.le_of_ble_eq_true rfl | (simp only [ab_rm]; omega)⟩ (Nat.le_of_ble_eq_true rfl) (fun u136 r136 h136 => ?_)
    obtain ⟨⟨z136, c136, g136⟩, rfl⟩ := h136
    have q136 := z136.1
    have P136 := P131.trans q136 (by decide)
    refine ab_goto X 210 d_MA_step_139 rfl ?_
    exact ab_retv X hr0 hlk d_MA_step_210 ⟨sQ.yes P136 (show stp hh aa x r st sd = some (r, 1 :: st, sd) by simp [stp, hx, q1]) (g136.trans (by rw [e131]; exact ui_s _)) (c136) (z136.2.trans (by rw [e131]; exact (ui_n _ (by omega)).trans e4)), rfl⟩
set_option maxRecDepth 100000 in
set_option maxHeartbeats 1000000 in
theorem x_MA_st5 (u : ab_S) (st sd : List Nat) (h : CI u) (C : cM u st sd) (hh aa : Int32) (x a : Nat) (r : List Nat) (hL : st.length < 167) (hS : sd.length < 127) (e4 : u.1 7 0 4 = nI a) (e6 : u.1 7 0 6 = 0) (Wx : wX u a r) (G : gd x r st) (f0 : u.1 6 0 0 = 0) (f1 : u.1 6 0 1 = 0) (f2 : u.1 6 0 2 = hh) (f3 : u.1 6 0 3 = aa) (hx : x / 1000 = 5) : ab_C false l D ca y_MA_step b_MA_step 5 none 3 ab_nQ u [ab_O 7 0, ab_I (nI 5), ab_I (nI (x % 1000)), ab_O 5 0, ab_O 6 0] (fun u' w => sQ hh aa x r st sd a u u' ∧ w = none) := by
  refine ab_C.of (by decide) (Nat.le_of_ble_eq_true rfl) ?_
  intro p e s m args below meth c ad X hZ hr0 hlk
  have P0 : mQ u u := mQ.rf h
  cases st with
  | nil =>
    refine ab_iload_n X 1 d_MA_step_0 rfl rfl ?_
    refine ab_tsw X [(1, 84), (2, 92), (3, 115), (4, 115), (5, 142), (6, 157), (7, 157), (8, 157), (9, 176), (17, 196)] 204 d_MA_step_1 (by decide +kernel) rfl (List.forall_mem_cons.mpr ⟨fun hsw => absurd hsw (by decide), List.forall_mem_cons.mpr ⟨fun hsw => absurd hsw (by decide), List.forall_mem_cons.mpr ⟨fun hsw => absurd hsw (by decide), List.forall_mem_cons.mpr ⟨fun hsw => absurd hsw (by decide), List.forall_mem_cons.mpr ⟨fun _ => ?_, List.forall_mem_cons.mpr ⟨fun hsw => absurd hsw (by decide), List.forall_mem_cons.mpr ⟨fun hsw => absurd hsw (by decide), List.forall_mem_cons.mpr ⟨fun hsw => absurd hsw (by decide), List.forall_mem_cons.mpr ⟨fun hsw => absurd hsw (by decide), List.forall_mem_cons.mpr ⟨fun hsw => absurd hsw (by decide), fun _ h => absurd h List.not_mem_nil⟩⟩⟩⟩⟩⟩⟩⟩⟩⟩) (fun hsw => absurd hsw (by decide))
    refine ab_aload_n X 0 d_MA_step_142 rfl rfl ?_
    refine ab_callV (as := []) X (fun h => by cases h) (x_MA_takeNumber u [] sd h C (by decide)) lk_MA_74 d_MA_step_143 rfl rfl (by first | assumption | decide | (show _ < 124; omega) | (show _ < 61; omega) | (show _ < 20; omega)) ⟨by first | exact Nat.le_of_ble_eq_true rfl | (simp only [ab_rm]; omega), by first | exact Nat.le_of_ble_eq_true rfl | (simp only [ab_rm]; omega)⟩ ⟨by first | exact Nat.le_of_ble_eq_true rfl | (simp only [ab_rm]; omega), by first | exact Nat.le_of_ble_eq_true rfl | (simp only [ab_rm]; omega)⟩ (Nat.le_of_ble_eq_true rfl) (fun u143 r143 h143 => ?_)
    obtain ⟨⟨z143, c143, g143⟩, rfl⟩ := h143
    have q143 := z143.1
    have P143 := P0.trans q143 (by decide)
    refine ab_if_ne X 210 d_MA_step_146 rfl (fun hb => absurd ((show nI ([] : List Nat).length = 0 from rfl)) hb) (fun _ => ?_)
    refine ab_aload_n X 0 d_MA_step_149 rfl rfl ?_
    refine ab_iconst (v := 1) X d_MA_step_150 (by decide) ?_
    refine ab_putI X fp_MA_31 d_MA_step_151 (by first | assumption | decide | (show _ < 124; omega) | (show _ < 61; omega) | (show _ < 20; omega)) rfl rfl ?_
    refine ab_gen (fun u151 e151 => ?_)
    have P151 : mQ u u151 := by rw [e151]; exact P143.ui rfl (by decide)
    refine ab_goto X 210 d_MA_step_154 rfl ?_
    exact ab_retv X hr0 hlk d_MA_step_210 ⟨sQ.no P151 (show stp hh aa x r [] sd = none by simp [stp, hx]) (by rw [e151]; exact ui_s _) (by rw [e151]; exact (ui_n _ (by omega)).trans (z143.2.trans e4)), rfl⟩
  | cons w t =>
    have hL : t.length + 1 < 167 := hL
    have hd : w < 2000 := C.1.2.1.2
    by_cases q0 : w = 0
    ·
      refine ab_iload_n X 1 d_MA_step_0 rfl rfl ?_
      refine ab_tsw X [(1, 84), (2, 92), (3, 115), (4, 115), (5, 142), (6, 157), (7, 157), (8, 157), (9, 176), (17, 196)] 204 d_MA_step_1 (by decide +kernel) rfl (List.forall_mem_cons.mpr ⟨fun hsw => absurd hsw (by decide), List.forall_mem_cons.mpr ⟨fun hsw => absurd hsw (by decide), List.forall_mem_cons.mpr ⟨fun hsw => absurd hsw (by decide), List.forall_mem_cons.mpr ⟨fun hsw => absurd hsw (by decide), List.forall_mem_cons.mpr ⟨fun _ => ?_, List.forall_mem_cons.mpr ⟨fun hsw => absurd hsw (by decide), List.forall_mem_cons.mpr ⟨fun hsw => absurd hsw (by decide), List.forall_mem_cons.mpr ⟨fun hsw => absurd hsw (by decide), List.forall_mem_cons.mpr ⟨fun hsw => absurd hsw (by decide), List.forall_mem_cons.mpr ⟨fun hsw => absurd hsw (by decide), fun _ h => absurd h List.not_mem_nil⟩⟩⟩⟩⟩⟩⟩⟩⟩⟩) (fun hsw => absurd hsw (by decide))
      refine ab_aload_n X 0 d_MA_step_142 rfl rfl ?_
      refine ab_callV (as := []) X (fun h => by cases h) (x_MA_takeNumber u (w :: t) sd h C (by show t.length + 1 ≤ 168; omega)) lk_MA_74 d_MA_step_143 rfl rfl (by first | assumption | decide | (show _ < 124; omega) | (show _ < 61; omega) | (show _ < 20; omega)) ⟨by first | exact Nat.le_of_ble_eq_true rfl | (simp only [ab_rm]; omega), by first | exact Nat.le_of_ble_eq_true rfl | (simp only [ab_rm]; omega)⟩ ⟨by first | exact Nat.le_of_ble_eq_true rfl | (simp only [ab_rm]; omega), by first | exact Nat.le_of_ble_eq_true rfl | (simp only [ab_rm]; omega)⟩ (Nat.le_of_ble_eq_true rfl) (fun u143 r143 h143 => ?_)
      obtain ⟨⟨z143, c143, g143⟩, rfl⟩ := h143
      have q143 := z143.1
      have P143 := P0.trans q143 (by decide)
      refine ab_if_ne X 210 d_MA_step_146 rfl (fun hb => absurd ((congrArg nI q0)) hb) (fun _ => ?_)
      refine ab_aload_n X 0 d_MA_step_149 rfl rfl ?_
      refine ab_iconst (v := 1) X d_MA_step_150 (by decide) ?_
      refine ab_putI X fp_MA_31 d_MA_step_151 (by first | assumption | decide | (show _ < 124; omega) | (show _ < 61; omega) | (show _ < 20; omega)) rfl rfl ?_
      refine ab_gen (fun u151 e151 => ?_)
      have P151 : mQ u u151 := by rw [e151]; exact P143.ui rfl (by decide)
      refine ab_goto X 210 d_MA_step_154 rfl ?_
      exact ab_retv X hr0 hlk d_MA_step_210 ⟨sQ.no P151 (show stp hh aa x r (w :: t) sd = none by simp [stp, hx, q0]) (by rw [e151]; exact ui_s _) (by rw [e151]; exact (ui_n _ (by omega)).trans (z143.2.trans e4)), rfl⟩
    · by_cases q9 : 9 < w
      ·
        refine ab_iload_n X 1 d_MA_step_0 rfl rfl ?_
        refine ab_tsw X [(1, 84), (2, 92), (3, 115), (4, 115), (5, 142), (6, 157), (7, 157), (8, 157), (9, 176), (17, 196)] 204 d_MA_step_1 (by decide +kernel) rfl (List.forall_mem_cons.mpr ⟨fun hsw => absurd hsw (by decide), List.forall_mem_cons.mpr ⟨fun hsw => absurd hsw (by decide), List.forall_mem_cons.mpr ⟨fun hsw => absurd hsw (by decide), List.forall_mem_cons.mpr ⟨fun hsw => absurd hsw (by decide), List.forall_mem_cons.mpr ⟨fun _ => ?_, List.forall_mem_cons.mpr ⟨fun hsw => absurd hsw (by decide), List.forall_mem_cons.mpr ⟨fun hsw => absurd hsw (by decide), List.forall_mem_cons.mpr ⟨fun hsw => absurd hsw (by decide), List.forall_mem_cons.mpr ⟨fun hsw => absurd hsw (by decide), List.forall_mem_cons.mpr ⟨fun hsw => absurd hsw (by decide), fun _ h => absurd h List.not_mem_nil⟩⟩⟩⟩⟩⟩⟩⟩⟩⟩) (fun hsw => absurd hsw (by decide))
        refine ab_aload_n X 0 d_MA_step_142 rfl rfl ?_
        refine ab_callV (as := []) X (fun h => by cases h) (x_MA_takeNumber u (w :: t) sd h C (by show t.length + 1 ≤ 168; omega)) lk_MA_74 d_MA_step_143 rfl rfl (by first | assumption | decide | (show _ < 124; omega) | (show _ < 61; omega) | (show _ < 20; omega)) ⟨by first | exact Nat.le_of_ble_eq_true rfl | (simp only [ab_rm]; omega), by first | exact Nat.le_of_ble_eq_true rfl | (simp only [ab_rm]; omega)⟩ ⟨by first | exact Nat.le_of_ble_eq_true rfl | (simp only [ab_rm]; omega), by first | exact Nat.le_of_ble_eq_true rfl | (simp only [ab_rm]; omega)⟩ (Nat.le_of_ble_eq_true rfl) (fun u143 r143 h143 => ?_)
        obtain ⟨⟨z143, c143, g143⟩, rfl⟩ := h143
        have q143 := z143.1
        have P143 := P0.trans q143 (by decide)
        refine ab_if_ne X 210 d_MA_step_146 rfl (fun _ => ?_) (fun hb => absurd hb ((nI_n0 (n := w) (by omega) q0)))
        exact ab_retv X hr0 hlk d_MA_step_210 ⟨sQ.no P143 (show stp hh aa x r (w :: t) sd = none by simp [stp, hx, q9]) (g143.trans (tn_y q9)) (z143.2.trans e4), rfl⟩
      · have q8 : w ≤ 9 := by omega
        refine ab_iload_n X 1 d_MA_step_0 rfl rfl ?_
        refine ab_tsw X [(1, 84), (2, 92), (3, 115), (4, 115), (5, 142), (6, 157), (7, 157), (8, 157), (9, 176), (17, 196)] 204 d_MA_step_1 (by decide +kernel) rfl (List.forall_mem_cons.mpr ⟨fun hsw => absurd hsw (by decide), List.forall_mem_cons.mpr ⟨fun hsw => absurd hsw (by decide), List.forall_mem_cons.mpr ⟨fun hsw => absurd hsw (by decide), List.forall_mem_cons.mpr ⟨fun hsw => absurd hsw (by decide), List.forall_mem_cons.mpr ⟨fun _ => ?_, List.forall_mem_cons.mpr ⟨fun hsw => absurd hsw (by decide), List.forall_mem_cons.mpr ⟨fun hsw => absurd hsw (by decide), List.forall_mem_cons.mpr ⟨fun hsw => absurd hsw (by decide), List.forall_mem_cons.mpr ⟨fun hsw => absurd hsw (by decide), List.forall_mem_cons.mpr ⟨fun hsw => absurd hsw (by decide), fun _ h => absurd h List.not_mem_nil⟩⟩⟩⟩⟩⟩⟩⟩⟩⟩) (fun hsw => absurd hsw (by decide))
        refine ab_aload_n X 0 d_MA_step_142 rfl rfl ?_
        refine ab_callV (as := []) X (fun h => by cases h) (x_MA_takeNumber u (w :: t) sd h C (by show t.length + 1 ≤ 168; omega)) lk_MA_74 d_MA_step_143 rfl rfl (by first | assumption | decide | (show _ < 124; omega) | (show _ < 61; omega) | (show _ < 20; omega)) ⟨by first | exact Nat.le_of_ble_eq_true rfl | (simp only [ab_rm]; omega), by first | exact Nat.le_of_ble_eq_true rfl | (simp only [ab_rm]; omega)⟩ ⟨by first | exact Nat.le_of_ble_eq_true rfl | (simp only [ab_rm]; omega), by first | exact Nat.le_of_ble_eq_true rfl | (simp only [ab_rm]; omega)⟩ (Nat.le_of_ble_eq_true rfl) (fun u143 r143 h143 => ?_)
        obtain ⟨⟨z143, c143, g143⟩, rfl⟩ := h143
        have q143 := z143.1
        have P143 := P0.trans q143 (by decide)
        refine ab_if_ne X 210 d_MA_step_146 rfl (fun _ => ?_) (fun hb => absurd hb ((nI_n0 (n := w) (by omega) q0)))
        exact ab_retv X hr0 hlk d_MA_step_210 ⟨sQ.yes P143 (show stp hh aa x r (w :: t) sd = some (r, t, sd) by simp [stp, hx, q9, q0]) (g143.trans ((tn_n q8).trans e6)) (c143) (z143.2.trans e4), rfl⟩
set_option maxRecDepth 100000 in
set_option maxHeartbeats 1000000 in
theorem x_MA_st6 (u : ab_S) (st sd : List Nat) (h : CI u) (C : cM u st sd) (hh aa : Int32) (x a : Nat) (r : List Nat) (hL : st.length < 167) (hS : sd.length < 127) (e4 : u.1 7 0 4 = nI a) (e6 : u.1 7 0 6 = 0) (Wx : wX u a r) (G : gd x r st) (f0 : u.1 6 0 0 = 0) (f1 : u.1 6 0 1 = 0) (f2 : u.1 6 0 2 = hh) (f3 : u.1 6 0 3 = aa) (hx : x / 1000 = 6) : ab_C false l D ca y_MA_step b_MA_step 5 none 3 ab_nQ u [ab_O 7 0, ab_I (nI 6), ab_I (nI (x % 1000)), ab_O 5 0, ab_O 6 0] (fun u' w => sQ hh aa x r st sd a u u' ∧ w = none) := by
  refine ab_C.of (by decide) (Nat.le_of_ble_eq_true rfl) ?_
  intro p e s m args below meth c ad X hZ hr0 hlk
  have P0 : mQ u u := mQ.rf h
  cases st with
  | nil =>
    refine ab_iload_n X 1 d_MA_step_0 rfl rfl ?_
    refine ab_tsw X [(1, 84), (2, 92), (3, 115), (4, 115), (5, 142), (6, 157), (7, 157), (8, 157), (9, 176), (17, 196)] 204 d_MA_step_1 (by decide +kernel) rfl (List.forall_mem_cons.mpr ⟨fun hsw => absurd hsw (by decide), List.forall_mem_cons.mpr ⟨fun hsw => absurd hsw (by decide), List.forall_mem_cons.mpr ⟨fun hsw => absurd hsw (by decide), List.forall_mem_cons.mpr ⟨fun hsw => absurd hsw (by decide), List.forall_mem_cons.mpr ⟨fun hsw => absurd hsw (by decide), List.forall_mem_cons.mpr ⟨fun _ => ?_, List.forall_mem_cons.mpr ⟨fun hsw => absurd hsw (by decide), List.forall_mem_cons.mpr ⟨fun hsw => absurd hsw (by decide), List.forall_mem_cons.mpr ⟨fun hsw => absurd hsw (by decide), List.forall_mem_cons.mpr ⟨fun hsw => absurd hsw (by decide), fun _ h => absurd h List.not_mem_nil⟩⟩⟩⟩⟩⟩⟩⟩⟩⟩) (fun hsw => absurd hsw (by decide))
    refine ab_aload_n X 0 d_MA_step_157 rfl rfl ?_
    refine ab_iload_n X 1 d_MA_step_158 rfl rfl ?_
    refine ab_aload_n X 0 d_MA_step_159 rfl rfl ?_
    refine ab_callV (as := []) X (fun h => by cases h) (x_MA_takeNumber u [] sd h C (by decide)) lk_MA_74 d_MA_step_160 rfl rfl (by first | assumption | decide | (show _ < 124; omega) | (show _ < 61; omega) | (show _ < 20; omega)) ⟨by first | exact Nat.le_of_ble_eq_true rfl | (simp only [ab_rm]; omega), by first | exact Nat.le_of_ble_eq_true rfl | (simp only [ab_rm]; omega)⟩ ⟨by first | exact Nat.le_of_ble_eq_true rfl | (simp only [ab_rm]; omega), by first | exact Nat.le_of_ble_eq_true rfl | (simp only [ab_rm]; omega)⟩ (Nat.le_of_ble_eq_true rfl) (fun u160 r160 h160 => ?_)
    obtain ⟨⟨z160, c160, g160⟩, rfl⟩ := h160
    have q160 := z160.1
    have P160 := P0.trans q160 (by decide)
    refine ab_aload_n X 0 d_MA_step_163 rfl rfl ?_
    refine ab_callV (as := []) X (fun h => by cases h) (x_MA_takeNumber u160 [] sd P160.1 c160 (by first | decide | omega | (show t.length + 1 ≤ 168; omega))) lk_MA_74 d_MA_step_164 rfl rfl (by first | assumption | decide | (show _ < 124; omega) | (show _ < 61; omega) | (show _ < 20; omega)) ⟨by first | exact Nat.le_of_ble_eq_true rfl | (simp only [ab_rm]; omega), by first | exact Nat.le_of_ble_eq_true rfl | (simp only [ab_rm]; omega)⟩ ⟨by first | exact Nat.le_of_ble_eq_true rfl | (simp only [ab_rm]; omega), by first | exact Nat.le_of_ble_eq_true rfl | (simp only [ab_rm]; omega)⟩ (Nat.le_of_ble_eq_true rfl) (fun u164 r164 h164 => ?_)
    obtain ⟨⟨z164, c164, g164⟩, rfl⟩ := h164
    have q164 := z164.1
    have P164 := P160.trans q164 (by decide)
    refine ab_callS (as := [ab_I (nI 6), ab_I (nI 0), ab_I (nI 0)]) X (fun h => by cases h) (t_MA_joinedF u164 6 0 0 P164.1 (by decide) (by first | decide | omega) (by first | decide | omega)) ls_MA_77 d_MA_step_167 rfl rfl ⟨by first | exact Nat.le_of_ble_eq_true rfl | (simp only [ab_rm]; omega), by first | exact Nat.le_of_ble_eq_true rfl | (simp only [ab_rm]; omega)⟩ ⟨by first | exact Nat.le_of_ble_eq_true rfl | (simp only [ab_rm]; omega), by first | exact Nat.le_of_ble_eq_true rfl | (simp only [ab_rm]; omega)⟩ (Nat.le_of_ble_eq_true rfl) (fun u167 r167 h167 => ?_)
    obtain ⟨e167, rfl⟩ := h167
    subst u167
    refine ab_callV (as := [ab_I (nI (jnd 6 0 0))]) X (fun h => by cases h) (x_MA_push u164 (jnd 6 0 0) [] sd P164.1 c164 (by decide) (by first | decide | omega)) lk_MA_57 d_MA_step_170 rfl rfl (by first | assumption | decide | (show _ < 124; omega) | (show _ < 61; omega) | (show _ < 20; omega)) ⟨by first | exact Nat.le_of_ble_eq_true rfl | (simp only [ab_rm]; omega), by first | exact Nat.le_of_ble_eq_true rfl | (simp only [ab_rm]; omega)⟩ ⟨by first | exact Nat.le_of_ble_eq_true rfl | (simp only [ab_rm]; omega), by first | exact Nat.le_of_ble_eq_true rfl | (simp only [ab_rm]; omega)⟩ (Nat.le_of_ble_eq_true rfl) (fun u170 r170 h170 => ?_)
    obtain ⟨⟨z170, c170, g170⟩, rfl⟩ := h170
    have q170 := z170.1
    have P170 := P164.trans q170 (by decide)
    refine ab_goto X 210 d_MA_step_173 rfl ?_
    exact ab_retv X hr0 hlk d_MA_step_210 ⟨sQ.no P170 (show stp hh aa x r [] sd = none by simp [stp, hx]) (g170.trans (g164.trans tn_0)) (z170.2.trans (z164.2.trans (z160.2.trans e4))), rfl⟩
  | cons w t =>
    have hL : t.length + 1 < 167 := hL
    have hd : w < 2000 := C.1.2.1.2
    cases t with
    | nil =>
      refine ab_iload_n X 1 d_MA_step_0 rfl rfl ?_
      refine ab_tsw X [(1, 84), (2, 92), (3, 115), (4, 115), (5, 142), (6, 157), (7, 157), (8, 157), (9, 176), (17, 196)] 204 d_MA_step_1 (by decide +kernel) rfl (List.forall_mem_cons.mpr ⟨fun hsw => absurd hsw (by decide), List.forall_mem_cons.mpr ⟨fun hsw => absurd hsw (by decide), List.forall_mem_cons.mpr ⟨fun hsw => absurd hsw (by decide), List.forall_mem_cons.mpr ⟨fun hsw => absurd hsw (by decide), List.forall_mem_cons.mpr ⟨fun hsw => absurd hsw (by decide), List.forall_mem_cons.mpr ⟨fun _ => ?_, List.forall_mem_cons.mpr ⟨fun hsw => absurd hsw (by decide), List.forall_mem_cons.mpr ⟨fun hsw => absurd hsw (by decide), List.forall_mem_cons.mpr ⟨fun hsw => absurd hsw (by decide), List.forall_mem_cons.mpr ⟨fun hsw => absurd hsw (by decide), fun _ h => absurd h List.not_mem_nil⟩⟩⟩⟩⟩⟩⟩⟩⟩⟩) (fun hsw => absurd hsw (by decide))
      refine ab_aload_n X 0 d_MA_step_157 rfl rfl ?_
      refine ab_iload_n X 1 d_MA_step_158 rfl rfl ?_
      refine ab_aload_n X 0 d_MA_step_159 rfl rfl ?_
      refine ab_callV (as := []) X (fun h => by cases h) (x_MA_takeNumber u [w] sd h C (by show 1 ≤ 168; decide)) lk_MA_74 d_MA_step_160 rfl rfl (by first | assumption | decide | (show _ < 124; omega) | (show _ < 61; omega) | (show _ < 20; omega)) ⟨by first | exact Nat.le_of_ble_eq_true rfl | (simp only [ab_rm]; omega), by first | exact Nat.le_of_ble_eq_true rfl | (simp only [ab_rm]; omega)⟩ ⟨by first | exact Nat.le_of_ble_eq_true rfl | (simp only [ab_rm]; omega), by first | exact Nat.le_of_ble_eq_true rfl | (simp only [ab_rm]; omega)⟩ (Nat.le_of_ble_eq_true rfl) (fun u160 r160 h160 => ?_)
      obtain ⟨⟨z160, c160, g160⟩, rfl⟩ := h160
      have q160 := z160.1
      have P160 := P0.trans q160 (by decide)
      refine ab_aload_n X 0 d_MA_step_163 rfl rfl ?_
      refine ab_callV (as := []) X (fun h => by cases h) (x_MA_takeNumber u160 [] sd P160.1 c160 (by first | decide | omega | (show t.length + 1 ≤ 168; omega))) lk_MA_74 d_MA_step_164 rfl rfl (by first | assumption | decide | (show _ < 124; omega) | (show _ < 61; omega) | (show _ < 20; omega)) ⟨by first | exact Nat.le_of_ble_eq_true rfl | (simp only [ab_rm]; omega), by first | exact Nat.le_of_ble_eq_true rfl | (simp only [ab_rm]; omega)⟩ ⟨by first | exact Nat.le_of_ble_eq_true rfl | (simp only [ab_rm]; omega), by first | exact Nat.le_of_ble_eq_true rfl | (simp only [ab_rm]; omega)⟩ (Nat.le_of_ble_eq_true rfl) (fun u164 r164 h164 => ?_)
      obtain ⟨⟨z164, c164, g164⟩, rfl⟩ := h164
      have q164 := z164.1
      have P164 := P160.trans q164 (by decide)
      refine ab_callS (as := [ab_I (nI 6), ab_I (nI w), ab_I (nI 0)]) X (fun h => by cases h) (t_MA_joinedF u164 6 w 0 P164.1 (by decide) (by first | decide | omega) (by first | decide | omega)) ls_MA_77 d_MA_step_167 rfl rfl ⟨by first | exact Nat.le_of_ble_eq_true rfl | (simp only [ab_rm]; omega), by first | exact Nat.le_of_ble_eq_true rfl | (simp only [ab_rm]; omega)⟩ ⟨by first | exact Nat.le_of_ble_eq_true rfl | (simp only [ab_rm]; omega), by first | exact Nat.le_of_ble_eq_true rfl | (simp only [ab_rm]; omega)⟩ (Nat.le_of_ble_eq_true rfl) (fun u167 r167 h167 => ?_)
      obtain ⟨e167, rfl⟩ := h167
      subst u167
      refine ab_callV (as := [ab_I (nI (jnd 6 w 0))]) X (fun h => by cases h) (x_MA_push u164 (jnd 6 w 0) [] sd P164.1 c164 (jnd_b0 hd) (by first | decide | omega)) lk_MA_57 d_MA_step_170 rfl rfl (by first | assumption | decide | (show _ < 124; omega) | (show _ < 61; omega) | (show _ < 20; omega)) ⟨by first | exact Nat.le_of_ble_eq_true rfl | (simp only [ab_rm]; omega), by first | exact Nat.le_of_ble_eq_true rfl | (simp only [ab_rm]; omega)⟩ ⟨by first | exact Nat.le_of_ble_eq_true rfl | (simp only [ab_rm]; omega), by first | exact Nat.le_of_ble_eq_true rfl | (simp only [ab_rm]; omega)⟩ (Nat.le_of_ble_eq_true rfl) (fun u170 r170 h170 => ?_)
      obtain ⟨⟨z170, c170, g170⟩, rfl⟩ := h170
      have q170 := z170.1
      have P170 := P164.trans q170 (by decide)
      refine ab_goto X 210 d_MA_step_173 rfl ?_
      exact ab_retv X hr0 hlk d_MA_step_210 ⟨sQ.no P170 (show stp hh aa x r [w] sd = none by simp [stp, hx]) (g170.trans (g164.trans tn_0)) (z170.2.trans (z164.2.trans (z160.2.trans e4))), rfl⟩
    | cons y t =>
      have hL : t.length + 1 + 1 < 167 := hL
      have hy : y < 2000 := C.1.2.2.1.2
      by_cases q9 : 9 < w
      ·
        refine ab_iload_n X 1 d_MA_step_0 rfl rfl ?_
        refine ab_tsw X [(1, 84), (2, 92), (3, 115), (4, 115), (5, 142), (6, 157), (7, 157), (8, 157), (9, 176), (17, 196)] 204 d_MA_step_1 (by decide +kernel) rfl (List.forall_mem_cons.mpr ⟨fun hsw => absurd hsw (by decide), List.forall_mem_cons.mpr ⟨fun hsw => absurd hsw (by decide), List.forall_mem_cons.mpr ⟨fun hsw => absurd hsw (by decide), List.forall_mem_cons.mpr ⟨fun hsw => absurd hsw (by decide), List.forall_mem_cons.mpr ⟨fun hsw => absurd hsw (by decide), List.forall_mem_cons.mpr ⟨fun _ => ?_, List.forall_mem_cons.mpr ⟨fun hsw => absurd hsw (by decide), List.forall_mem_cons.mpr ⟨fun hsw => absurd hsw (by decide), List.forall_mem_cons.mpr ⟨fun hsw => absurd hsw (by decide), List.forall_mem_cons.mpr ⟨fun hsw => absurd hsw (by decide), fun _ h => absurd h List.not_mem_nil⟩⟩⟩⟩⟩⟩⟩⟩⟩⟩) (fun hsw => absurd hsw (by decide))
        refine ab_aload_n X 0 d_MA_step_157 rfl rfl ?_
        refine ab_iload_n X 1 d_MA_step_158 rfl rfl ?_
        refine ab_aload_n X 0 d_MA_step_159 rfl rfl ?_
        refine ab_callV (as := []) X (fun h => by cases h) (x_MA_takeNumber u (w :: y :: t) sd h C (by show t.length + 1 + 1 ≤ 168; omega)) lk_MA_74 d_MA_step_160 rfl rfl (by first | assumption | decide | (show _ < 124; omega) | (show _ < 61; omega) | (show _ < 20; omega)) ⟨by first | exact Nat.le_of_ble_eq_true rfl | (simp only [ab_rm]; omega), by first | exact Nat.le_of_ble_eq_true rfl | (simp only [ab_rm]; omega)⟩ ⟨by first | exact Nat.le_of_ble_eq_true rfl | (simp only [ab_rm]; omega), by first | exact Nat.le_of_ble_eq_true rfl | (simp only [ab_rm]; omega)⟩ (Nat.le_of_ble_eq_true rfl) (fun u160 r160 h160 => ?_)
        obtain ⟨⟨z160, c160, g160⟩, rfl⟩ := h160
        have q160 := z160.1
        have P160 := P0.trans q160 (by decide)
        refine ab_aload_n X 0 d_MA_step_163 rfl rfl ?_
        refine ab_callV (as := []) X (fun h => by cases h) (x_MA_takeNumber u160 (y :: t) sd P160.1 c160 (by first | decide | omega | (show t.length + 1 ≤ 168; omega))) lk_MA_74 d_MA_step_164 rfl rfl (by first | assumption | decide | (show _ < 124; omega) | (show _ < 61; omega) | (show _ < 20; omega)) ⟨by first | exact Nat.le_of_ble_eq_true rfl | (simp only [ab_rm]; omega), by first | exact Nat.le_of_ble_eq_true rfl | (simp only [ab_rm]; omega)⟩ ⟨by first | exact Nat.le_of_ble_eq_true rfl | (simp only [ab_rm]; omega), by first | exact Nat.le_of_ble_eq_true rfl | (simp only [ab_rm]; omega)⟩ (Nat.le_of_ble_eq_true rfl) (fun u164 r164 h164 => ?_)
        obtain ⟨⟨z164, c164, g164⟩, rfl⟩ := h164
        have q164 := z164.1
        have P164 := P160.trans q164 (by decide)
        refine ab_callS (as := [ab_I (nI 6), ab_I (nI w), ab_I (nI y)]) X (fun h => by cases h) (t_MA_joinedF u164 6 w y P164.1 (by decide) (by first | decide | omega) (by first | decide | omega)) ls_MA_77 d_MA_step_167 rfl rfl ⟨by first | exact Nat.le_of_ble_eq_true rfl | (simp only [ab_rm]; omega), by first | exact Nat.le_of_ble_eq_true rfl | (simp only [ab_rm]; omega)⟩ ⟨by first | exact Nat.le_of_ble_eq_true rfl | (simp only [ab_rm]; omega), by first | exact Nat.le_of_ble_eq_true rfl | (simp only [ab_rm]; omega)⟩ (Nat.le_of_ble_eq_true rfl) (fun u167 r167 h167 => ?_)
        obtain ⟨e167, rfl⟩ := h167
        subst u167
        refine ab_callV (as := [ab_I (nI (jnd 6 w y))]) X (fun h => by cases h) (x_MA_pushX u164 (nI (jnd 6 w y)) t sd P164.1 c164 (by omega)) lk_MA_57 d_MA_step_170 rfl rfl (by first | assumption | decide | (show _ < 124; omega) | (show _ < 61; omega) | (show _ < 20; omega)) ⟨by first | exact Nat.le_of_ble_eq_true rfl | (simp only [ab_rm]; omega), by first | exact Nat.le_of_ble_eq_true rfl | (simp only [ab_rm]; omega)⟩ ⟨by first | exact Nat.le_of_ble_eq_true rfl | (simp only [ab_rm]; omega), by first | exact Nat.le_of_ble_eq_true rfl | (simp only [ab_rm]; omega)⟩ (Nat.le_of_ble_eq_true rfl) (fun u170 r170 h170 => ?_)
        obtain ⟨⟨z170, g170⟩, rfl⟩ := h170
        have q170 := z170.1
        have P170 := P164.trans q170 (by decide)
        refine ab_goto X 210 d_MA_step_173 rfl ?_
        exact ab_retv X hr0 hlk d_MA_step_210 ⟨sQ.no P170 (show stp hh aa x r (w :: y :: t) sd = none by simp [stp, hx, q9]) (g170.trans (g164.trans (tn_1 (g160.trans (tn_y q9))))) (z170.2.trans (z164.2.trans (z160.2.trans e4))), rfl⟩
      · by_cases y9 : 9 < y
        ·
          refine ab_iload_n X 1 d_MA_step_0 rfl rfl ?_
          refine ab_tsw X [(1, 84), (2, 92), (3, 115), (4, 115), (5, 142), (6, 157), (7, 157), (8, 157), (9, 176), (17, 196)] 204 d_MA_step_1 (by decide +kernel) rfl (List.forall_mem_cons.mpr ⟨fun hsw => absurd hsw (by decide), List.forall_mem_cons.mpr ⟨fun hsw => absurd hsw (by decide), List.forall_mem_cons.mpr ⟨fun hsw => absurd hsw (by decide), List.forall_mem_cons.mpr ⟨fun hsw => absurd hsw (by decide), List.forall_mem_cons.mpr ⟨fun hsw => absurd hsw (by decide), List.forall_mem_cons.mpr ⟨fun _ => ?_, List.forall_mem_cons.mpr ⟨fun hsw => absurd hsw (by decide), List.forall_mem_cons.mpr ⟨fun hsw => absurd hsw (by decide), List.forall_mem_cons.mpr ⟨fun hsw => absurd hsw (by decide), List.forall_mem_cons.mpr ⟨fun hsw => absurd hsw (by decide), fun _ h => absurd h List.not_mem_nil⟩⟩⟩⟩⟩⟩⟩⟩⟩⟩) (fun hsw => absurd hsw (by decide))
          refine ab_aload_n X 0 d_MA_step_157 rfl rfl ?_
          refine ab_iload_n X 1 d_MA_step_158 rfl rfl ?_
          refine ab_aload_n X 0 d_MA_step_159 rfl rfl ?_
          refine ab_callV (as := []) X (fun h => by cases h) (x_MA_takeNumber u (w :: y :: t) sd h C (by show t.length + 1 + 1 ≤ 168; omega)) lk_MA_74 d_MA_step_160 rfl rfl (by first | assumption | decide | (show _ < 124; omega) | (show _ < 61; omega) | (show _ < 20; omega)) ⟨by first | exact Nat.le_of_ble_eq_true rfl | (simp only [ab_rm]; omega), by first | exact Nat.le_of_ble_eq_true rfl | (simp only [ab_rm]; omega)⟩ ⟨by first | exact Nat.le_of_ble_eq_true rfl | (simp only [ab_rm]; omega), by first | exact Nat.le_of_ble_eq_true rfl | (simp only [ab_rm]; omega)⟩ (Nat.le_of_ble_eq_true rfl) (fun u160 r160 h160 => ?_)
          obtain ⟨⟨z160, c160, g160⟩, rfl⟩ := h160
          have q160 := z160.1
          have P160 := P0.trans q160 (by decide)
          refine ab_aload_n X 0 d_MA_step_163 rfl rfl ?_
          refine ab_callV (as := []) X (fun h => by cases h) (x_MA_takeNumber u160 (y :: t) sd P160.1 c160 (by first | decide | omega | (show t.length + 1 ≤ 168; omega))) lk_MA_74 d_MA_step_164 rfl rfl (by first | assumption | decide | (show _ < 124; omega) | (show _ < 61; omega) | (show _ < 20; omega)) ⟨by first | exact Nat.le_of_ble_eq_true rfl | (simp only [ab_rm]; omega), by first | exact Nat.le_of_ble_eq_true rfl | (simp only [ab_rm]; omega)⟩ ⟨by first | exact Nat.le_of_ble_eq_true rfl | (simp only [ab_rm]; omega), by first | exact Nat.le_of_ble_eq_true rfl | (simp only [ab_rm]; omega)⟩ (Nat.le_of_ble_eq_true rfl) (fun u164 r164 h164 => ?_)
          obtain ⟨⟨z164, c164, g164⟩, rfl⟩ := h164
          have q164 := z164.1
          have P164 := P160.trans q164 (by decide)
          refine ab_callS (as := [ab_I (nI 6), ab_I (nI w), ab_I (nI y)]) X (fun h => by cases h) (t_MA_joinedF u164 6 w y P164.1 (by decide) (by first | decide | omega) (by first | decide | omega)) ls_MA_77 d_MA_step_167 rfl rfl ⟨by first | exact Nat.le_of_ble_eq_true rfl | (simp only [ab_rm]; omega), by first | exact Nat.le_of_ble_eq_true rfl | (simp only [ab_rm]; omega)⟩ ⟨by first | exact Nat.le_of_ble_eq_true rfl | (simp only [ab_rm]; omega), by first | exact Nat.le_of_ble_eq_true rfl | (simp only [ab_rm]; omega)⟩ (Nat.le_of_ble_eq_true rfl) (fun u167 r167 h167 => ?_)
          obtain ⟨e167, rfl⟩ := h167
          subst u167
          refine ab_callV (as := [ab_I (nI (jnd 6 w y))]) X (fun h => by cases h) (x_MA_pushX u164 (nI (jnd 6 w y)) t sd P164.1 c164 (by omega)) lk_MA_57 d_MA_step_170 rfl rfl (by first | assumption | decide | (show _ < 124; omega) | (show _ < 61; omega) | (show _ < 20; omega)) ⟨by first | exact Nat.le_of_ble_eq_true rfl | (simp only [ab_rm]; omega), by first | exact Nat.le_of_ble_eq_true rfl | (simp only [ab_rm]; omega)⟩ ⟨by first | exact Nat.le_of_ble_eq_true rfl | (simp only [ab_rm]; omega), by first | exact Nat.le_of_ble_eq_true rfl | (simp only [ab_rm]; omega)⟩ (Nat.le_of_ble_eq_true rfl) (fun u170 r170 h170 => ?_)
          obtain ⟨⟨z170, g170⟩, rfl⟩ := h170
          have q170 := z170.1
          have P170 := P164.trans q170 (by decide)
          refine ab_goto X 210 d_MA_step_173 rfl ?_
          exact ab_retv X hr0 hlk d_MA_step_210 ⟨sQ.no P170 (show stp hh aa x r (w :: y :: t) sd = none by simp [stp, hx, q9, y9]) (g170.trans (g164.trans (tn_y y9))) (z170.2.trans (z164.2.trans (z160.2.trans e4))), rfl⟩
        · have w9 : w ≤ 9 := by omega
          have v9 : y ≤ 9 := by omega
          refine ab_iload_n X 1 d_MA_step_0 rfl rfl ?_
          refine ab_tsw X [(1, 84), (2, 92), (3, 115), (4, 115), (5, 142), (6, 157), (7, 157), (8, 157), (9, 176), (17, 196)] 204 d_MA_step_1 (by decide +kernel) rfl (List.forall_mem_cons.mpr ⟨fun hsw => absurd hsw (by decide), List.forall_mem_cons.mpr ⟨fun hsw => absurd hsw (by decide), List.forall_mem_cons.mpr ⟨fun hsw => absurd hsw (by decide), List.forall_mem_cons.mpr ⟨fun hsw => absurd hsw (by decide), List.forall_mem_cons.mpr ⟨fun hsw => absurd hsw (by decide), List.forall_mem_cons.mpr ⟨fun _ => ?_, List.forall_mem_cons.mpr ⟨fun hsw => absurd hsw (by decide), List.forall_mem_cons.mpr ⟨fun hsw => absurd hsw (by decide), List.forall_mem_cons.mpr ⟨fun hsw => absurd hsw (by decide), List.forall_mem_cons.mpr ⟨fun hsw => absurd hsw (by decide), fun _ h => absurd h List.not_mem_nil⟩⟩⟩⟩⟩⟩⟩⟩⟩⟩) (fun hsw => absurd hsw (by decide))
          refine ab_aload_n X 0 d_MA_step_157 rfl rfl ?_
          refine ab_iload_n X 1 d_MA_step_158 rfl rfl ?_
          refine ab_aload_n X 0 d_MA_step_159 rfl rfl ?_
          refine ab_callV (as := []) X (fun h => by cases h) (x_MA_takeNumber u (w :: y :: t) sd h C (by show t.length + 1 + 1 ≤ 168; omega)) lk_MA_74 d_MA_step_160 rfl rfl (by first | assumption | decide | (show _ < 124; omega) | (show _ < 61; omega) | (show _ < 20; omega)) ⟨by first | exact Nat.le_of_ble_eq_true rfl | (simp only [ab_rm]; omega), by first | exact Nat.le_of_ble_eq_true rfl | (simp only [ab_rm]; omega)⟩ ⟨by first | exact Nat.le_of_ble_eq_true rfl | (simp only [ab_rm]; omega), by first | exact Nat.le_of_ble_eq_true rfl | (simp only [ab_rm]; omega)⟩ (Nat.le_of_ble_eq_true rfl) (fun u160 r160 h160 => ?_)
          obtain ⟨⟨z160, c160, g160⟩, rfl⟩ := h160
          have q160 := z160.1
          have P160 := P0.trans q160 (by decide)
          refine ab_aload_n X 0 d_MA_step_163 rfl rfl ?_
          refine ab_callV (as := []) X (fun h => by cases h) (x_MA_takeNumber u160 (y :: t) sd P160.1 c160 (by first | decide | omega | (show t.length + 1 ≤ 168; omega))) lk_MA_74 d_MA_step_164 rfl rfl (by first | assumption | decide | (show _ < 124; omega) | (show _ < 61; omega) | (show _ < 20; omega)) ⟨by first | exact Nat.le_of_ble_eq_true rfl | (simp only [ab_rm]; omega), by first | exact Nat.le_of_ble_eq_true rfl | (simp only [ab_rm]; omega)⟩ ⟨by first | exact Nat.le_of_ble_eq_true rfl | (simp only [ab_rm]; omega), by first | exact Nat.le_of_ble_eq_true rfl | (simp only [ab_rm]; omega)⟩ (Nat.le_of_ble_eq_true rfl) (fun u164 r164 h164 => ?_)
          obtain ⟨⟨z164, c164, g164⟩, rfl⟩ := h164
          have q164 := z164.1
          have P164 := P160.trans q164 (by decide)
          refine ab_callS (as := [ab_I (nI 6), ab_I (nI w), ab_I (nI y)]) X (fun h => by cases h) (t_MA_joinedF u164 6 w y P164.1 (by decide) (by first | decide | omega) (by first | decide | omega)) ls_MA_77 d_MA_step_167 rfl rfl ⟨by first | exact Nat.le_of_ble_eq_true rfl | (simp only [ab_rm]; omega), by first | exact Nat.le_of_ble_eq_true rfl | (simp only [ab_rm]; omega)⟩ ⟨by first | exact Nat.le_of_ble_eq_true rfl | (simp only [ab_rm]; omega), by first | exact Nat.le_of_ble_eq_true rfl | (simp only [ab_rm]; omega)⟩ (Nat.le_of_ble_eq_true rfl) (fun u167 r167 h167 => ?_)
          obtain ⟨e167, rfl⟩ := h167
          subst u167
          refine ab_callV (as := [ab_I (nI (jnd 6 w y))]) X (fun h => by cases h) (x_MA_push u164 (jnd 6 w y) t sd P164.1 c164 (jnd_lt w9 v9) (by first | decide | omega)) lk_MA_57 d_MA_step_170 rfl rfl (by first | assumption | decide | (show _ < 124; omega) | (show _ < 61; omega) | (show _ < 20; omega)) ⟨by first | exact Nat.le_of_ble_eq_true rfl | (simp only [ab_rm]; omega), by first | exact Nat.le_of_ble_eq_true rfl | (simp only [ab_rm]; omega)⟩ ⟨by first | exact Nat.le_of_ble_eq_true rfl | (simp only [ab_rm]; omega), by first | exact Nat.le_of_ble_eq_true rfl | (simp only [ab_rm]; omega)⟩ (Nat.le_of_ble_eq_true rfl) (fun u170 r170 h170 => ?_)
          obtain ⟨⟨z170, c170, g170⟩, rfl⟩ := h170
          have q170 := z170.1
          have P170 := P164.trans q170 (by decide)
          refine ab_goto X 210 d_MA_step_173 rfl ?_
          exact ab_retv X hr0 hlk d_MA_step_210 ⟨sQ.yes P170 (show stp hh aa x r (w :: y :: t) sd = some (r, jnd 6 w y :: t, sd) by simp [stp, hx, q9, y9]) (g170.trans (g164.trans ((tn_n v9).trans (g160.trans ((tn_n w9).trans e6))))) (c170) (z170.2.trans (z164.2.trans (z160.2.trans e4))), rfl⟩
set_option maxRecDepth 100000 in
set_option maxHeartbeats 1000000 in
theorem x_MA_st7 (u : ab_S) (st sd : List Nat) (h : CI u) (C : cM u st sd) (hh aa : Int32) (x a : Nat) (r : List Nat) (hL : st.length < 167) (hS : sd.length < 127) (e4 : u.1 7 0 4 = nI a) (e6 : u.1 7 0 6 = 0) (Wx : wX u a r) (G : gd x r st) (f0 : u.1 6 0 0 = 0) (f1 : u.1 6 0 1 = 0) (f2 : u.1 6 0 2 = hh) (f3 : u.1 6 0 3 = aa) (hx : x / 1000 = 7) : ab_C false l D ca y_MA_step b_MA_step 5 none 3 ab_nQ u [ab_O 7 0, ab_I (nI 7), ab_I (nI (x % 1000)), ab_O 5 0, ab_O 6 0] (fun u' w => sQ hh aa x r st sd a u u' ∧ w = none) := by
  refine ab_C.of (by decide) (Nat.le_of_ble_eq_true rfl) ?_
  intro p e s m args below meth c ad X hZ hr0 hlk
  have P0 : mQ u u := mQ.rf h
  cases st with
  | nil =>
    refine ab_iload_n X 1 d_MA_step_0 rfl rfl ?_
    refine ab_tsw X [(1, 84), (2, 92), (3, 115), (4, 115), (5, 142), (6, 157), (7, 157), (8, 157), (9, 176), (17, 196)] 204 d_MA_step_1 (by decide +kernel) rfl (List.forall_mem_cons.mpr ⟨fun hsw => absurd hsw (by decide), List.forall_mem_cons.mpr ⟨fun hsw => absurd hsw (by decide), List.forall_mem_cons.mpr ⟨fun hsw => absurd hsw (by decide), List.forall_mem_cons.mpr ⟨fun hsw => absurd hsw (by decide), List.forall_mem_cons.mpr ⟨fun hsw => absurd hsw (by decide), List.forall_mem_cons.mpr ⟨fun hsw => absurd hsw (by decide), List.forall_mem_cons.mpr ⟨fun _ => ?_, List.forall_mem_cons.mpr ⟨fun hsw => absurd hsw (by decide), List.forall_mem_cons.mpr ⟨fun hsw => absurd hsw (by decide), List.forall_mem_cons.mpr ⟨fun hsw => absurd hsw (by decide), fun _ h => absurd h List.not_mem_nil⟩⟩⟩⟩⟩⟩⟩⟩⟩⟩) (fun hsw => absurd hsw (by decide))
    refine ab_aload_n X 0 d_MA_step_157 rfl rfl ?_
    refine ab_iload_n X 1 d_MA_step_158 rfl rfl ?_
    refine ab_aload_n X 0 d_MA_step_159 rfl rfl ?_
    refine ab_callV (as := []) X (fun h => by cases h) (x_MA_takeNumber u [] sd h C (by decide)) lk_MA_74 d_MA_step_160 rfl rfl (by first | assumption | decide | (show _ < 124; omega) | (show _ < 61; omega) | (show _ < 20; omega)) ⟨by first | exact Nat.le_of_ble_eq_true rfl | (simp only [ab_rm]; omega), by first | exact Nat.le_of_ble_eq_true rfl | (simp only [ab_rm]; omega)⟩ ⟨by first | exact Nat.le_of_ble_eq_true rfl | (simp only [ab_rm]; omega), by first | exact Nat.le_of_ble_eq_true rfl | (simp only [ab_rm]; omega)⟩ (Nat.le_of_ble_eq_true rfl) (fun u160 r160 h160 => ?_)
    obtain ⟨⟨z160, c160, g160⟩, rfl⟩ := h160
    have q160 := z160.1
    have P160 := P0.trans q160 (by decide)
    refine ab_aload_n X 0 d_MA_step_163 rfl rfl ?_
    refine ab_callV (as := []) X (fun h => by cases h) (x_MA_takeNumber u160 [] sd P160.1 c160 (by first | decide | omega | (show t.length + 1 ≤ 168; omega))) lk_MA_74 d_MA_step_164 rfl rfl (by first | assumption | decide | (show _ < 124; omega) | (show _ < 61; omega) | (show _ < 20; omega)) ⟨by first | exact Nat.le_of_ble_eq_true rfl | (simp only [ab_rm]; omega), by first | exact Nat.le_of_ble_eq_true rfl | (simp only [ab_rm]; omega)⟩ ⟨by first | exact Nat.le_of_ble_eq_true rfl | (simp only [ab_rm]; omega), by first | exact Nat.le_of_ble_eq_true rfl | (simp only [ab_rm]; omega)⟩ (Nat.le_of_ble_eq_true rfl) (fun u164 r164 h164 => ?_)
    obtain ⟨⟨z164, c164, g164⟩, rfl⟩ := h164
    have q164 := z164.1
    have P164 := P160.trans q164 (by decide)
    refine ab_callS (as := [ab_I (nI 7), ab_I (nI 0), ab_I (nI 0)]) X (fun h => by cases h) (t_MA_joinedF u164 7 0 0 P164.1 (by decide) (by first | decide | omega) (by first | decide | omega)) ls_MA_77 d_MA_step_167 rfl rfl ⟨by first | exact Nat.le_of_ble_eq_true rfl | (simp only [ab_rm]; omega), by first | exact Nat.le_of_ble_eq_true rfl | (simp only [ab_rm]; omega)⟩ ⟨by first | exact Nat.le_of_ble_eq_true rfl | (simp only [ab_rm]; omega), by first | exact Nat.le_of_ble_eq_true rfl | (simp only [ab_rm]; omega)⟩ (Nat.le_of_ble_eq_true rfl) (fun u167 r167 h167 => ?_)
    obtain ⟨e167, rfl⟩ := h167
    subst u167
    refine ab_callV (as := [ab_I (nI (jnd 7 0 0))]) X (fun h => by cases h) (x_MA_push u164 (jnd 7 0 0) [] sd P164.1 c164 (by decide) (by first | decide | omega)) lk_MA_57 d_MA_step_170 rfl rfl (by first | assumption | decide | (show _ < 124; omega) | (show _ < 61; omega) | (show _ < 20; omega)) ⟨by first | exact Nat.le_of_ble_eq_true rfl | (simp only [ab_rm]; omega), by first | exact Nat.le_of_ble_eq_true rfl | (simp only [ab_rm]; omega)⟩ ⟨by first | exact Nat.le_of_ble_eq_true rfl | (simp only [ab_rm]; omega), by first | exact Nat.le_of_ble_eq_true rfl | (simp only [ab_rm]; omega)⟩ (Nat.le_of_ble_eq_true rfl) (fun u170 r170 h170 => ?_)
    obtain ⟨⟨z170, c170, g170⟩, rfl⟩ := h170
    have q170 := z170.1
    have P170 := P164.trans q170 (by decide)
    refine ab_goto X 210 d_MA_step_173 rfl ?_
    exact ab_retv X hr0 hlk d_MA_step_210 ⟨sQ.no P170 (show stp hh aa x r [] sd = none by simp [stp, hx]) (g170.trans (g164.trans tn_0)) (z170.2.trans (z164.2.trans (z160.2.trans e4))), rfl⟩
  | cons w t =>
    have hL : t.length + 1 < 167 := hL
    have hd : w < 2000 := C.1.2.1.2
    cases t with
    | nil =>
      refine ab_iload_n X 1 d_MA_step_0 rfl rfl ?_
      refine ab_tsw X [(1, 84), (2, 92), (3, 115), (4, 115), (5, 142), (6, 157), (7, 157), (8, 157), (9, 176), (17, 196)] 204 d_MA_step_1 (by decide +kernel) rfl (List.forall_mem_cons.mpr ⟨fun hsw => absurd hsw (by decide), List.forall_mem_cons.mpr ⟨fun hsw => absurd hsw (by decide), List.forall_mem_cons.mpr ⟨fun hsw => absurd hsw (by decide), List.forall_mem_cons.mpr ⟨fun hsw => absurd hsw (by decide), List.forall_mem_cons.mpr ⟨fun hsw => absurd hsw (by decide), List.forall_mem_cons.mpr ⟨fun hsw => absurd hsw (by decide), List.forall_mem_cons.mpr ⟨fun _ => ?_, List.forall_mem_cons.mpr ⟨fun hsw => absurd hsw (by decide), List.forall_mem_cons.mpr ⟨fun hsw => absurd hsw (by decide), List.forall_mem_cons.mpr ⟨fun hsw => absurd hsw (by decide), fun _ h => absurd h List.not_mem_nil⟩⟩⟩⟩⟩⟩⟩⟩⟩⟩) (fun hsw => absurd hsw (by decide))
      refine ab_aload_n X 0 d_MA_step_157 rfl rfl ?_
      refine ab_iload_n X 1 d_MA_step_158 rfl rfl ?_
      refine ab_aload_n X 0 d_MA_step_159 rfl rfl ?_
      refine ab_callV (as := []) X (fun h => by cases h) (x_MA_takeNumber u [w] sd h C (by show 1 ≤ 168; decide)) lk_MA_74 d_MA_step_160 rfl rfl (by first | assumption | decide | (show _ < 124; omega) | (show _ < 61; omega) | (show _ < 20; omega)) ⟨by first | exact Nat.le_of_ble_eq_true rfl | (simp only [ab_rm]; omega), by first | exact Nat.le_of_ble_eq_true rfl | (simp only [ab_rm]; omega)⟩ ⟨by first | exact Nat.le_of_ble_eq_true rfl | (simp only [ab_rm]; omega), by first | exact Nat.le_of_ble_eq_true rfl | (simp only [ab_rm]; omega)⟩ (Nat.le_of_ble_eq_true rfl) (fun u160 r160 h160 => ?_)
      obtain ⟨⟨z160, c160, g160⟩, rfl⟩ := h160
      have q160 := z160.1
      have P160 := P0.trans q160 (by decide)
      refine ab_aload_n X 0 d_MA_step_163 rfl rfl ?_
      refine ab_callV (as := []) X (fun h => by cases h) (x_MA_takeNumber u160 [] sd P160.1 c160 (by first | decide | omega | (show t.length + 1 ≤ 168; omega))) lk_MA_74 d_MA_step_164 rfl rfl (by first | assumption | decide | (show _ < 124; omega) | (show _ < 61; omega) | (show _ < 20; omega)) ⟨by first | exact Nat.le_of_ble_eq_true rfl | (simp only [ab_rm]; omega), by first | exact Nat.le_of_ble_eq_true rfl | (simp only [ab_rm]; omega)⟩ ⟨by first | exact Nat.le_of_ble_eq_true rfl | (simp only [ab_rm]; omega), by first | exact Nat.le_of_ble_eq_true rfl | (simp only [ab_rm]; omega)⟩ (Nat.le_of_ble_eq_true rfl) (fun u164 r164 h164 => ?_)
      obtain ⟨⟨z164, c164, g164⟩, rfl⟩ := h164
      have q164 := z164.1
      have P164 := P160.trans q164 (by decide)
      refine ab_callS (as := [ab_I (nI 7), ab_I (nI w), ab_I (nI 0)]) X (fun h => by cases h) (t_MA_joinedF u164 7 w 0 P164.1 (by decide) (by first | decide | omega) (by first | decide | omega)) ls_MA_77 d_MA_step_167 rfl rfl ⟨by first | exact Nat.le_of_ble_eq_true rfl | (simp only [ab_rm]; omega), by first | exact Nat.le_of_ble_eq_true rfl | (simp only [ab_rm]; omega)⟩ ⟨by first | exact Nat.le_of_ble_eq_true rfl | (simp only [ab_rm]; omega), by first | exact Nat.le_of_ble_eq_true rfl | (simp only [ab_rm]; omega)⟩ (Nat.le_of_ble_eq_true rfl) (fun u167 r167 h167 => ?_)
      obtain ⟨e167, rfl⟩ := h167
      subst u167
      refine ab_callV (as := [ab_I (nI (jnd 7 w 0))]) X (fun h => by cases h) (x_MA_push u164 (jnd 7 w 0) [] sd P164.1 c164 (jnd_b0 hd) (by first | decide | omega)) lk_MA_57 d_MA_step_170 rfl rfl (by first | assumption | decide | (show _ < 124; omega) | (show _ < 61; omega) | (show _ < 20; omega)) ⟨by first | exact Nat.le_of_ble_eq_true rfl | (simp only [ab_rm]; omega), by first | exact Nat.le_of_ble_eq_true rfl | (simp only [ab_rm]; omega)⟩ ⟨by first | exact Nat.le_of_ble_eq_true rfl | (simp only [ab_rm]; omega), by first | exact Nat.le_of_ble_eq_true rfl | (simp only [ab_rm]; omega)⟩ (Nat.le_of_ble_eq_true rfl) (fun u170 r170 h170 => ?_)
      obtain ⟨⟨z170, c170, g170⟩, rfl⟩ := h170
      have q170 := z170.1
      have P170 := P164.trans q170 (by decide)
      refine ab_goto X 210 d_MA_step_173 rfl ?_
      exact ab_retv X hr0 hlk d_MA_step_210 ⟨sQ.no P170 (show stp hh aa x r [w] sd = none by simp [stp, hx]) (g170.trans (g164.trans tn_0)) (z170.2.trans (z164.2.trans (z160.2.trans e4))), rfl⟩
    | cons y t =>
      have hL : t.length + 1 + 1 < 167 := hL
      have hy : y < 2000 := C.1.2.2.1.2
      by_cases q9 : 9 < w
      ·
        refine ab_iload_n X 1 d_MA_step_0 rfl rfl ?_
        refine ab_tsw X [(1, 84), (2, 92), (3, 115), (4, 115), (5, 142), (6, 157), (7, 157), (8, 157), (9, 176), (17, 196)] 204 d_MA_step_1 (by decide +kernel) rfl (List.forall_mem_cons.mpr ⟨fun hsw => absurd hsw (by decide), List.forall_mem_cons.mpr ⟨fun hsw => absurd hsw (by decide), List.forall_mem_cons.mpr ⟨fun hsw => absurd hsw (by decide), List.forall_mem_cons.mpr ⟨fun hsw => absurd hsw (by decide), List.forall_mem_cons.mpr ⟨fun hsw => absurd hsw (by decide), List.forall_mem_cons.mpr ⟨fun hsw => absurd hsw (by decide), List.forall_mem_cons.mpr ⟨fun _ => ?_, List.forall_mem_cons.mpr ⟨fun hsw => absurd hsw (by decide), List.forall_mem_cons.mpr ⟨fun hsw => absurd hsw (by decide), List.forall_mem_cons.mpr ⟨fun hsw => absurd hsw (by decide), fun _ h => absurd h List.not_mem_nil⟩⟩⟩⟩⟩⟩⟩⟩⟩⟩) (fun hsw => absurd hsw (by decide))
        refine ab_aload_n X 0 d_MA_step_157 rfl rfl ?_
        refine ab_iload_n X 1 d_MA_step_158 rfl rfl ?_
        refine ab_aload_n X 0 d_MA_step_159 rfl rfl ?_
        refine ab_callV (as := []) X (fun h => by cases h) (x_MA_takeNumber u (w :: y :: t) sd h C (by show t.length + 1 + 1 ≤ 168; omega)) lk_MA_74 d_MA_step_160 rfl rfl (by first | assumption | decide | (show _ < 124; omega) | (show _ < 61; omega) | (show _ < 20; omega)) ⟨by first | exact Nat.le_of_ble_eq_true rfl | (simp only [ab_rm]; omega), by first | exact Nat.le_of_ble_eq_true rfl | (simp only [ab_rm]; omega)⟩ ⟨by first | exact Nat.le_of_ble_eq_true rfl | (simp only [ab_rm]; omega), by first | exact Nat.le_of_ble_eq_true rfl | (simp only [ab_rm]; omega)⟩ (Nat.le_of_ble_eq_true rfl) (fun u160 r160 h160 => ?_)
        obtain ⟨⟨z160, c160, g160⟩, rfl⟩ := h160
        have q160 := z160.1
        have P160 := P0.trans q160 (by decide)
        refine ab_aload_n X 0 d_MA_step_163 rfl rfl ?_
        refine ab_callV (as := []) X (fun h => by cases h) (x_MA_takeNumber u160 (y :: t) sd P160.1 c160 (by first | decide | omega | (show t.length + 1 ≤ 168; omega))) lk_MA_74 d_MA_step_164 rfl rfl (by first | assumption | decide | (show _ < 124; omega) | (show _ < 61; omega) | (show _ < 20; omega)) ⟨by first | exact Nat.le_of_ble_eq_true rfl | (simp only [ab_rm]; omega), by first | exact Nat.le_of_ble_eq_true rfl | (simp only [ab_rm]; omega)⟩ ⟨by first | exact Nat.le_of_ble_eq_true rfl | (simp only [ab_rm]; omega), by first | exact Nat.le_of_ble_eq_true rfl | (simp only [ab_rm]; omega)⟩ (Nat.le_of_ble_eq_true rfl) (fun u164 r164 h164 => ?_)
        obtain ⟨⟨z164, c164, g164⟩, rfl⟩ := h164
        have q164 := z164.1
        have P164 := P160.trans q164 (by decide)
        refine ab_callS (as := [ab_I (nI 7), ab_I (nI w), ab_I (nI y)]) X (fun h => by cases h) (t_MA_joinedF u164 7 w y P164.1 (by decide) (by first | decide | omega) (by first | decide | omega)) ls_MA_77 d_MA_step_167 rfl rfl ⟨by first | exact Nat.le_of_ble_eq_true rfl | (simp only [ab_rm]; omega), by first | exact Nat.le_of_ble_eq_true rfl | (simp only [ab_rm]; omega)⟩ ⟨by first | exact Nat.le_of_ble_eq_true rfl | (simp only [ab_rm]; omega), by first | exact Nat.le_of_ble_eq_true rfl | (simp only [ab_rm]; omega)⟩ (Nat.le_of_ble_eq_true rfl) (fun u167 r167 h167 => ?_)
        obtain ⟨e167, rfl⟩ := h167
        subst u167
        refine ab_callV (as := [ab_I (nI (jnd 7 w y))]) X (fun h => by cases h) (x_MA_pushX u164 (nI (jnd 7 w y)) t sd P164.1 c164 (by omega)) lk_MA_57 d_MA_step_170 rfl rfl (by first | assumption | decide | (show _ < 124; omega) | (show _ < 61; omega) | (show _ < 20; omega)) ⟨by first | exact Nat.le_of_ble_eq_true rfl | (simp only [ab_rm]; omega), by first | exact Nat.le_of_ble_eq_true rfl | (simp only [ab_rm]; omega)⟩ ⟨by first | exact Nat.le_of_ble_eq_true rfl | (simp only [ab_rm]; omega), by first | exact Nat.le_of_ble_eq_true rfl | (simp only [ab_rm]; omega)⟩ (Nat.le_of_ble_eq_true rfl) (fun u170 r170 h170 => ?_)
        obtain ⟨⟨z170, g170⟩, rfl⟩ := h170
        have q170 := z170.1
        have P170 := P164.trans q170 (by decide)
        refine ab_goto X 210 d_MA_step_173 rfl ?_
        exact ab_retv X hr0 hlk d_MA_step_210 ⟨sQ.no P170 (show stp hh aa x r (w :: y :: t) sd = none by simp [stp, hx, q9]) (g170.trans (g164.trans (tn_1 (g160.trans (tn_y q9))))) (z170.2.trans (z164.2.trans (z160.2.trans e4))), rfl⟩
      · by_cases y9 : 9 < y
        ·
          refine ab_iload_n X 1 d_MA_step_0 rfl rfl ?_
          refine ab_tsw X [(1, 84), (2, 92), (3, 115), (4, 115), (5, 142), (6, 157), (7, 157), (8, 157), (9, 176), (17, 196)] 204 d_MA_step_1 (by decide +kernel) rfl (List.forall_mem_cons.mpr ⟨fun hsw => absurd hsw (by decide), List.forall_mem_cons.mpr ⟨fun hsw => absurd hsw (by decide), List.forall_mem_cons.mpr ⟨fun hsw => absurd hsw (by decide), List.forall_mem_cons.mpr ⟨fun hsw => absurd hsw (by decide), List.forall_mem_cons.mpr ⟨fun hsw => absurd hsw (by decide), List.forall_mem_cons.mpr ⟨fun hsw => absurd hsw (by decide), List.forall_mem_cons.mpr ⟨fun _ => ?_, List.forall_mem_cons.mpr ⟨fun hsw => absurd hsw (by decide), List.forall_mem_cons.mpr ⟨fun hsw => absurd hsw (by decide), List.forall_mem_cons.mpr ⟨fun hsw => absurd hsw (by decide), fun _ h => absurd h List.not_mem_nil⟩⟩⟩⟩⟩⟩⟩⟩⟩⟩) (fun hsw => absurd hsw (by decide))
          refine ab_aload_n X 0 d_MA_step_157 rfl rfl ?_
          refine ab_iload_n X 1 d_MA_step_158 rfl rfl ?_
          refine ab_aload_n X 0 d_MA_step_159 rfl rfl ?_
          refine ab_callV (as := []) X (fun h => by cases h) (x_MA_takeNumber u (w :: y :: t) sd h C (by show t.length + 1 + 1 ≤ 168; omega)) lk_MA_74 d_MA_step_160 rfl rfl (by first | assumption | decide | (show _ < 124; omega) | (show _ < 61; omega) | (show _ < 20; omega)) ⟨by first | exact Nat.le_of_ble_eq_true rfl | (simp only [ab_rm]; omega), by first | exact Nat.le_of_ble_eq_true rfl | (simp only [ab_rm]; omega)⟩ ⟨by first | exact Nat.le_of_ble_eq_true rfl | (simp only [ab_rm]; omega), by first | exact Nat.le_of_ble_eq_true rfl | (simp only [ab_rm]; omega)⟩ (Nat.le_of_ble_eq_true rfl) (fun u160 r160 h160 => ?_)
          obtain ⟨⟨z160, c160, g160⟩, rfl⟩ := h160
          have q160 := z160.1
          have P160 := P0.trans q160 (by decide)
          refine ab_aload_n X 0 d_MA_step_163 rfl rfl ?_
          refine ab_callV (as := []) X (fun h => by cases h) (x_MA_takeNumber u160 (y :: t) sd P160.1 c160 (by first | decide | omega | (show t.length + 1 ≤ 168; omega))) lk_MA_74 d_MA_step_164 rfl rfl (by first | assumption | decide | (show _ < 124; omega) | (show _ < 61; omega) | (show _ < 20; omega)) ⟨by first | exact Nat.le_of_ble_eq_true rfl | (simp only [ab_rm]; omega), by first | exact Nat.le_of_ble_eq_true rfl | (simp only [ab_rm]; omega)⟩ ⟨by first | exact Nat.le_of_ble_eq_true rfl | (simp only [ab_rm]; omega), by first | exact Nat.le_of_ble_eq_true rfl | (simp only [ab_rm]; omega)⟩ (Nat.le_of_ble_eq_true rfl) (fun u164 r164 h164 => ?_)
          obtain ⟨⟨z164, c164, g164⟩, rfl⟩ := h164
          have q164 := z164.1
          have P164 := P160.trans q164 (by decide)
          refine ab_callS (as := [ab_I (nI 7), ab_I (nI w), ab_I (nI y)]) X (fun h => by cases h) (t_MA_joinedF u164 7 w y P164.1 (by decide) (by first | decide | omega) (by first | decide | omega)) ls_MA_77 d_MA_step_167 rfl rfl ⟨by first | exact Nat.le_of_ble_eq_true rfl | (simp only [ab_rm]; omega), by first | exact Nat.le_of_ble_eq_true rfl | (simp only [ab_rm]; omega)⟩ ⟨by first | exact Nat.le_of_ble_eq_true rfl | (simp only [ab_rm]; omega), by first | exact Nat.le_of_ble_eq_true rfl | (simp only [ab_rm]; omega)⟩ (Nat.le_of_ble_eq_true rfl) (fun u167 r167 h167 => ?_)
          obtain ⟨e167, rfl⟩ := h167
          subst u167
          refine ab_callV (as := [ab_I (nI (jnd 7 w y))]) X (fun h => by cases h) (x_MA_pushX u164 (nI (jnd 7 w y)) t sd P164.1 c164 (by omega)) lk_MA_57 d_MA_step_170 rfl rfl (by first | assumption | decide | (show _ < 124; omega) | (show _ < 61; omega) | (show _ < 20; omega)) ⟨by first | exact Nat.le_of_ble_eq_true rfl | (simp only [ab_rm]; omega), by first | exact Nat.le_of_ble_eq_true rfl | (simp only [ab_rm]; omega)⟩ ⟨by first | exact Nat.le_of_ble_eq_true rfl | (simp only [ab_rm]; omega), by first | exact Nat.le_of_ble_eq_true rfl | (simp only [ab_rm]; omega)⟩ (Nat.le_of_ble_eq_true rfl) (fun u170 r170 h170 => ?_)
          obtain ⟨⟨z170, g170⟩, rfl⟩ := h170
          have q170 := z170.1
          have P170 := P164.trans q170 (by decide)
          refine ab_goto X 210 d_MA_step_173 rfl ?_
          exact ab_retv X hr0 hlk d_MA_step_210 ⟨sQ.no P170 (show stp hh aa x r (w :: y :: t) sd = none by simp [stp, hx, q9, y9]) (g170.trans (g164.trans (tn_y y9))) (z170.2.trans (z164.2.trans (z160.2.trans e4))), rfl⟩
        · have w9 : w ≤ 9 := by omega
          have v9 : y ≤ 9 := by omega
          refine ab_iload_n X 1 d_MA_step_0 rfl rfl ?_
          refine ab_tsw X [(1, 84), (2, 92), (3, 115), (4, 115), (5, 142), (6, 157), (7, 157), (8, 157), (9, 176), (17, 196)] 204 d_MA_step_1 (by decide +kernel) rfl (List.forall_mem_cons.mpr ⟨fun hsw => absurd hsw (by decide), List.forall_mem_cons.mpr ⟨fun hsw => absurd hsw (by decide), List.forall_mem_cons.mpr ⟨fun hsw => absurd hsw (by decide), List.forall_mem_cons.mpr ⟨fun hsw => absurd hsw (by decide), List.forall_mem_cons.mpr ⟨fun hsw => absurd hsw (by decide), List.forall_mem_cons.mpr ⟨fun hsw => absurd hsw (by decide), List.forall_mem_cons.mpr ⟨fun _ => ?_, List.forall_mem_cons.mpr ⟨fun hsw => absurd hsw (by decide), List.forall_mem_cons.mpr ⟨fun hsw => absurd hsw (by decide), List.forall_mem_cons.mpr ⟨fun hsw => absurd hsw (by decide), fun _ h => absurd h List.not_mem_nil⟩⟩⟩⟩⟩⟩⟩⟩⟩⟩) (fun hsw => absurd hsw (by decide))
          refine ab_aload_n X 0 d_MA_step_157 rfl rfl ?_
          refine ab_iload_n X 1 d_MA_step_158 rfl rfl ?_
          refine ab_aload_n X 0 d_MA_step_159 rfl rfl ?_
          refine ab_callV (as := []) X (fun h => by cases h) (x_MA_takeNumber u (w :: y :: t) sd h C (by show t.length + 1 + 1 ≤ 168; omega)) lk_MA_74 d_MA_step_160 rfl rfl (by first | assumption | decide | (show _ < 124; omega) | (show _ < 61; omega) | (show _ < 20; omega)) ⟨by first | exact Nat.le_of_ble_eq_true rfl | (simp only [ab_rm]; omega), by first | exact Nat.le_of_ble_eq_true rfl | (simp only [ab_rm]; omega)⟩ ⟨by first | exact Nat.le_of_ble_eq_true rfl | (simp only [ab_rm]; omega), by first | exact Nat.le_of_ble_eq_true rfl | (simp only [ab_rm]; omega)⟩ (Nat.le_of_ble_eq_true rfl) (fun u160 r160 h160 => ?_)
          obtain ⟨⟨z160, c160, g160⟩, rfl⟩ := h160
          have q160 := z160.1
          have P160 := P0.trans q160 (by decide)
          refine ab_aload_n X 0 d_MA_step_163 rfl rfl ?_
          refine ab_callV (as := []) X (fun h => by cases h) (x_MA_takeNumber u160 (y :: t) sd P160.1 c160 (by first | decide | omega | (show t.length + 1 ≤ 168; omega))) lk_MA_74 d_MA_step_164 rfl rfl (by first | assumption | decide | (show _ < 124; omega) | (show _ < 61; omega) | (show _ < 20; omega)) ⟨by first | exact Nat.le_of_ble_eq_true rfl | (simp only [ab_rm]; omega), by first | exact Nat.le_of_ble_eq_true rfl | (simp only [ab_rm]; omega)⟩ ⟨by first | exact Nat.le_of_ble_eq_true rfl | (simp only [ab_rm]; omega), by first | exact Nat.le_of_ble_eq_true rfl | (simp only [ab_rm]; omega)⟩ (Nat.le_of_ble_eq_true rfl) (fun u164 r164 h164 => ?_)
          obtain ⟨⟨z164, c164, g164⟩, rfl⟩ := h164
          have q164 := z164.1
          have P164 := P160.trans q164 (by decide)
          refine ab_callS (as := [ab_I (nI 7), ab_I (nI w), ab_I (nI y)]) X (fun h => by cases h) (t_MA_joinedF u164 7 w y P164.1 (by decide) (by first | decide | omega) (by first | decide | omega)) ls_MA_77 d_MA_step_167 rfl rfl ⟨by first | exact Nat.le_of_ble_eq_true rfl | (simp only [ab_rm]; omega), by first | exact Nat.le_of_ble_eq_true rfl | (simp only [ab_rm]; omega)⟩ ⟨by first | exact Nat.le_of_ble_eq_true rfl | (simp only [ab_rm]; omega), by first | exact Nat.le_of_ble_eq_true rfl | (simp only [ab_rm]; omega)⟩ (Nat.le_of_ble_eq_true rfl) (fun u167 r167 h167 => ?_)
          obtain ⟨e167, rfl⟩ := h167
          subst u167
          refine ab_callV (as := [ab_I (nI (jnd 7 w y))]) X (fun h => by cases h) (x_MA_push u164 (jnd 7 w y) t sd P164.1 c164 (jnd_lt w9 v9) (by first | decide | omega)) lk_MA_57 d_MA_step_170 rfl rfl (by first | assumption | decide | (show _ < 124; omega) | (show _ < 61; omega) | (show _ < 20; omega)) ⟨by first | exact Nat.le_of_ble_eq_true rfl | (simp only [ab_rm]; omega), by first | exact Nat.le_of_ble_eq_true rfl | (simp only [ab_rm]; omega)⟩ ⟨by first | exact Nat.le_of_ble_eq_true rfl | (simp only [ab_rm]; omega), by first | exact Nat.le_of_ble_eq_true rfl | (simp only [ab_rm]; omega)⟩ (Nat.le_of_ble_eq_true rfl) (fun u170 r170 h170 => ?_)
          obtain ⟨⟨z170, c170, g170⟩, rfl⟩ := h170
          have q170 := z170.1
          have P170 := P164.trans q170 (by decide)
          refine ab_goto X 210 d_MA_step_173 rfl ?_
          exact ab_retv X hr0 hlk d_MA_step_210 ⟨sQ.yes P170 (show stp hh aa x r (w :: y :: t) sd = some (r, jnd 7 w y :: t, sd) by simp [stp, hx, q9, y9]) (g170.trans (g164.trans ((tn_n v9).trans (g160.trans ((tn_n w9).trans e6))))) (c170) (z170.2.trans (z164.2.trans (z160.2.trans e4))), rfl⟩
set_option maxRecDepth 100000 in
set_option maxHeartbeats 1000000 in
theorem x_MA_st8 (u : ab_S) (st sd : List Nat) (h : CI u) (C : cM u st sd) (hh aa : Int32) (x a : Nat) (r : List Nat) (hL : st.length < 167) (hS : sd.length < 127) (e4 : u.1 7 0 4 = nI a) (e6 : u.1 7 0 6 = 0) (Wx : wX u a r) (G : gd x r st) (f0 : u.1 6 0 0 = 0) (f1 : u.1 6 0 1 = 0) (f2 : u.1 6 0 2 = hh) (f3 : u.1 6 0 3 = aa) (hx : x / 1000 = 8) : ab_C false l D ca y_MA_step b_MA_step 5 none 3 ab_nQ u [ab_O 7 0, ab_I (nI 8), ab_I (nI (x % 1000)), ab_O 5 0, ab_O 6 0] (fun u' w => sQ hh aa x r st sd a u u' ∧ w = none) := by
  refine ab_C.of (by decide) (Nat.le_of_ble_eq_true rfl) ?_
  intro p e s m args below meth c ad X hZ hr0 hlk
  have P0 : mQ u u := mQ.rf h
  cases st with
  | nil =>
    refine ab_iload_n X 1 d_MA_step_0 rfl rfl ?_
    refine ab_tsw X [(1, 84), (2, 92), (3, 115), (4, 115), (5, 142), (6, 157), (7, 157), (8, 157), (9, 176), (17, 196)] 204 d_MA_step_1 (by decide +kernel) rfl (List.forall_mem_cons.mpr ⟨fun hsw => absurd hsw (by decide), List.forall_mem_cons.mpr ⟨fun hsw => absurd hsw (by decide), List.forall_mem_cons.mpr ⟨fun hsw => absurd hsw (by decide), List.forall_mem_cons.mpr ⟨fun hsw => absurd hsw (by decide), List.forall_mem_cons.mpr ⟨fun hsw => absurd hsw (by decide), List.forall_mem_cons.mpr ⟨fun hsw => absurd hsw (by decide), List.forall_mem_cons.mpr ⟨fun hsw => absurd hsw (by decide), List.forall_mem_cons.mpr ⟨fun _ => ?_, List.forall_mem_cons.mpr ⟨fun hsw => absurd hsw (by decide), List.forall_mem_cons.mpr ⟨fun hsw => absurd hsw (by decide), fun _ h => absurd h List.not_mem_nil⟩⟩⟩⟩⟩⟩⟩⟩⟩⟩) (fun hsw => absurd hsw (by decide))
    refine ab_aload_n X 0 d_MA_step_157 rfl rfl ?_
    refine ab_iload_n X 1 d_MA_step_158 rfl rfl ?_
    refine ab_aload_n X 0 d_MA_step_159 rfl rfl ?_
    refine ab_callV (as := []) X (fun h => by cases h) (x_MA_takeNumber u [] sd h C (by decide)) lk_MA_74 d_MA_step_160 rfl rfl (by first | assumption | decide | (show _ < 124; omega) | (show _ < 61; omega) | (show _ < 20; omega)) ⟨by first | exact Nat.le_of_ble_eq_true rfl | (simp only [ab_rm]; omega), by first | exact Nat.le_of_ble_eq_true rfl | (simp only [ab_rm]; omega)⟩ ⟨by first | exact Nat.le_of_ble_eq_true rfl | (simp only [ab_rm]; omega), by first | exact Nat.le_of_ble_eq_true rfl | (simp only [ab_rm]; omega)⟩ (Nat.le_of_ble_eq_true rfl) (fun u160 r160 h160 => ?_)
    obtain ⟨⟨z160, c160, g160⟩, rfl⟩ := h160
    have q160 := z160.1
    have P160 := P0.trans q160 (by decide)
    refine ab_aload_n X 0 d_MA_step_163 rfl rfl ?_
    refine ab_callV (as := []) X (fun h => by cases h) (x_MA_takeNumber u160 [] sd P160.1 c160 (by first | decide | omega | (show t.length + 1 ≤ 168; omega))) lk_MA_74 d_MA_step_164 rfl rfl (by first | assumption | decide | (show _ < 124; omega) | (show _ < 61; omega) | (show _ < 20; omega)) ⟨by first | exact Nat.le_of_ble_eq_true rfl | (simp only [ab_rm]; omega), by first | exact Nat.le_of_ble_eq_true rfl | (simp only [ab_rm]; omega)⟩ ⟨by first | exact Nat.le_of_ble_eq_true rfl | (simp only [ab_rm]; omega), by first | exact Nat.le_of_ble_eq_true rfl | (simp only [ab_rm]; omega)⟩ (Nat.le_of_ble_eq_true rfl) (fun u164 r164 h164 => ?_)
    obtain ⟨⟨z164, c164, g164⟩, rfl⟩ := h164
    have q164 := z164.1
    have P164 := P160.trans q164 (by decide)
    refine ab_callS (as := [ab_I (nI 8), ab_I (nI 0), ab_I (nI 0)]) X (fun h => by cases h) (t_MA_joinedF u164 8 0 0 P164.1 (by decide) (by first | decide | omega) (by first | decide | omega)) ls_MA_77 d_MA_step_167 rfl rfl ⟨by first | exact Nat.le_of_ble_eq_true rfl | (simp only [ab_rm]; omega), by first | exact Nat.le_of_ble_eq_true rfl | (simp only [ab_rm]; omega)⟩ ⟨by first | exact Nat.le_of_ble_eq_true rfl | (simp only [ab_rm]; omega), by first | exact Nat.le_of_ble_eq_true rfl | (simp only [ab_rm]; omega)⟩ (Nat.le_of_ble_eq_true rfl) (fun u167 r167 h167 => ?_)
    obtain ⟨e167, rfl⟩ := h167
    subst u167
    refine ab_callV (as := [ab_I (nI (jnd 8 0 0))]) X (fun h => by cases h) (x_MA_push u164 (jnd 8 0 0) [] sd P164.1 c164 (by decide) (by first | decide | omega)) lk_MA_57 d_MA_step_170 rfl rfl (by first | assumption | decide | (show _ < 124; omega) | (show _ < 61; omega) | (show _ < 20; omega)) ⟨by first | exact Nat.le_of_ble_eq_true rfl | (simp only [ab_rm]; omega), by first | exact Nat.le_of_ble_eq_true rfl | (simp only [ab_rm]; omega)⟩ ⟨by first | exact Nat.le_of_ble_eq_true rfl | (simp only [ab_rm]; omega), by first | exact Nat.le_of_ble_eq_true rfl | (simp only [ab_rm]; omega)⟩ (Nat.le_of_ble_eq_true rfl) (fun u170 r170 h170 => ?_)
    obtain ⟨⟨z170, c170, g170⟩, rfl⟩ := h170
    have q170 := z170.1
    have P170 := P164.trans q170 (by decide)
    refine ab_goto X 210 d_MA_step_173 rfl ?_
    exact ab_retv X hr0 hlk d_MA_step_210 ⟨sQ.no P170 (show stp hh aa x r [] sd = none by simp [stp, hx]) (g170.trans (g164.trans tn_0)) (z170.2.trans (z164.2.trans (z160.2.trans e4))), rfl⟩
  | cons w t =>
    have hL : t.length + 1 < 167 := hL
    have hd : w < 2000 := C.1.2.1.2
    cases t with
    | nil =>
      refine ab_iload_n X 1 d_MA_step_0 rfl rfl ?_
      refine ab_tsw X [(1, 84), (2, 92), (3, 115), (4, 115), (5, 142), (6, 157), (7, 157), (8, 157), (9, 176), (17, 196)] 204 d_MA_step_1 (by decide +kernel) rfl (List.forall_mem_cons.mpr ⟨fun hsw => absurd hsw (by decide), List.forall_mem_cons.mpr ⟨fun hsw => absurd hsw (by decide), List.forall_mem_cons.mpr ⟨fun hsw => absurd hsw (by decide), List.forall_mem_cons.mpr ⟨fun hsw => absurd hsw (by decide), List.forall_mem_cons.mpr ⟨fun hsw => absurd hsw (by decide), List.forall_mem_cons.mpr ⟨fun hsw => absurd hsw (by decide), List.forall_mem_cons.mpr ⟨fun hsw => absurd hsw (by decide), List.forall_mem_cons.mpr ⟨fun _ => ?_, List.forall_mem_cons.mpr ⟨fun hsw => absurd hsw (by decide), List.forall_mem_cons.mpr ⟨fun hsw => absurd hsw (by decide), fun _ h => absurd h List.not_mem_nil⟩⟩⟩⟩⟩⟩⟩⟩⟩⟩) (fun hsw => absurd hsw (by decide))
      refine ab_aload_n X 0 d_MA_step_157 rfl rfl ?_
      refine ab_iload_n X 1 d_MA_step_158 rfl rfl ?_
      refine ab_aload_n X 0 d_MA_step_159 rfl rfl ?_
      refine ab_callV (as := []) X (fun h => by cases h) (x_MA_takeNumber u [w] sd h C (by show 1 ≤ 168; decide)) lk_MA_74 d_MA_step_160 rfl rfl (by first | assumption | decide | (show _ < 124; omega) | (show _ < 61; omega) | (show _ < 20; omega)) ⟨by first | exact Nat.le_of_ble_eq_true rfl | (simp only [ab_rm]; omega), by first | exact Nat.le_of_ble_eq_true rfl | (simp only [ab_rm]; omega)⟩ ⟨by first | exact Nat.le_of_ble_eq_true rfl | (simp only [ab_rm]; omega), by first | exact Nat.le_of_ble_eq_true rfl | (simp only [ab_rm]; omega)⟩ (Nat.le_of_ble_eq_true rfl) (fun u160 r160 h160 => ?_)
      obtain ⟨⟨z160, c160, g160⟩, rfl⟩ := h160
      have q160 := z160.1
      have P160 := P0.trans q160 (by decide)
      refine ab_aload_n X 0 d_MA_step_163 rfl rfl ?_
      refine ab_callV (as := []) X (fun h => by cases h) (x_MA_takeNumber u160 [] sd P160.1 c160 (by first | decide | omega | (show t.length + 1 ≤ 168; omega))) lk_MA_74 d_MA_step_164 rfl rfl (by first | assumption | decide | (show _ < 124; omega) | (show _ < 61; omega) | (show _ < 20; omega)) ⟨by first | exact Nat.le_of_ble_eq_true rfl | (simp only [ab_rm]; omega), by first | exact Nat.le_of_ble_eq_true rfl | (simp only [ab_rm]; omega)⟩ ⟨by first | exact Nat.le_of_ble_eq_true rfl | (simp only [ab_rm]; omega), by first | exact Nat.le_of_ble_eq_true rfl | (simp only [ab_rm]; omega)⟩ (Nat.le_of_ble_eq_true rfl) (fun u164 r164 h164 => ?_)
      obtain ⟨⟨z164, c164, g164⟩, rfl⟩ := h164
      have q164 := z164.1
      have P164 := P160.trans q164 (by decide)
      refine ab_callS (as := [ab_I (nI 8), ab_I (nI w), ab_I (nI 0)]) X (fun h => by cases h) (t_MA_joinedF u164 8 w 0 P164.1 (by decide) (by first | decide | omega) (by first | decide | omega)) ls_MA_77 d_MA_step_167 rfl rfl ⟨by first | exact Nat.le_of_ble_eq_true rfl | (simp only [ab_rm]; omega), by first | exact Nat.le_of_ble_eq_true rfl | (simp only [ab_rm]; omega)⟩ ⟨by first | exact Nat.le_of_ble_eq_true rfl | (simp only [ab_rm]; omega), by first | exact Nat.le_of_ble_eq_true rfl | (simp only [ab_rm]; omega)⟩ (Nat.le_of_ble_eq_true rfl) (fun u167 r167 h167 => ?_)
      obtain ⟨e167, rfl⟩ := h167
      subst u167
      refine ab_callV (as := [ab_I (nI (jnd 8 w 0))]) X (fun h => by cases h) (x_MA_push u164 (jnd 8 w 0) [] sd P164.1 c164 (jnd_b0 hd) (by first | decide | omega)) lk_MA_57 d_MA_step_170 rfl rfl (by first | assumption | decide | (show _ < 124; omega) | (show _ < 61; omega) | (show _ < 20; omega)) ⟨by first | exact Nat.le_of_ble_eq_true rfl | (simp only [ab_rm]; omega), by first | exact Nat.le_of_ble_eq_true rfl | (simp only [ab_rm]; omega)⟩ ⟨by first | exact Nat.le_of_ble_eq_true rfl | (simp only [ab_rm]; omega), by first | exact Nat.le_of_ble_eq_true rfl | (simp only [ab_rm]; omega)⟩ (Nat.le_of_ble_eq_true rfl) (fun u170 r170 h170 => ?_)
      obtain ⟨⟨z170, c170, g170⟩, rfl⟩ := h170
      have q170 := z170.1
      have P170 := P164.trans q170 (by decide)
      refine ab_goto X 210 d_MA_step_173 rfl ?_
      exact ab_retv X hr0 hlk d_MA_step_210 ⟨sQ.no P170 (show stp hh aa x r [w] sd = none by simp [stp, hx]) (g170.trans (g164.trans tn_0)) (z170.2.trans (z164.2.trans (z160.2.trans e4))), rfl⟩
    | cons y t =>
      have hL : t.length + 1 + 1 < 167 := hL
      have hy : y < 2000 := C.1.2.2.1.2
      by_cases q9 : 9 < w
      ·
        refine ab_iload_n X 1 d_MA_step_0 rfl rfl ?_
        refine ab_tsw X [(1, 84), (2, 92), (3, 115), (4, 115), (5, 142), (6, 157), (7, 157), (8, 157), (9, 176), (17, 196)] 204 d_MA_step_1 (by decide +kernel) rfl (List.forall_mem_cons.mpr ⟨fun hsw => absurd hsw (by decide), List.forall_mem_cons.mpr ⟨fun hsw => absurd hsw (by decide), List.forall_mem_cons.mpr ⟨fun hsw => absurd hsw (by decide), List.forall_mem_cons.mpr ⟨fun hsw => absurd hsw (by decide), List.forall_mem_cons.mpr ⟨fun hsw => absurd hsw (by decide), List.forall_mem_cons.mpr ⟨fun hsw => absurd hsw (by decide), List.forall_mem_cons.mpr ⟨fun hsw => absurd hsw (by decide), List.forall_mem_cons.mpr ⟨fun _ => ?_, List.forall_mem_cons.mpr ⟨fun hsw => absurd hsw (by decide), List.forall_mem_cons.mpr ⟨fun hsw => absurd hsw (by decide), fun _ h => absurd h List.not_mem_nil⟩⟩⟩⟩⟩⟩⟩⟩⟩⟩) (fun hsw => absurd hsw (by decide))
        refine ab_aload_n X 0 d_MA_step_157 rfl rfl ?_
        refine ab_iload_n X 1 d_MA_step_158 rfl rfl ?_
        refine ab_aload_n X 0 d_MA_step_159 rfl rfl ?_
        refine ab_callV (as := []) X (fun h => by cases h) (x_MA_takeNumber u (w :: y :: t) sd h C (by show t.length + 1 + 1 ≤ 168; omega)) lk_MA_74 d_MA_step_160 rfl rfl (by first | assumption | decide | (show _ < 124; omega) | (show _ < 61; omega) | (show _ < 20; omega)) ⟨by first | exact Nat.le_of_ble_eq_true rfl | (simp only [ab_rm]; omega), by first | exact Nat.le_of_ble_eq_true rfl | (simp only [ab_rm]; omega)⟩ ⟨by first | exact Nat.le_of_ble_eq_true rfl | (simp only [ab_rm]; omega), by first | exact Nat.le_of_ble_eq_true rfl | (simp only [ab_rm]; omega)⟩ (Nat.le_of_ble_eq_true rfl) (fun u160 r160 h160 => ?_)
        obtain ⟨⟨z160, c160, g160⟩, rfl⟩ := h160
        have q160 := z160.1
        have P160 := P0.trans q160 (by decide)
        refine ab_aload_n X 0 d_MA_step_163 rfl rfl ?_
        refine ab_callV (as := []) X (fun h => by cases h) (x_MA_takeNumber u160 (y :: t) sd P160.1 c160 (by first | decide | omega | (show t.length + 1 ≤ 168; omega))) lk_MA_74 d_MA_step_164 rfl rfl (by first | assumption | decide | (show _ < 124; omega) | (show _ < 61; omega) | (show _ < 20; omega)) ⟨by first | exact Nat.le_of_ble_eq_true rfl | (simp only [ab_rm]; omega), by first | exact Nat.le_of_ble_eq_true rfl | (simp only [ab_rm]; omega)⟩ ⟨by first | exact Nat.le_of_ble_eq_true rfl | (simp only [ab_rm]; omega), by first | exact Nat.le_of_ble_eq_true rfl | (simp only [ab_rm]; omega)⟩ (Nat.le_of_ble_eq_true rfl) (fun u164 r164 h164 => ?_)
        obtain ⟨⟨z164, c164, g164⟩, rfl⟩ := h164
        have q164 := z164.1
        have P164 := P160.trans q164 (by decide)
        refine ab_callS (as := [ab_I (nI 8), ab_I (nI w), ab_I (nI y)]) X (fun h => by cases h) (t_MA_joinedF u164 8 w y P164.1 (by decide) (by first | decide | omega) (by first | decide | omega)) ls_MA_77 d_MA_step_167 rfl rfl ⟨by first | exact Nat.le_of_ble_eq_true rfl | (simp only [ab_rm]; omega), by first | exact Nat.le_of_ble_eq_true rfl | (simp only [ab_rm]; omega)⟩ ⟨by first | exact Nat.le_of_ble_eq_true rfl | (simp only [ab_rm]; omega), by first | exact Nat.le_of_ble_eq_true rfl | (simp only [ab_rm]; omega)⟩ (Nat.le_of_ble_eq_true rfl) (fun u167 r167 h167 => ?_)
        obtain ⟨e167, rfl⟩ := h167
        subst u167
        refine ab_callV (as := [ab_I (nI (jnd 8 w y))]) X (fun h => by cases h) (x_MA_pushX u164 (nI (jnd 8 w y)) t sd P164.1 c164 (by omega)) lk_MA_57 d_MA_step_170 rfl rfl (by first | assumption | decide | (show _ < 124; omega) | (show _ < 61; omega) | (show _ < 20; omega)) ⟨by first | exact Nat.le_of_ble_eq_true rfl | (simp only [ab_rm]; omega), by first | exact Nat.le_of_ble_eq_true rfl | (simp only [ab_rm]; omega)⟩ ⟨by first | exact Nat.le_of_ble_eq_true rfl | (simp only [ab_rm]; omega), by first | exact Nat.le_of_ble_eq_true rfl | (simp only [ab_rm]; omega)⟩ (Nat.le_of_ble_eq_true rfl) (fun u170 r170 h170 => ?_)
        obtain ⟨⟨z170, g170⟩, rfl⟩ := h170
        have q170 := z170.1
        have P170 := P164.trans q170 (by decide)
        refine ab_goto X 210 d_MA_step_173 rfl ?_
        exact ab_retv X hr0 hlk d_MA_step_210 ⟨sQ.no P170 (show stp hh aa x r (w :: y :: t) sd = none by simp [stp, hx, q9]) (g170.trans (g164.trans (tn_1 (g160.trans (tn_y q9))))) (z170.2.trans (z164.2.trans (z160.2.trans e4))), rfl⟩
      · by_cases y9 : 9 < y
        ·
          refine ab_iload_n X 1 d_MA_step_0 rfl rfl ?_
          refine ab_tsw X [(1, 84), (2, 92), (3, 115), (4, 115), (5, 142), (6, 157), (7, 157), (8, 157), (9, 176), (17, 196)] 204 d_MA_step_1 (by decide +kernel) rfl (List.forall_mem_cons.mpr ⟨fun hsw => absurd hsw (by decide), List.forall_mem_cons.mpr ⟨fun hsw => absurd hsw (by decide), List.forall_mem_cons.mpr ⟨fun hsw => absurd hsw (by decide), List.forall_mem_cons.mpr ⟨fun hsw => absurd hsw (by decide), List.forall_mem_cons.mpr ⟨fun hsw => absurd hsw (by decide), List.forall_mem_cons.mpr ⟨fun hsw => absurd hsw (by decide), List.forall_mem_cons.mpr ⟨fun hsw => absurd hsw (by decide), List.forall_mem_cons.mpr ⟨fun _ => ?_, List.forall_mem_cons.mpr ⟨fun hsw => absurd hsw (by decide), List.forall_mem_cons.mpr ⟨fun hsw => absurd hsw (by decide), fun _ h => absurd h List.not_mem_nil⟩⟩⟩⟩⟩⟩⟩⟩⟩⟩) (fun hsw => absurd hsw (by decide))
          refine ab_aload_n X 0 d_MA_step_157 rfl rfl ?_
          refine ab_iload_n X 1 d_MA_step_158 rfl rfl ?_
          refine ab_aload_n X 0 d_MA_step_159 rfl rfl ?_
          refine ab_callV (as := []) X (fun h => by cases h) (x_MA_takeNumber u (w :: y :: t) sd h C (by show t.length + 1 + 1 ≤ 168; omega)) lk_MA_74 d_MA_step_160 rfl rfl (by first | assumption | decide | (show _ < 124; omega) | (show _ < 61; omega) | (show _ < 20; omega)) ⟨by first | exact Nat.le_of_ble_eq_true rfl | (simp only [ab_rm]; omega), by first | exact Nat.le_of_ble_eq_true rfl | (simp only [ab_rm]; omega)⟩ ⟨by first | exact Nat.le_of_ble_eq_true rfl | (simp only [ab_rm]; omega), by first | exact Nat.le_of_ble_eq_true rfl | (simp only [ab_rm]; omega)⟩ (Nat.le_of_ble_eq_true rfl) (fun u160 r160 h160 => ?_)
          obtain ⟨⟨z160, c160, g160⟩, rfl⟩ := h160
          have q160 := z160.1
          have P160 := P0.trans q160 (by decide)
          refine ab_aload_n X 0 d_MA_step_163 rfl rfl ?_
          refine ab_callV (as := []) X (fun h => by cases h) (x_MA_takeNumber u160 (y :: t) sd P160.1 c160 (by first | decide | omega | (show t.length + 1 ≤ 168; omega))) lk_MA_74 d_MA_step_164 rfl rfl (by first | assumption | decide | (show _ < 124; omega) | (show _ < 61; omega) | (show _ < 20; omega)) ⟨by first | exact Nat.le_of_ble_eq_true rfl | (simp only [ab_rm]; omega), by first | exact Nat.le_of_ble_eq_true rfl | (simp only [ab_rm]; omega)⟩ ⟨by first | exact Nat.le_of_ble_eq_true rfl | (simp only [ab_rm]; omega), by first | exact Nat.le_of_ble_eq_true rfl | (simp only [ab_rm]; omega)⟩ (Nat.le_of_ble_eq_true rfl) (fun u164 r164 h164 => ?_)
          obtain ⟨⟨z164, c164, g164⟩, rfl⟩ := h164
          have q164 := z164.1
          have P164 := P160.trans q164 (by decide)
          refine ab_callS (as := [ab_I (nI 8), ab_I (nI w), ab_I (nI y)]) X (fun h => by cases h) (t_MA_joinedF u164 8 w y P164.1 (by decide) (by first | decide | omega) (by first | decide | omega)) ls_MA_77 d_MA_step_167 rfl rfl ⟨by first | exact Nat.le_of_ble_eq_true rfl | (simp only [ab_rm]; omega), by first | exact Nat.le_of_ble_eq_true rfl | (simp only [ab_rm]; omega)⟩ ⟨by first | exact Nat.le_of_ble_eq_true rfl | (simp only [ab_rm]; omega), by first | exact Nat.le_of_ble_eq_true rfl | (simp only [ab_rm]; omega)⟩ (Nat.le_of_ble_eq_true rfl) (fun u167 r167 h167 => ?_)
          obtain ⟨e167, rfl⟩ := h167
          subst u167
          refine ab_callV (as := [ab_I (nI (jnd 8 w y))]) X (fun h => by cases h) (x_MA_pushX u164 (nI (jnd 8 w y)) t sd P164.1 c164 (by omega)) lk_MA_57 d_MA_step_170 rfl rfl (by first | assumption | decide | (show _ < 124; omega) | (show _ < 61; omega) | (show _ < 20; omega)) ⟨by first | exact Nat.le_of_ble_eq_true rfl | (simp only [ab_rm]; omega), by first | exact Nat.le_of_ble_eq_true rfl | (simp only [ab_rm]; omega)⟩ ⟨by first | exact Nat.le_of_ble_eq_true rfl | (simp only [ab_rm]; omega), by first | exact Nat.le_of_ble_eq_true rfl | (simp only [ab_rm]; omega)⟩ (Nat.le_of_ble_eq_true rfl) (fun u170 r170 h170 => ?_)
          obtain ⟨⟨z170, g170⟩, rfl⟩ := h170
          have q170 := z170.1
          have P170 := P164.trans q170 (by decide)
          refine ab_goto X 210 d_MA_step_173 rfl ?_
          exact ab_retv X hr0 hlk d_MA_step_210 ⟨sQ.no P170 (show stp hh aa x r (w :: y :: t) sd = none by simp [stp, hx, q9, y9]) (g170.trans (g164.trans (tn_y y9))) (z170.2.trans (z164.2.trans (z160.2.trans e4))), rfl⟩
        · have w9 : w ≤ 9 := by omega
          have v9 : y ≤ 9 := by omega
          refine ab_iload_n X 1 d_MA_step_0 rfl rfl ?_
          refine ab_tsw X [(1, 84), (2, 92), (3, 115), (4, 115), (5, 142), (6, 157), (7, 157), (8, 157), (9, 176), (17, 196)] 204 d_MA_step_1 (by decide +kernel) rfl (List.forall_mem_cons.mpr ⟨fun hsw => absurd hsw (by decide), List.forall_mem_cons.mpr ⟨fun hsw => absurd hsw (by decide), List.forall_mem_cons.mpr ⟨fun hsw => absurd hsw (by decide), List.forall_mem_cons.mpr ⟨fun hsw => absurd hsw (by decide), List.forall_mem_cons.mpr ⟨fun hsw => absurd hsw (by decide), List.forall_mem_cons.mpr ⟨fun hsw => absurd hsw (by decide), List.forall_mem_cons.mpr ⟨fun hsw => absurd hsw (by decide), List.forall_mem_cons.mpr ⟨fun _ => ?_, List.forall_mem_cons.mpr ⟨fun hsw => absurd hsw (by decide), List.forall_mem_cons.mpr ⟨fun hsw => absurd hsw (by decide), fun _ h => absurd h List.not_mem_nil⟩⟩⟩⟩⟩⟩⟩⟩⟩⟩) (fun hsw => absurd hsw (by decide))
          refine ab_aload_n X 0 d_MA_step_157 rfl rfl ?_
          refine ab_iload_n X 1 d_MA_step_158 rfl rfl ?_
          refine ab_aload_n X 0 d_MA_step_159 rfl rfl ?_
          refine ab_callV (as := []) X (fun h => by cases h) (x_MA_takeNumber u (w :: y :: t) sd h C (by show t.length + 1 + 1 ≤ 168; omega)) lk_MA_74 d_MA_step_160 rfl rfl (by first | assumption | decide | (show _ < 124; omega) | (show _ < 61; omega) | (show _ < 20; omega)) ⟨by first | exact Nat.le_of_ble_eq_true rfl | (simp only [ab_rm]; omega), by first | exact Nat.le_of_ble_eq_true rfl | (simp only [ab_rm]; omega)⟩ ⟨by first | exact Nat.le_of_ble_eq_true rfl | (simp only [ab_rm]; omega), by first | exact Nat.le_of_ble_eq_true rfl | (simp only [ab_rm]; omega)⟩ (Nat.le_of_ble_eq_true rfl) (fun u160 r160 h160 => ?_)
          obtain ⟨⟨z160, c160, g160⟩, rfl⟩ := h160
          have q160 := z160.1
          have P160 := P0.trans q160 (by decide)
          refine ab_aload_n X 0 d_MA_step_163 rfl rfl ?_
          refine ab_callV (as := []) X (fun h => by cases h) (x_MA_takeNumber u160 (y :: t) sd P160.1 c160 (by first | decide | omega | (show t.length + 1 ≤ 168; omega))) lk_MA_74 d_MA_step_164 rfl rfl (by first | assumption | decide | (show _ < 124; omega) | (show _ < 61; omega) | (show _ < 20; omega)) ⟨by first | exact Nat.le_of_ble_eq_true rfl | (simp only [ab_rm]; omega), by first | exact Nat.le_of_ble_eq_true rfl | (simp only [ab_rm]; omega)⟩ ⟨by first | exact Nat.le_of_ble_eq_true rfl | (simp only [ab_rm]; omega), by first | exact Nat.le_of_ble_eq_true rfl | (simp only [ab_rm]; omega)⟩ (Nat.le_of_ble_eq_true rfl) (fun u164 r164 h164 => ?_)
          obtain ⟨⟨z164, c164, g164⟩, rfl⟩ := h164
          have q164 := z164.1
          have P164 := P160.trans q164 (by decide)
          refine ab_callS (as := [ab_I (nI 8), ab_I (nI w), ab_I (nI y)]) X (fun h => by cases h) (t_MA_joinedF u164 8 w y P164.1 (by decide) (by first | decide | omega) (by first | decide | omega)) ls_MA_77 d_MA_step_167 rfl rfl ⟨by first | exact Nat.le_of_ble_eq_true rfl | (simp only [ab_rm]; omega), by first | exact Nat.le_of_ble_eq_true rfl | (simp only [ab_rm]; omega)⟩ ⟨by first | exact Nat.le_of_ble_eq_true rfl | (simp only [ab_rm]; omega), by first | exact Nat.le_of_ble_eq_true rfl | (simp only [ab_rm]; omega)⟩ (Nat.le_of_ble_eq_true rfl) (fun u167 r167 h167 => ?_)
          obtain ⟨e167, rfl⟩ := h167
          subst u167
          refine ab_callV (as := [ab_I (nI (jnd 8 w y))]) X (fun h => by cases h) (x_MA_push u164 (jnd 8 w y) t sd P164.1 c164 (jnd_lt w9 v9) (by first | decide | omega)) lk_MA_57 d_MA_step_170 rfl rfl (by first | assumption | decide | (show _ < 124; omega) | (show _ < 61; omega) | (show _ < 20; omega)) ⟨by first | exact Nat.le_of_ble_eq_true rfl | (simp only [ab_rm]; omega), by first | exact Nat.le_of_ble_eq_true rfl | (simp only [ab_rm]; omega)⟩ ⟨by first | exact Nat.le_of_ble_eq_true rfl | (simp only [ab_rm]; omega), by first | exact Nat.le_of_ble_eq_true rfl | (simp only [ab_rm]; omega)⟩ (Nat.le_of_ble_eq_true rfl) (fun u170 r170 h170 => ?_)
          obtain ⟨⟨z170, c170, g170⟩, rfl⟩ := h170
          have q170 := z170.1
          have P170 := P164.trans q170 (by decide)
          refine ab_goto X 210 d_MA_step_173 rfl ?_
          exact ab_retv X hr0 hlk d_MA_step_210 ⟨sQ.yes P170 (show stp hh aa x r (w :: y :: t) sd = some (r, jnd 8 w y :: t, sd) by simp [stp, hx, q9, y9]) (g170.trans (g164.trans ((tn_n v9).trans (g160.trans ((tn_n w9).trans e6))))) (c170) (z170.2.trans (z164.2.trans (z160.2.trans e4))), rfl⟩
set_option maxRecDepth 100000 in
set_option maxHeartbeats 1000000 in
theorem x_MA_st9 (u : ab_S) (st sd : List Nat) (h : CI u) (C : cM u st sd) (hh aa : Int32) (x a : Nat) (r : List Nat) (hL : st.length < 167) (hS : sd.length < 127) (e4 : u.1 7 0 4 = nI a) (e6 : u.1 7 0 6 = 0) (Wx : wX u a r) (G : gd x r st) (f0 : u.1 6 0 0 = 0) (f1 : u.1 6 0 1 = 0) (f2 : u.1 6 0 2 = hh) (f3 : u.1 6 0 3 = aa) (hx : x / 1000 = 9) : ab_C false l D ca y_MA_step b_MA_step 5 none 3 ab_nQ u [ab_O 7 0, ab_I (nI 9), ab_I (nI (x % 1000)), ab_O 5 0, ab_O 6 0] (fun u' w => sQ hh aa x r st sd a u u' ∧ w = none) := by
  refine ab_C.of (by decide) (Nat.le_of_ble_eq_true rfl) ?_
  intro p e s m args below meth c ad X hZ hr0 hlk
  have P0 : mQ u u := mQ.rf h
  cases st with
  | nil =>
    by_cases q1 : 0 = x % 1000
    ·
      refine ab_iload_n X 1 d_MA_step_0 rfl rfl ?_
      refine ab_tsw X [(1, 84), (2, 92), (3, 115), (4, 115), (5, 142), (6, 157), (7, 157), (8, 157), (9, 176), (17, 196)] 204 d_MA_step_1 (by decide +kernel) rfl (List.forall_mem_cons.mpr ⟨fun hsw => absurd hsw (by decide), List.forall_mem_cons.mpr ⟨fun hsw => absurd hsw (by decide), List.forall_mem_cons.mpr ⟨fun hsw => absurd hsw (by decide), List.forall_mem_cons.mpr ⟨fun hsw => absurd hsw (by decide), List.forall_mem_cons.mpr ⟨fun hsw => absurd hsw (by decide), List.forall_mem_cons.mpr ⟨fun hsw => absurd hsw (by decide), List.forall_mem_cons.mpr ⟨fun hsw => absurd hsw (by decide), List.forall_mem_cons.mpr ⟨fun hsw => absurd hsw (by decide), List.forall_mem_cons.mpr ⟨fun _ => ?_, List.forall_mem_cons.mpr ⟨fun hsw => absurd hsw (by decide), fun _ h => absurd h List.not_mem_nil⟩⟩⟩⟩⟩⟩⟩⟩⟩⟩) (fun hsw => absurd hsw (by decide))
      refine ab_aload_n X 0 d_MA_step_176 rfl rfl ?_
      refine ab_aload_n X 0 d_MA_step_177 rfl rfl ?_
      refine ab_callV (as := []) X (fun h => by cases h) (x_MA_takeNumber u [] sd h C (by decide)) lk_MA_74 d_MA_step_178 rfl rfl (by first | assumption | decide | (show _ < 124; omega) | (show _ < 61; omega) | (show _ < 20; omega)) ⟨by first | exact Nat.le_of_ble_eq_true rfl | (simp only [ab_rm]; omega), by first | exact Nat.le_of_ble_eq_true rfl | (simp only [ab_rm]; omega)⟩ ⟨by first | exact Nat.le_of_ble_eq_true rfl | (simp only [ab_rm]; omega), by first | exact Nat.le_of_ble_eq_true rfl | (simp only [ab_rm]; omega)⟩ (Nat.le_of_ble_eq_true rfl) (fun u178 r178 h178 => ?_)
      obtain ⟨⟨z178, c178, g178⟩, rfl⟩ := h178
      have q178 := z178.1
      have P178 := P0.trans q178 (by decide)
      refine ab_iload_n X 2 d_MA_step_181 rfl rfl ?_
      refine ab_icmp_ne X 189 d_MA_step_182 rfl (fun hb => absurd ((congrArg nI q1)) hb) (fun _ => ?_)
      refine ab_iconst (v := 1) X d_MA_step_185 (by decide) ?_
      refine ab_goto X 190 d_MA_step_186 rfl ?_
      refine ab_callV (as := [ab_I (nI 1)]) X (fun h => by cases h) (x_MA_push u178 1 [] sd P178.1 c178 (by decide) (by decide)) lk_MA_57 d_MA_step_190 rfl rfl (by first | assumption | decide | (show _ < 124; omega) | (show _ < 61; omega) | (show _ < 20; omega)) ⟨by first | exact Nat.le_of_ble_eq_true rfl | (simp only [ab_rm]; omega), by first | exact Nat.le_of_ble_eq_true rfl | (simp only [ab_rm]; omega)⟩ ⟨by first | exact Nat.le_of_ble_eq_true rfl | (simp only [ab_rm]; omega), by first | exact Nat.le_of_ble_eq_true rfl | (simp only [ab_rm]; omega)⟩ (Nat.le_of_ble_eq_true rfl) (fun u190 r190 h190 => ?_)
      obtain ⟨⟨z190, c190, g190⟩, rfl⟩ := h190
      have q190 := z190.1
      have P190 := P178.trans q190 (by decide)
      refine ab_goto X 210 d_MA_step_193 rfl ?_
      exact ab_retv X hr0 hlk d_MA_step_210 ⟨sQ.no P190 (show stp hh aa x r [] sd = none by simp [stp, hx]) (g190.trans (g178.trans tn_0)) (z190.2.trans (z178.2.trans e4)), rfl⟩
    ·
      refine ab_iload_n X 1 d_MA_step_0 rfl rfl ?_
      refine ab_tsw X [(1, 84), (2, 92), (3, 115), (4, 115), (5, 142), (6, 157), (7, 157), (8, 157), (9, 176), (17, 196)] 204 d_MA_step_1 (by decide +kernel) rfl (List.forall_mem_cons.mpr ⟨fun hsw => absurd hsw (by decide), List.forall_mem_cons.mpr ⟨fun hsw => absurd hsw (by decide), List.forall_mem_cons.mpr ⟨fun hsw => absurd hsw (by decide), List.forall_mem_cons.mpr ⟨fun hsw => absurd hsw (by decide), List.forall_mem_cons.mpr ⟨fun hsw => absurd hsw (by decide), List.forall_mem_cons.mpr ⟨fun hsw => absurd hsw (by decide), List.forall_mem_cons.mpr ⟨fun hsw => absurd hsw (by decide), List.forall_mem_cons.mpr ⟨fun hsw => absurd hsw (by decide), List.forall_mem_cons.mpr ⟨fun _ => ?_, List.forall_mem_cons.mpr ⟨fun hsw => absurd hsw (by decide), fun _ h => absurd h List.not_mem_nil⟩⟩⟩⟩⟩⟩⟩⟩⟩⟩) (fun hsw => absurd hsw (by decide))
      refine ab_aload_n X 0 d_MA_step_176 rfl rfl ?_
      refine ab_aload_n X 0 d_MA_step_177 rfl rfl ?_
      refine ab_callV (as := []) X (fun h => by cases h) (x_MA_takeNumber u [] sd h C (by decide)) lk_MA_74 d_MA_step_178 rfl rfl (by first | assumption | decide | (show _ < 124; omega) | (show _ < 61; omega) | (show _ < 20; omega)) ⟨by first | exact Nat.le_of_ble_eq_true rfl | (simp only [ab_rm]; omega), by first | exact Nat.le_of_ble_eq_true rfl | (simp only [ab_rm]; omega)⟩ ⟨by first | exact Nat.le_of_ble_eq_true rfl | (simp only [ab_rm]; omega), by first | exact Nat.le_of_ble_eq_true rfl | (simp only [ab_rm]; omega)⟩ (Nat.le_of_ble_eq_true rfl) (fun u178 r178 h178 => ?_)
      obtain ⟨⟨z178, c178, g178⟩, rfl⟩ := h178
      have q178 := z178.1
      have P178 := P0.trans q178 (by decide)
      refine ab_iload_n X 2 d_MA_step_181 rfl rfl ?_
      refine ab_icmp_ne X 189 d_MA_step_182 rfl (fun _ => ?_) (fun hb => absurd hb ((nI_ne (a := 0) (by decide) (by omega) q1)))
      refine ab_iconst (v := 0) X d_MA_step_189 (by decide) ?_
      refine ab_callV (as := [ab_I (nI 0)]) X (fun h => by cases h) (x_MA_push u178 0 [] sd P178.1 c178 (by decide) (by decide)) lk_MA_57 d_MA_step_190 rfl rfl (by first | assumption | decide | (show _ < 124; omega) | (show _ < 61; omega) | (show _ < 20; omega)) ⟨by first | exact Nat.le_of_ble_eq_true rfl | (simp only [ab_rm]; omega), by first | exact Nat.le_of_ble_eq_true rfl | (simp only [ab_rm]; omega)⟩ ⟨by first | exact Nat.le_of_ble_eq_true rfl | (simp only [ab_rm]; omega), by first | exact Nat.le_of_ble_eq_true rfl | (simp only [ab_rm]; omega)⟩ (Nat.le_of_ble_eq_true rfl) (fun u190 r190 h190 => ?_)
      obtain ⟨⟨z190, c190, g190⟩, rfl⟩ := h190
      have q190 := z190.1
      have P190 := P178.trans q190 (by decide)
      refine ab_goto X 210 d_MA_step_193 rfl ?_
      exact ab_retv X hr0 hlk d_MA_step_210 ⟨sQ.no P190 (show stp hh aa x r [] sd = none by simp [stp, hx]) (g190.trans (g178.trans tn_0)) (z190.2.trans (z178.2.trans e4)), rfl⟩
  | cons w t =>
    have hL : t.length + 1 < 167 := hL
    have hd : w < 2000 := C.1.2.1.2
    by_cases q9 : 9 < w
    · by_cases q1 : w = x % 1000
      ·
        refine ab_iload_n X 1 d_MA_step_0 rfl rfl ?_
        refine ab_tsw X [(1, 84), (2, 92), (3, 115), (4, 115), (5, 142), (6, 157), (7, 157), (8, 157), (9, 176), (17, 196)] 204 d_MA_step_1 (by decide +kernel) rfl (List.forall_mem_cons.mpr ⟨fun hsw => absurd hsw (by decide), List.forall_mem_cons.mpr ⟨fun hsw => absurd hsw (by decide), List.forall_mem_cons.mpr ⟨fun hsw => absurd hsw (by decide), List.forall_mem_cons.mpr ⟨fun hsw => absurd hsw (by decide), List.forall_mem_cons.mpr ⟨fun hsw => absurd hsw (by decide), List.forall_mem_cons.mpr ⟨fun hsw => absurd hsw (by decide), List.forall_mem_cons.mpr ⟨fun hsw => absurd hsw (by decide), List.forall_mem_cons.mpr ⟨fun hsw => absurd hsw (by decide), List.forall_mem_cons.mpr ⟨fun _ => ?_, List.forall_mem_cons.mpr ⟨fun hsw => absurd hsw (by decide), fun _ h => absurd h List.not_mem_nil⟩⟩⟩⟩⟩⟩⟩⟩⟩⟩) (fun hsw => absurd hsw (by decide))
        refine ab_aload_n X 0 d_MA_step_176 rfl rfl ?_
        refine ab_aload_n X 0 d_MA_step_177 rfl rfl ?_
        refine ab_callV (as := []) X (fun h => by cases h) (x_MA_takeNumber u (w :: t) sd h C (by show t.length + 1 ≤ 168; omega)) lk_MA_74 d_MA_step_178 rfl rfl (by first | assumption | decide | (show _ < 124; omega) | (show _ < 61; omega) | (show _ < 20; omega)) ⟨by first | exact Nat.le_of_ble_eq_true rfl | (simp only [ab_rm]; omega), by first | exact Nat.le_of_ble_eq_true rfl | (simp only [ab_rm]; omega)⟩ ⟨by first | exact Nat.le_of_ble_eq_true rfl | (simp only [ab_rm]; omega), by first | exact Nat.le_of_ble_eq_true rfl | (simp only [ab_rm]; omega)⟩ (Nat.le_of_ble_eq_true rfl) (fun u178 r178 h178 => ?_)
        obtain ⟨⟨z178, c178, g178⟩, rfl⟩ := h178
        have q178 := z178.1
        have P178 := P0.trans q178 (by decide)
        refine ab_iload_n X 2 d_MA_step_181 rfl rfl ?_
        refine ab_icmp_ne X 189 d_MA_step_182 rfl (fun hb => absurd ((congrArg nI q1)) hb) (fun _ => ?_)
        refine ab_iconst (v := 1) X d_MA_step_185 (by decide) ?_
        refine ab_goto X 190 d_MA_step_186 rfl ?_
        refine ab_callV (as := [ab_I (nI 1)]) X (fun h => by cases h) (x_MA_push u178 1 t sd P178.1 c178 (by decide) (by omega)) lk_MA_57 d_MA_step_190 rfl rfl (by first | assumption | decide | (show _ < 124; omega) | (show _ < 61; omega) | (show _ < 20; omega)) ⟨by first | exact Nat.le_of_ble_eq_true rfl | (simp only [ab_rm]; omega), by first | exact Nat.le_of_ble_eq_true rfl | (simp only [ab_rm]; omega)⟩ ⟨by first | exact Nat.le_of_ble_eq_true rfl | (simp only [ab_rm]; omega), by first | exact Nat.le_of_ble_eq_true rfl | (simp only [ab_rm]; omega)⟩ (Nat.le_of_ble_eq_true rfl) (fun u190 r190 h190 => ?_)
        obtain ⟨⟨z190, c190, g190⟩, rfl⟩ := h190
        have q190 := z190.1
        have P190 := P178.trans q190 (by decide)
        refine ab_goto X 210 d_MA_step_193 rfl ?_
        exact ab_retv X hr0 hlk d_MA_step_210 ⟨sQ.no P190 (show stp hh aa x r (w :: t) sd = none by simp [stp, hx, q9]) (g190.trans (g178.trans (tn_y q9))) (z190.2.trans (z178.2.trans e4)), rfl⟩
      ·
        refine ab_iload_n X 1 d_MA_step_0 rfl rfl ?_
        refine ab_tsw X [(1, 84), (2, 92), (3, 115), (4, 115), (5, 142), (6, 157), (7, 157), (8, 157), (9, 176), (17, 196)] 204 d_MA_step_1 (by decide +kernel) rfl (List.forall_mem_cons.mpr ⟨fun hsw => absurd hsw (by decide), List.forall_mem_cons.mpr ⟨fun hsw => absurd hsw (by decide), List.forall_mem_cons.mpr ⟨fun hsw => absurd hsw (by decide), List.forall_mem_cons.mpr ⟨fun hsw => absurd hsw (by decide), List.forall_mem_cons.mpr ⟨fun hsw => absurd hsw (by decide), List.forall_mem_cons.mpr ⟨fun hsw => absurd hsw (by decide), List.forall_mem_cons.mpr ⟨fun hsw => absurd hsw (by decide), List.forall_mem_cons.mpr ⟨fun hsw => absurd hsw (by decide), List.forall_mem_cons.mpr ⟨fun _ => ?_, List.forall_mem_cons.mpr ⟨fun hsw => absurd hsw (by decide), fun _ h => absurd h List.not_mem_nil⟩⟩⟩⟩⟩⟩⟩⟩⟩⟩) (fun hsw => absurd hsw (by decide))
        refine ab_aload_n X 0 d_MA_step_176 rfl rfl ?_
        refine ab_aload_n X 0 d_MA_step_177 rfl rfl ?_
        refine ab_callV (as := []) X (fun h => by cases h) (x_MA_takeNumber u (w :: t) sd h C (by show t.length + 1 ≤ 168; omega)) lk_MA_74 d_MA_step_178 rfl rfl (by first | assumption | decide | (show _ < 124; omega) | (show _ < 61; omega) | (show _ < 20; omega)) ⟨by first | exact Nat.le_of_ble_eq_true rfl | (simp only [ab_rm]; omega), by first | exact Nat.le_of_ble_eq_true rfl | (simp only [ab_rm]; omega)⟩ ⟨by first | exact Nat.le_of_ble_eq_true rfl | (simp only [ab_rm]; omega), by first | exact Nat.le_of_ble_eq_true rfl | (simp only [ab_rm]; omega)⟩ (Nat.le_of_ble_eq_true rfl) (fun u178 r178 h178 => ?_)
        obtain ⟨⟨z178, c178, g178⟩, rfl⟩ := h178
        have q178 := z178.1
        have P178 := P0.trans q178 (by decide)
        refine ab_iload_n X 2 d_MA_step_181 rfl rfl ?_
        refine ab_icmp_ne X 189 d_MA_step_182 rfl (fun _ => ?_) (fun hb => absurd hb ((nI_ne (a := w) (by omega) (by omega) q1)))
        refine ab_iconst (v := 0) X d_MA_step_189 (by decide) ?_
        refine ab_callV (as := [ab_I (nI 0)]) X (fun h => by cases h) (x_MA_push u178 0 t sd P178.1 c178 (by decide) (by omega)) lk_MA_57 d_MA_step_190 rfl rfl (by first | assumption | decide | (show _ < 124; omega) | (show _ < 61; omega) | (show _ < 20; omega)) ⟨by first | exact Nat.le_of_ble_eq_true rfl | (simp only [ab_rm]; omega), by first | exact Nat.le_of_ble_eq_true rfl | (simp only [ab_rm]; omega)⟩ ⟨by first | exact Nat.le_of_ble_eq_true rfl | (simp only [ab_rm]; omega), by first | exact Nat.le_of_ble_eq_true rfl | (simp only [ab_rm]; omega)⟩ (Nat.le_of_ble_eq_true rfl) (fun u190 r190 h190 => ?_)
        obtain ⟨⟨z190, c190, g190⟩, rfl⟩ := h190
        have q190 := z190.1
        have P190 := P178.trans q190 (by decide)
        refine ab_goto X 210 d_MA_step_193 rfl ?_
        exact ab_retv X hr0 hlk d_MA_step_210 ⟨sQ.no P190 (show stp hh aa x r (w :: t) sd = none by simp [stp, hx, q9]) (g190.trans (g178.trans (tn_y q9))) (z190.2.trans (z178.2.trans e4)), rfl⟩
    · have w9 : w ≤ 9 := by omega
      by_cases q1 : w = x % 1000
      ·
        refine ab_iload_n X 1 d_MA_step_0 rfl rfl ?_
        refine ab_tsw X [(1, 84), (2, 92), (3, 115), (4, 115), (5, 142), (6, 157), (7, 157), (8, 157), (9, 176), (17, 196)] 204 d_MA_step_1 (by decide +kernel) rfl (List.forall_mem_cons.mpr ⟨fun hsw => absurd hsw (by decide), List.forall_mem_cons.mpr ⟨fun hsw => absurd hsw (by decide), List.forall_mem_cons.mpr ⟨fun hsw => absurd hsw (by decide), List.forall_mem_cons.mpr ⟨fun hsw => absurd hsw (by decide), List.forall_mem_cons.mpr ⟨fun hsw => absurd hsw (by decide), List.forall_mem_cons.mpr ⟨fun hsw => absurd hsw (by decide), List.forall_mem_cons.mpr ⟨fun hsw => absurd hsw (by decide), List.forall_mem_cons.mpr ⟨fun hsw => absurd hsw (by decide), List.forall_mem_cons.mpr ⟨fun _ => ?_, List.forall_mem_cons.mpr ⟨fun hsw => absurd hsw (by decide), fun _ h => absurd h List.not_mem_nil⟩⟩⟩⟩⟩⟩⟩⟩⟩⟩) (fun hsw => absurd hsw (by decide))
        refine ab_aload_n X 0 d_MA_step_176 rfl rfl ?_
        refine ab_aload_n X 0 d_MA_step_177 rfl rfl ?_
        refine ab_callV (as := []) X (fun h => by cases h) (x_MA_takeNumber u (w :: t) sd h C (by show t.length + 1 ≤ 168; omega)) lk_MA_74 d_MA_step_178 rfl rfl (by first | assumption | decide | (show _ < 124; omega) | (show _ < 61; omega) | (show _ < 20; omega)) ⟨by first | exact Nat.le_of_ble_eq_true rfl | (simp only [ab_rm]; omega), by first | exact Nat.le_of_ble_eq_true rfl | (simp only [ab_rm]; omega)⟩ ⟨by first | exact Nat.le_of_ble_eq_true rfl | (simp only [ab_rm]; omega), by first | exact Nat.le_of_ble_eq_true rfl | (simp only [ab_rm]; omega)⟩ (Nat.le_of_ble_eq_true rfl) (fun u178 r178 h178 => ?_)
        obtain ⟨⟨z178, c178, g178⟩, rfl⟩ := h178
        have q178 := z178.1
        have P178 := P0.trans q178 (by decide)
        refine ab_iload_n X 2 d_MA_step_181 rfl rfl ?_
        refine ab_icmp_ne X 189 d_MA_step_182 rfl (fun hb => absurd ((congrArg nI q1)) hb) (fun _ => ?_)
        refine ab_iconst (v := 1) X d_MA_step_185 (by decide) ?_
        refine ab_goto X 190 d_MA_step_186 rfl ?_
        refine ab_callV (as := [ab_I (nI 1)]) X (fun h => by cases h) (x_MA_push u178 1 t sd P178.1 c178 (by decide) (by omega)) lk_MA_57 d_MA_step_190 rfl rfl (by first | assumption | decide | (show _ < 124; omega) | (show _ < 61; omega) | (show _ < 20; omega)) ⟨by first | exact Nat.le_of_ble_eq_true rfl | (simp only [ab_rm]; omega), by first | exact Nat.le_of_ble_eq_true rfl | (simp only [ab_rm]; omega)⟩ ⟨by first | exact Nat.le_of_ble_eq_true rfl | (simp only [ab_rm]; omega), by first | exact Nat.le_of_ble_eq_true rfl | (simp only [ab_rm]; omega)⟩ (Nat.le_of_ble_eq_true rfl) (fun u190 r190 h190 => ?_)
        obtain ⟨⟨z190, c190, g190⟩, rfl⟩ := h190
        have q190 := z190.1
        have P190 := P178.trans q190 (by decide)
        refine ab_goto X 210 d_MA_step_193 rfl ?_
        exact ab_retv X hr0 hlk d_MA_step_210 ⟨sQ.yes P190 (show stp hh aa x r (w :: t) sd = some (r, 1 :: t, sd) by rw [stp_9 hx w9, if_pos q1]) (g190.trans (g178.trans ((tn_n w9).trans e6))) c190 (z190.2.trans (z178.2.trans e4)), rfl⟩
      ·
        refine ab_iload_n X 1 d_MA_step_0 rfl rfl ?_
        refine ab_tsw X [(1, 84), (2, 92), (3, 115), (4, 115), (5, 142), (6, 157), (7, 157), (8, 157), (9, 176), (17, 196)] 204 d_MA_step_1 (by decide +kernel) rfl (List.forall_mem_cons.mpr ⟨fun hsw => absurd hsw (by decide), List.forall_mem_cons.mpr ⟨fun hsw => absurd hsw (by decide), List.forall_mem_cons.mpr ⟨fun hsw => absurd hsw (by decide), List.forall_mem_cons.mpr ⟨fun hsw => absurd hsw (by decide), List.forall_mem_cons.mpr ⟨fun hsw => absurd hsw (by decide), List.forall_mem_cons.mpr ⟨fun hsw => absurd hsw (by decide), List.forall_mem_cons.mpr ⟨fun hsw => absurd hsw (by decide), List.forall_mem_cons.mpr ⟨fun hsw => absurd hsw (by decide), List.forall_mem_cons.mpr ⟨fun _ => ?_, List.forall_mem_cons.mpr ⟨fun hsw => absurd hsw (by decide), fun _ h => absurd h List.not_mem_nil⟩⟩⟩⟩⟩⟩⟩⟩⟩⟩) (fun hsw => absurd hsw (by decide))
        refine ab_aload_n X 0 d_MA_step_176 rfl rfl ?_
        refine ab_aload_n X 0 d_MA_step_177 rfl rfl ?_
        refine ab_callV (as := []) X (fun h => by cases h) (x_MA_takeNumber u (w :: t) sd h C (by show t.length + 1 ≤ 168; omega)) lk_MA_74 d_MA_step_178 rfl rfl (by first | assumption | decide | (show _ < 124; omega) | (show _ < 61; omega) | (show _ < 20; omega)) ⟨by first | exact Nat.le_of_ble_eq_true rfl | (simp only [ab_rm]; omega), by first | exact Nat.le_of_ble_eq_true rfl | (simp only [ab_rm]; omega)⟩ ⟨by first | exact Nat.le_of_ble_eq_true rfl | (simp only [ab_rm]; omega), by first | exact Nat.le_of_ble_eq_true rfl | (simp only [ab_rm]; omega)⟩ (Nat.le_of_ble_eq_true rfl) (fun u178 r178 h178 => ?_)
        obtain ⟨⟨z178, c178, g178⟩, rfl⟩ := h178
        have q178 := z178.1
        have P178 := P0.trans q178 (by decide)
        refine ab_iload_n X 2 d_MA_step_181 rfl rfl ?_
        refine ab_icmp_ne X 189 d_MA_step_182 rfl (fun _ => ?_) (fun hb => absurd hb ((nI_ne (a := w) (by omega) (by omega) q1)))
        refine ab_iconst (v := 0) X d_MA_step_189 (by decide) ?_
        refine ab_callV (as := [ab_I (nI 0)]) X (fun h => by cases h) (x_MA_push u178 0 t sd P178.1 c178 (by decide) (by omega)) lk_MA_57 d_MA_step_190 rfl rfl (by first | assumption | decide | (show _ < 124; omega) | (show _ < 61; omega) | (show _ < 20; omega)) ⟨by first | exact Nat.le_of_ble_eq_true rfl | (simp only [ab_rm]; omega), by first | exact Nat.le_of_ble_eq_true rfl | (simp only [ab_rm]; omega)⟩ ⟨by first | exact Nat.le_of_ble_eq_true rfl | (simp only [ab_rm]; omega), by first | exact Nat.le_of_ble_eq_true rfl | (simp only [ab_rm]; omega)⟩ (Nat.le_of_ble_eq_true rfl) (fun u190 r190 h190 => ?_)
        obtain ⟨⟨z190, c190, g190⟩, rfl⟩ := h190
        have q190 := z190.1
        have P190 := P178.trans q190 (by decide)
        refine ab_goto X 210 d_MA_step_193 rfl ?_
        exact ab_retv X hr0 hlk d_MA_step_210 ⟨sQ.yes P190 (show stp hh aa x r (w :: t) sd = some (r, 0 :: t, sd) by rw [stp_9 hx w9, if_neg q1]) (g190.trans (g178.trans ((tn_n w9).trans e6))) c190 (z190.2.trans (z178.2.trans e4)), rfl⟩
set_option maxRecDepth 100000 in
set_option maxHeartbeats 1000000 in
theorem x_MA_st17 (u : ab_S) (st sd : List Nat) (h : CI u) (C : cM u st sd) (hh aa : Int32) (x a : Nat) (r : List Nat) (hL : st.length < 167) (hS : sd.length < 127) (e4 : u.1 7 0 4 = nI a) (e6 : u.1 7 0 6 = 0) (Wx : wX u a r) (G : gd x r st) (f0 : u.1 6 0 0 = 0) (f1 : u.1 6 0 1 = 0) (f2 : u.1 6 0 2 = hh) (f3 : u.1 6 0 3 = aa) (hx : x / 1000 = 17) : ab_C false l D ca y_MA_step b_MA_step 5 none 3 ab_nQ u [ab_O 7 0, ab_I (nI 17), ab_I (nI (x % 1000)), ab_O 5 0, ab_O 6 0] (fun u' w => sQ hh aa x r st sd a u u' ∧ w = none) := by
  refine ab_C.of (by decide) (Nat.le_of_ble_eq_true rfl) ?_
  intro p e s m args below meth c ad X hZ hr0 hlk
  have P0 : mQ u u := mQ.rf h
  refine ab_iload_n X 1 d_MA_step_0 rfl rfl ?_
  refine ab_tsw X [(1, 84), (2, 92), (3, 115), (4, 115), (5, 142), (6, 157), (7, 157), (8, 157), (9, 176), (17, 196)] 204 d_MA_step_1 (by decide +kernel) rfl (List.forall_mem_cons.mpr ⟨fun hsw => absurd hsw (by decide), List.forall_mem_cons.mpr ⟨fun hsw => absurd hsw (by decide), List.forall_mem_cons.mpr ⟨fun hsw => absurd hsw (by decide), List.forall_mem_cons.mpr ⟨fun hsw => absurd hsw (by decide), List.forall_mem_cons.mpr ⟨fun hsw => absurd hsw (by decide), List.forall_mem_cons.mpr ⟨fun hsw => absurd hsw (by decide), List.forall_mem_cons.mpr ⟨fun hsw => absurd hsw (by decide), List.forall_mem_cons.mpr ⟨fun hsw => absurd hsw (by decide), List.forall_mem_cons.mpr ⟨fun hsw => absurd hsw (by decide), List.forall_mem_cons.mpr ⟨fun _ => ?_, fun _ h => absurd h List.not_mem_nil⟩⟩⟩⟩⟩⟩⟩⟩⟩⟩) (fun hsw => absurd hsw (by decide))
  refine ab_aload_n X 0 d_MA_step_196 rfl rfl ?_
  refine ab_iconst (v := 0) X d_MA_step_197 (by decide) ?_
  refine ab_callV (as := [ab_I (nI 0)]) X (fun h => by cases h) (x_MA_push u 0 st sd P0.1 C (by decide) (by omega)) lk_MA_57 d_MA_step_198 rfl rfl (by first | assumption | decide | (show _ < 124; omega) | (show _ < 61; omega) | (show _ < 20; omega)) ⟨by first | exact Nat.le_of_ble_eq_true rfl | (simp only [ab_rm]; omega), by first | exact Nat.le_of_ble_eq_true rfl | (simp only [ab_rm]; omega)⟩ ⟨by first | exact Nat.le_of_ble_eq_true rfl | (simp only [ab_rm]; omega), by first | exact Nat.le_of_ble_eq_true rfl | (simp only [ab_rm]; omega)⟩ (Nat.le_of_ble_eq_true rfl) (fun u198 r198 h198 => ?_)
  obtain ⟨⟨z198, c198, g198⟩, rfl⟩ := h198
  have q198 := z198.1
  have P198 := P0.trans q198 (by decide)
  refine ab_goto X 210 d_MA_step_201 rfl ?_
  exact ab_retv X hr0 hlk d_MA_step_210 ⟨sQ.yes P198 (show stp hh aa x r st sd = some (r, 0 :: st, sd) by simp [stp, hx]) (g198.trans e6) (c198) (z198.2.trans e4), rfl⟩
theorem x_MA_step (u : ab_S) (st sd : List Nat) (h : CI u) (C : cM u st sd) (hh aa : Int32) (x a : Nat) (r : List Nat) (hL : st.length < 167) (hS : sd.length < 127) (e4 : u.1 7 0 4 = nI a) (e6 : u.1 7 0 6 = 0) (Wx : wX u a r) (G : gd x r st) (f0 : u.1 6 0 0 = 0) (f1 : u.1 6 0 1 = 0) (f2 : u.1 6 0 2 = hh) (f3 : u.1 6 0 3 = aa) (hx : 1000 ≤ x ∧ x < 18000) : ab_C false l D ca y_MA_step b_MA_step 5 none 3 ab_nQ u [ab_O 7 0, ab_I (nI (x / 1000)), ab_I (nI (x % 1000)), ab_O 5 0, ab_O 6 0] (fun u' w => sQ hh aa x r st sd a u u' ∧ w = none) := by
  have h17 : x / 1000 = 1 ∨ x / 1000 = 2 ∨ x / 1000 = 3 ∨ x / 1000 = 4 ∨ x / 1000 = 5 ∨ x / 1000 = 6 ∨ x / 1000 = 7 ∨ x / 1000 = 8 ∨ x / 1000 = 9 ∨ x / 1000 = 10 ∨ x / 1000 = 11 ∨ x / 1000 = 12 ∨ x / 1000 = 13 ∨ x / 1000 = 14 ∨ x / 1000 = 15 ∨ x / 1000 = 16 ∨ x / 1000 = 17 := by omega
  rcases h17 with h17 | h17 | h17 | h17 | h17 | h17 | h17 | h17 | h17 | h17 | h17 | h17 | h17 | h17 | h17 | h17 | h17
  · rw [h17]; exact x_MA_st1 u st sd h C hh aa x a r hL hS e4 e6 Wx G f0 f1 f2 f3 h17
  · rw [h17]; exact x_MA_st2 u st sd h C hh aa x a r hL hS e4 e6 Wx G f0 f1 f2 f3 h17
  · rw [h17]; exact x_MA_st3 u st sd h C hh aa x a r hL hS e4 e6 Wx G f0 f1 f2 f3 h17
  · rw [h17]; exact x_MA_st4 u st sd h C hh aa x a r hL hS e4 e6 Wx G f0 f1 f2 f3 h17
  · rw [h17]; exact x_MA_st5 u st sd h C hh aa x a r hL hS e4 e6 Wx G f0 f1 f2 f3 h17
  · rw [h17]; exact x_MA_st6 u st sd h C hh aa x a r hL hS e4 e6 Wx G f0 f1 f2 f3 h17
  · rw [h17]; exact x_MA_st7 u st sd h C hh aa x a r hL hS e4 e6 Wx G f0 f1 f2 f3 h17
  · rw [h17]; exact x_MA_st8 u st sd h C hh aa x a r hL hS e4 e6 Wx G f0 f1 f2 f3 h17
  · rw [h17]; exact x_MA_st9 u st sd h C hh aa x a r hL hS e4 e6 Wx G f0 f1 f2 f3 h17
  · rw [h17]; exact x_MA_st10 u st sd h C hh aa x a r hL hS e4 e6 Wx G f0 f1 f2 f3 h17
  · rw [h17]; exact x_MA_st11 u st sd h C hh aa x a r hL hS e4 e6 Wx G f0 f1 f2 f3 h17
  · rw [h17]; exact x_MA_st12 u st sd h C hh aa x a r hL hS e4 e6 Wx G f0 f1 f2 f3 h17
  · rw [h17]; exact x_MA_st13 u st sd h C hh aa x a r hL hS e4 e6 Wx G f0 f1 f2 f3 h17
  · rw [h17]; exact x_MA_st14 u st sd h C hh aa x a r hL hS e4 e6 Wx G f0 f1 f2 f3 h17
  · rw [h17]; exact x_MA_st15 u st sd h C hh aa x a r hL hS e4 e6 Wx G f0 f1 f2 f3 h17
  · rw [h17]; exact x_MA_st16 u st sd h C hh aa x a r hL hS e4 e6 Wx G f0 f1 f2 f3 h17
  · rw [h17]; exact x_MA_st17 u st sd h C hh aa x a r hL hS e4 e6 Wx G f0 f1 f2 f3 h17
end SaXStep

