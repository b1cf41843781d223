/-! The reference's machine, one word. -/
/-- one word done: it has failed, or stack and place are the next ones -/
def sR (hh aa : Int32) (x : Nat) (r st sd : List Nat) (i : Nat) (u u' : ab_S) (v : Option ab_V) : Prop := gP [35, 37, 40, 118, 119] u u' ∧ ((stp hh aa x r st sd = none ∧ u'.1 17 0 40 = 1 ∧ ∃ y : Int32, v = some (ab_I y)) ∨ ∃ r' st' sd', stp hh aa x r st sd = some (r', st', sd') ∧ u'.1 17 0 40 = 0 ∧ rM u' st' sd' ∧ v = some (ab_I (nI (i + 1 + (r.length - r'.length)))))
theorem sR.no {hh aa : Int32} {x : Nat} {r st sd : List Nat} {i : Nat} {u u' : ab_S} {y : Int32} (z : gP [35, 37, 40, 118, 119] u u') (e : stp hh aa x r st sd = none) (f : u'.1 17 0 40 = 1) : sR hh aa x r st sd i u u' (some (ab_I y)) := ⟨z, Or.inl ⟨e, f, y, rfl⟩⟩
theorem sR.yes {hh aa : Int32} {x : Nat} {r st sd st' sd' : List Nat} {i : Nat} {u u' : ab_S} (z : gP [35, 37, 40, 118, 119] u u') (e : stp hh aa x r st sd = some (r, st', sd')) (f : u'.1 17 0 40 = 0) (c : rM u' st' sd') : sR hh aa x r st sd i u u' (some (ab_I (nI (i + 1)))) := ⟨z, Or.inr ⟨r, st', sd', e, f, c, by rw [Nat.sub_self, Nat.add_zero]⟩⟩
theorem sR.jmp {hh aa : Int32} {x w n : Nat} {r st sd st' sd' : List Nat} {i : Nat} {u u' : ab_S} (z : gP [35, 37, 40, 118, 119] u u') (hf : fnd w 0 r = some n) (e : stp hh aa x r st sd = some (skw w r, st', sd')) (f : u'.1 17 0 40 = 0) (c : rM u' st' sd') : sR hh aa x r st sd i u u' (some (ab_I (nI (i + 1 + n + 1)))) := ⟨z, Or.inr ⟨_, st', sd', e, f, c, by have hn := fnd_lt hf; rw [skw_e hf, List.length_drop, show r.length - (r.length - (n + 1)) = n + 1 by omega]; rfl⟩⟩
def sK (hh aa : Int32) (x : Nat) (r st sd : List Nat) (i : Nat) (u' : ab_S) (v : Int32) : Prop := (stp hh aa x r st sd = none ∧ u'.1 17 0 40 = 1) ∨ ∃ r' st' sd', stp hh aa x r st sd = some (r', st', sd') ∧ u'.1 17 0 40 = 0 ∧ rM u' st' sd' ∧ v = nI (i + 1 + (r.length - r'.length))
theorem sR.val {hh aa : Int32} {x : Nat} {r st sd : List Nat} {i : Nat} {u u' : ab_S} {w : Option ab_V} (h : sR hh aa x r st sd i u u' w) : gP [35, 37, 40, 118, 119] u u' ∧ ∃ v : Int32, sK hh aa x r st sd i u' v ∧ w = some (ab_I v) := by
  obtain ⟨g, ⟨e, f, y, rfl⟩ | ⟨r', st', sd', e, f, c, rfl⟩⟩ := h
  · exact ⟨g, y, Or.inl ⟨e, f⟩, rfl⟩
  · exact ⟨g, _, Or.inr ⟨r', st', sd', e, f, c, rfl⟩, rfl⟩
theorem jnd_c {o a b : Nat} : jnd o a b = jnd o b a := by
  unfold jnd
  rw [Nat.add_comm]
  repeat' split
  all_goals first | rfl | omega
section SaXRStep
variable {l : Launch} {D : va_G} {ca : Nat → ClassId}
set_option maxRecDepth 100000 in
set_option maxHeartbeats 1000000 in
theorem z_MO_join6 (u : ab_S) (st sd : List Nat) (h : mR u.2.1) (C : rM u st sd) (hL : st.length < 127) (e6 : u.1 17 0 40 = 0) : ab_C false l D ca y_MO_join b_MO_join 4 none 2 ab_nQ u [ab_O 17 0, ab_I (nI 6)] (fun u' w => (gP [35, 37, 40, 118, 119] u u' ∧ ((u'.1 17 0 40 = 1 ∧ (st.length < 2 ∨ 9 < st.headD 0 ∨ 9 < st.tail.headD 0)) ∨ ∃ a b t, st = a :: b :: t ∧ a ≤ 9 ∧ b ≤ 9 ∧ u'.1 17 0 40 = 0 ∧ rM u' (jnd 6 a b :: t) sd)) ∧ w = none) := by
  refine ab_C.of (by decide) (Nat.le_of_ble_eq_true rfl) ?_
  intro p e s m args below meth c ad X hZ hr0 hlk
  have P0 : gP [35, 37, 40, 118, 119] u u := gP.rf h
  cases st with
  | nil =>
    refine ab_aload_n X 0 d_MO_join_0 rfl rfl ?_
    refine ab_callV (as := []) X (fun h => by cases h) (z_MO_takeNumber u [] sd h C (by decide)) lk_MO_298 d_MO_join_1 rfl rfl (by first | assumption | decide | (show _ < 124; omega) | (show _ < 61; omega) | (show _ < 20; omega)) ⟨by first | exact Nat.le_of_ble_eq_true rfl | (simp only [ab_rm]; omega), by first | exact Nat.le_of_ble_eq_true rfl | (simp only [ab_rm]; omega)⟩ ⟨by first | exact Nat.le_of_ble_eq_true rfl | (simp only [ab_rm]; omega), by first | exact Nat.le_of_ble_eq_true rfl | (simp only [ab_rm]; omega)⟩ (Nat.le_of_ble_eq_true rfl) (fun u1 r1 h1 => ?_)
    obtain ⟨⟨z1, c1, g1⟩, rfl⟩ := h1
    have q1 := z1
    have P1 := P0.trans q1 (by decide)
    refine ab_istore_n2 X 0 1 d_MO_join_4 rfl (by decide) rfl rfl rfl rfl ?_
    refine ab_aload_n X 1 d_MO_join_5 rfl rfl ?_
    refine ab_callV (as := []) X (fun h => by cases h) (z_MO_takeNumber u1 [] sd P1.1 c1 (by decide)) lk_MO_298 d_MO_join_6 rfl rfl (by first | assumption | decide | (show _ < 124; omega) | (show _ < 61; omega) | (show _ < 20; omega)) ⟨by first | exact Nat.le_of_ble_eq_true rfl | (simp only [ab_rm]; omega), by first | exact Nat.le_of_ble_eq_true rfl | (simp only [ab_rm]; omega)⟩ ⟨by first | exact Nat.le_of_ble_eq_true rfl | (simp only [ab_rm]; omega), by first | exact Nat.le_of_ble_eq_true rfl | (simp only [ab_rm]; omega)⟩ (Nat.le_of_ble_eq_true rfl) (fun u6 r6 h6 => ?_)
    obtain ⟨⟨z6, c6, g6⟩, rfl⟩ := h6
    have q6 := z6
    have P6 := P1.trans q6 (by decide)
    refine ab_istore_n3 X 0 1 2 d_MO_join_9 rfl (by decide) rfl rfl rfl rfl rfl rfl ?_
    refine ab_aload_n X 2 d_MO_join_10 rfl rfl ?_
    refine ab_iload_n X 3 d_MO_join_11 rfl rfl ?_
    refine ab_bipush (v := 8) X d_MO_join_12 (by decide) ?_
    refine ab_icmp_ne X 23 d_MO_join_14 rfl (fun _ => ?_) (fun hb => absurd hb ((by decide)))
    refine ab_iload_n X 3 d_MO_join_23 rfl rfl ?_
    refine ab_bipush (v := 6) X d_MO_join_24 (by decide) ?_
    refine ab_icmp_ne X 45 d_MO_join_26 rfl (fun hb => absurd (rfl) hb) (fun _ => ?_)
    refine ab_iload_n X 0 d_MO_join_29 rfl rfl ?_
    refine ab_if_eq X 41 d_MO_join_30 rfl (fun _ => ?_) (fun hb => absurd (rfl) hb)
    refine ab_iconst (v := 0) X d_MO_join_41 (by decide) ?_
    refine ab_goto X 58 d_MO_join_42 rfl ?_
    refine ab_callV (as := [ab_I (nI (0))]) X (fun h => by cases h) (z_MO_putX u6 (nI (0)) [] sd P6.1 c6 (by first | decide | omega)) lk_MO_301 d_MO_join_58 rfl rfl (by first | assumption | decide | (show _ < 124; omega) | (show _ < 61; omega) | (show _ < 20; omega)) ⟨by first | exact Nat.le_of_ble_eq_true rfl | (simp only [ab_rm]; omega), by first | exact Nat.le_of_ble_eq_true rfl | (simp only [ab_rm]; omega)⟩ ⟨by first | exact Nat.le_of_ble_eq_true rfl | (simp only [ab_rm]; omega), by first | exact Nat.le_of_ble_eq_true rfl | (simp only [ab_rm]; omega)⟩ (Nat.le_of_ble_eq_true rfl) (fun u58 r58 h58 => ?_)
    obtain ⟨⟨z58, g58⟩, rfl⟩ := h58
    have q58 := z58
    have P58 := P6.trans q58 (by decide)
    exact ab_retv X hr0 hlk d_MO_join_61 ⟨⟨P58, Or.inl ⟨g58.trans (g6.trans tn_0), Or.inl (by decide)⟩⟩, rfl⟩
  | cons a t =>
    have ha : a < 2000 := C.1.2.1.2
    cases t with
    | nil =>
      by_cases a0 : a = 0
      ·
        refine ab_aload_n X 0 d_MO_join_0 rfl rfl ?_
        refine ab_callV (as := []) X (fun h => by cases h) (z_MO_takeNumber u [a] sd h C (show 1 ≤ 128 by decide)) lk_MO_298 d_MO_join_1 rfl rfl (by first | assumption | decide | (show _ < 124; omega) | (show _ < 61; omega) | (show _ < 20; omega)) ⟨by first | exact Nat.le_of_ble_eq_true rfl | (simp only [ab_rm]; omega), by first | exact Nat.le_of_ble_eq_true rfl | (simp only [ab_rm]; omega)⟩ ⟨by first | exact Nat.le_of_ble_eq_true rfl | (simp only [ab_rm]; omega), by first | exact Nat.le_of_ble_eq_true rfl | (simp only [ab_rm]; omega)⟩ (Nat.le_of_ble_eq_true rfl) (fun u1 r1 h1 => ?_)
        obtain ⟨⟨z1, c1, g1⟩, rfl⟩ := h1
        have q1 := z1
        have P1 := P0.trans q1 (by decide)
        refine ab_istore_n2 X 0 1 d_MO_join_4 rfl (by decide) rfl rfl rfl rfl ?_
        refine ab_aload_n X 1 d_MO_join_5 rfl rfl ?_
        refine ab_callV (as := []) X (fun h => by cases h) (z_MO_takeNumber u1 [] sd P1.1 c1 (by decide)) lk_MO_298 d_MO_join_6 rfl rfl (by first | assumption | decide | (show _ < 124; omega) | (show _ < 61; omega) | (show _ < 20; omega)) ⟨by first | exact Nat.le_of_ble_eq_true rfl | (simp only [ab_rm]; omega), by first | exact Nat.le_of_ble_eq_true rfl | (simp only [ab_rm]; omega)⟩ ⟨by first | exact Nat.le_of_ble_eq_true rfl | (simp only [ab_rm]; omega), by first | exact Nat.le_of_ble_eq_true rfl | (simp only [ab_rm]; omega)⟩ (Nat.le_of_ble_eq_true rfl) (fun u6 r6 h6 => ?_)
        obtain ⟨⟨z6, c6, g6⟩, rfl⟩ := h6
        have q6 := z6
        have P6 := P1.trans q6 (by decide)
        refine ab_istore_n3 X 0 1 2 d_MO_join_9 rfl (by decide) rfl rfl rfl rfl rfl rfl ?_
        refine ab_aload_n X 2 d_MO_join_10 rfl rfl ?_
        refine ab_iload_n X 3 d_MO_join_11 rfl rfl ?_
        refine ab_bipush (v := 8) X d_MO_join_12 (by decide) ?_
        refine ab_icmp_ne X 23 d_MO_join_14 rfl (fun _ => ?_) (fun hb => absurd hb ((by decide)))
        refine ab_iload_n X 3 d_MO_join_23 rfl rfl ?_
        refine ab_bipush (v := 6) X d_MO_join_24 (by decide) ?_
        refine ab_icmp_ne X 45 d_MO_join_26 rfl (fun hb => absurd (rfl) hb) (fun _ => ?_)
        refine ab_iload_n X 0 d_MO_join_29 rfl rfl ?_
        refine ab_if_eq X 41 d_MO_join_30 rfl (fun _ => ?_) (fun hb => absurd (rfl) hb)
        refine ab_iconst (v := 0) X d_MO_join_41 (by decide) ?_
        refine ab_goto X 58 d_MO_join_42 rfl ?_
        refine ab_callV (as := [ab_I (nI (0))]) X (fun h => by cases h) (z_MO_putX u6 (nI (0)) [] sd P6.1 c6 (by first | decide | omega)) lk_MO_301 d_MO_join_58 rfl rfl (by first | assumption | decide | (show _ < 124; omega) | (show _ < 61; omega) | (show _ < 20; omega)) ⟨by first | exact Nat.le_of_ble_eq_true rfl | (simp only [ab_rm]; omega), by first | exact Nat.le_of_ble_eq_true rfl | (simp only [ab_rm]; omega)⟩ ⟨by first | exact Nat.le_of_ble_eq_true rfl | (simp only [ab_rm]; omega), by first | exact Nat.le_of_ble_eq_true rfl | (simp only [ab_rm]; omega)⟩ (Nat.le_of_ble_eq_true rfl) (fun u58 r58 h58 => ?_)
        obtain ⟨⟨z58, g58⟩, rfl⟩ := h58
        have q58 := z58
        have P58 := P6.trans q58 (by decide)
        exact ab_retv X hr0 hlk d_MO_join_61 ⟨⟨P58, Or.inl ⟨g58.trans (g6.trans tn_0), Or.inl (show 1 < 2 by decide)⟩⟩, rfl⟩
      ·
        refine ab_aload_n X 0 d_MO_join_0 rfl rfl ?_
        refine ab_callV (as := []) X (fun h => by cases h) (z_MO_takeNumber u [a] sd h C (show 1 ≤ 128 by decide)) lk_MO_298 d_MO_join_1 rfl rfl (by first | assumption | decide | (show _ < 124; omega) | (show _ < 61; omega) | (show _ < 20; omega)) ⟨by first | exact Nat.le_of_ble_eq_true rfl | (simp only [ab_rm]; omega), by first | exact Nat.le_of_ble_eq_true rfl | (simp only [ab_rm]; omega)⟩ ⟨by first | exact Nat.le_of_ble_eq_true rfl | (simp only [ab_rm]; omega), by first | exact Nat.le_of_ble_eq_true rfl | (simp only [ab_rm]; omega)⟩ (Nat.le_of_ble_eq_true rfl) (fun u1 r1 h1 => ?_)
        obtain ⟨⟨z1, c1, g1⟩, rfl⟩ := h1
        have q1 := z1
        have P1 := P0.trans q1 (by decide)
        refine ab_istore_n2 X 0 1 d_MO_join_4 rfl (by decide) rfl rfl rfl rfl ?_
        refine ab_aload_n X 1 d_MO_join_5 rfl rfl ?_
        refine ab_callV (as := []) X (fun h => by cases h) (z_MO_takeNumber u1 [] sd P1.1 c1 (by decide)) lk_MO_298 d_MO_join_6 rfl rfl (by first | assumption | decide | (show _ < 124; omega) | (show _ < 61; omega) | (show _ < 20; omega)) ⟨by first | exact Nat.le_of_ble_eq_true rfl | (simp only [ab_rm]; omega), by first | exact Nat.le_of_ble_eq_true rfl | (simp only [ab_rm]; omega)⟩ ⟨by first | exact Nat.le_of_ble_eq_true rfl | (simp only [ab_rm]; omega), by first | exact Nat.le_of_ble_eq_true rfl | (simp only [ab_rm]; omega)⟩ (Nat.le_of_ble_eq_true rfl) (fun u6 r6 h6 => ?_)
        obtain ⟨⟨z6, c6, g6⟩, rfl⟩ := h6
        have q6 := z6
        have P6 := P1.trans q6 (by decide)
        refine ab_istore_n3 X 0 1 2 d_MO_join_9 rfl (by decide) rfl rfl rfl rfl rfl rfl ?_
        refine ab_aload_n X 2 d_MO_join_10 rfl rfl ?_
        refine ab_iload_n X 3 d_MO_join_11 rfl rfl ?_
        refine ab_bipush (v := 8) X d_MO_join_12 (by decide) ?_
        refine ab_icmp_ne X 23 d_MO_join_14 rfl (fun _ => ?_) (fun hb => absurd hb ((by decide)))
        refine ab_iload_n X 3 d_MO_join_23 rfl rfl ?_
        refine ab_bipush (v := 6) X d_MO_join_24 (by decide) ?_
        refine ab_icmp_ne X 45 d_MO_join_26 rfl (fun hb => absurd (rfl) hb) (fun _ => ?_)
        refine ab_iload_n X 0 d_MO_join_29 rfl rfl ?_
        refine ab_if_eq X 41 d_MO_join_30 rfl (fun _ => ?_) (fun hb => absurd (rfl) hb)
        refine ab_iconst (v := 0) X d_MO_join_41 (by decide) ?_
        refine ab_goto X 58 d_MO_join_42 rfl ?_
        refine ab_callV (as := [ab_I (nI (0))]) X (fun h => by cases h) (z_MO_putX u6 (nI (0)) [] sd P6.1 c6 (by first | decide | omega)) lk_MO_301 d_MO_join_58 rfl rfl (by first | assumption | decide | (show _ < 124; omega) | (show _ < 61; omega) | (show _ < 20; omega)) ⟨by first | exact Nat.le_of_ble_eq_true rfl | (simp only [ab_rm]; omega), by first | exact Nat.le_of_ble_eq_true rfl | (simp only [ab_rm]; omega)⟩ ⟨by first | exact Nat.le_of_ble_eq_true rfl | (simp only [ab_rm]; omega), by first | exact Nat.le_of_ble_eq_true rfl | (simp only [ab_rm]; omega)⟩ (Nat.le_of_ble_eq_true rfl) (fun u58 r58 h58 => ?_)
        obtain ⟨⟨z58, g58⟩, rfl⟩ := h58
        have q58 := z58
        have P58 := P6.trans q58 (by decide)
        exact ab_retv X hr0 hlk d_MO_join_61 ⟨⟨P58, Or.inl ⟨g58.trans (g6.trans tn_0), Or.inl (show 1 < 2 by decide)⟩⟩, rfl⟩
    | cons b t =>
      have hb : b < 2000 := C.1.2.2.1.2
      have hL : t.length + 1 + 1 < 127 := hL
      by_cases a0 : a = 0
      ·
        by_cases b0 : b = 0
        ·
          by_cases a9 : 9 < a
          ·
            refine ab_aload_n X 0 d_MO_join_0 rfl rfl ?_
            refine ab_callV (as := []) X (fun h => by cases h) (z_MO_takeNumber u (a :: b :: t) sd h C (by show t.length + 1 + 1 ≤ 128; omega)) lk_MO_298 d_MO_join_1 rfl rfl (by first | assumption | decide | (show _ < 124; omega) | (show _ < 61; omega) | (show _ < 20; omega)) ⟨by first | exact Nat.le_of_ble_eq_true rfl | (simp only [ab_rm]; omega), by first | exact Nat.le_of_ble_eq_true rfl | (simp only [ab_rm]; omega)⟩ ⟨by first | exact Nat.le_of_ble_eq_true rfl | (simp only [ab_rm]; omega), by first | exact Nat.le_of_ble_eq_true rfl | (simp only [ab_rm]; omega)⟩ (Nat.le_of_ble_eq_true rfl) (fun u1 r1 h1 => ?_)
            obtain ⟨⟨z1, c1, g1⟩, rfl⟩ := h1
            have q1 := z1
            have P1 := P0.trans q1 (by decide)
            refine ab_istore_n2 X 0 1 d_MO_join_4 rfl (by decide) rfl rfl rfl rfl ?_
            refine ab_aload_n X 1 d_MO_join_5 rfl rfl ?_
            refine ab_callV (as := []) X (fun h => by cases h) (z_MO_takeNumber u1 (b :: t) sd P1.1 c1 (by show t.length + 1 ≤ 128; omega)) lk_MO_298 d_MO_join_6 rfl rfl (by first | assumption | decide | (show _ < 124; omega) | (show _ < 61; omega) | (show _ < 20; omega)) ⟨by first | exact Nat.le_of_ble_eq_true rfl | (simp only [ab_rm]; omega), by first | exact Nat.le_of_ble_eq_true rfl | (simp only [ab_rm]; omega)⟩ ⟨by first | exact Nat.le_of_ble_eq_true rfl | (simp only [ab_rm]; omega), by first | exact Nat.le_of_ble_eq_true rfl | (simp only [ab_rm]; omega)⟩ (Nat.le_of_ble_eq_true rfl) (fun u6 r6 h6 => ?_)
            obtain ⟨⟨z6, c6, g6⟩, rfl⟩ := h6
            have q6 := z6
            have P6 := P1.trans q6 (by decide)
            refine ab_istore_n3 X 0 1 2 d_MO_join_9 rfl (by decide) rfl rfl rfl rfl rfl rfl ?_
            refine ab_aload_n X 2 d_MO_join_10 rfl rfl ?_
            refine ab_iload_n X 3 d_MO_join_11 rfl rfl ?_
            refine ab_bipush (v := 8) X d_MO_join_12 (by decide) ?_
            refine ab_icmp_ne X 23 d_MO_join_14 rfl (fun _ => ?_) (fun hb => absurd hb ((by decide)))
            refine ab_iload_n X 3 d_MO_join_23 rfl rfl ?_
            refine ab_bipush (v := 6) X d_MO_join_24 (by decide) ?_
            refine ab_icmp_ne X 45 d_MO_join_26 rfl (fun hb => absurd (rfl) hb) (fun _ => ?_)
            refine ab_iload_n X 0 d_MO_join_29 rfl rfl ?_
            refine ab_if_eq X 41 d_MO_join_30 rfl (fun _ => ?_) (fun hb => absurd ((congrArg nI b0)) hb)
            refine ab_iconst (v := 0) X d_MO_join_41 (by decide) ?_
            refine ab_goto X 58 d_MO_join_42 rfl ?_
            refine ab_callV (as := [ab_I (nI (0))]) X (fun h => by cases h) (z_MO_putX u6 (nI (0)) t sd P6.1 c6 (by first | decide | omega)) lk_MO_301 d_MO_join_58 rfl rfl (by first | assumption | decide | (show _ < 124; omega) | (show _ < 61; omega) | (show _ < 20; omega)) ⟨by first | exact Nat.le_of_ble_eq_true rfl | (simp only [ab_rm]; omega), by first | exact Nat.le_of_ble_eq_true rfl | (simp only [ab_rm]; omega)⟩ ⟨by first | exact Nat.le_of_ble_eq_true rfl | (simp only [ab_rm]; omega), by first | exact Nat.le_of_ble_eq_true rfl | (simp only [ab_rm]; omega)⟩ (Nat.le_of_ble_eq_true rfl) (fun u58 r58 h58 => ?_)
            obtain ⟨⟨z58, g58⟩, rfl⟩ := h58
            have q58 := z58
            have P58 := P6.trans q58 (by decide)
            exact ab_retv X hr0 hlk d_MO_join_61 ⟨⟨P58, Or.inl ⟨g58.trans (g6.trans (tn_1 (g1.trans (tn_y a9)))), Or.inr (Or.inl a9)⟩⟩, rfl⟩
          · by_cases b9 : 9 < b
            ·
              refine ab_aload_n X 0 d_MO_join_0 rfl rfl ?_
              refine ab_callV (as := []) X (fun h => by cases h) (z_MO_takeNumber u (a :: b :: t) sd h C (by show t.length + 1 + 1 ≤ 128; omega)) lk_MO_298 d_MO_join_1 rfl rfl (by first | assumption | decide | (show _ < 124; omega) | (show _ < 61; omega) | (show _ < 20; omega)) ⟨by first | exact Nat.le_of_ble_eq_true rfl | (simp only [ab_rm]; omega), by first | exact Nat.le_of_ble_eq_true rfl | (simp only [ab_rm]; omega)⟩ ⟨by first | exact Nat.le_of_ble_eq_true rfl | (simp only [ab_rm]; omega), by first | exact Nat.le_of_ble_eq_true rfl | (simp only [ab_rm]; omega)⟩ (Nat.le_of_ble_eq_true rfl) (fun u1 r1 h1 => ?_)
              obtain ⟨⟨z1, c1, g1⟩, rfl⟩ := h1
              have q1 := z1
              have P1 := P0.trans q1 (by decide)
              refine ab_istore_n2 X 0 1 d_MO_join_4 rfl (by decide) rfl rfl rfl rfl ?_
              refine ab_aload_n X 1 d_MO_join_5 rfl rfl ?_
              refine ab_callV (as := []) X (fun h => by cases h) (z_MO_takeNumber u1 (b :: t) sd P1.1 c1 (by show t.length + 1 ≤ 128; omega)) lk_MO_298 d_MO_join_6 rfl rfl (by first | assumption | decide | (show _ < 124; omega) | (show _ < 61; omega) | (show _ < 20; omega)) ⟨by first | exact Nat.le_of_ble_eq_true rfl | (simp only [ab_rm]; omega), by first | exact Nat.le_of_ble_eq_true rfl | (simp only [ab_rm]; omega)⟩ ⟨by first | exact Nat.le_of_ble_eq_true rfl | (simp only [ab_rm]; omega), by first | exact Nat.le_of_ble_eq_true rfl | (simp only [ab_rm]; omega)⟩ (Nat.le_of_ble_eq_true rfl) (fun u6 r6 h6 => ?_)
              obtain ⟨⟨z6, c6, g6⟩, rfl⟩ := h6
              have q6 := z6
              have P6 := P1.trans q6 (by decide)
              refine ab_istore_n3 X 0 1 2 d_MO_join_9 rfl (by decide) rfl rfl rfl rfl rfl rfl ?_
              refine ab_aload_n X 2 d_MO_join_10 rfl rfl ?_
              refine ab_iload_n X 3 d_MO_join_11 rfl rfl ?_
              refine ab_bipush (v := 8) X d_MO_join_12 (by decide) ?_
              refine ab_icmp_ne X 23 d_MO_join_14 rfl (fun _ => ?_) (fun hb => absurd hb ((by decide)))
              refine ab_iload_n X 3 d_MO_join_23 rfl rfl ?_
              refine ab_bipush (v := 6) X d_MO_join_24 (by decide) ?_
              refine ab_icmp_ne X 45 d_MO_join_26 rfl (fun hb => absurd (rfl) hb) (fun _ => ?_)
              refine ab_iload_n X 0 d_MO_join_29 rfl rfl ?_
              refine ab_if_eq X 41 d_MO_join_30 rfl (fun _ => ?_) (fun hb => absurd ((congrArg nI b0)) hb)
              refine ab_iconst (v := 0) X d_MO_join_41 (by decide) ?_
              refine ab_goto X 58 d_MO_join_42 rfl ?_
              refine ab_callV (as := [ab_I (nI (0))]) X (fun h => by cases h) (z_MO_putX u6 (nI (0)) t sd P6.1 c6 (by first | decide | omega)) lk_MO_301 d_MO_join_58 rfl rfl (by first | assumption | decide | (show _ < 124; omega) | (show _ < 61; omega) | (show _ < 20; omega)) ⟨by first | exact Nat.le_of_ble_eq_true rfl | (simp only [ab_rm]; omega), by first | exact Nat.le_of_ble_eq_true rfl | (simp only [ab_rm]; omega)⟩ ⟨by first | exact Nat.le_of_ble_eq_true rfl | (simp only [ab_rm]; omega), by first | exact Nat.le_of_ble_eq_true rfl | (simp only [ab_rm]; omega)⟩ (Nat.le_of_ble_eq_true rfl) (fun u58 r58 h58 => ?_)
              obtain ⟨⟨z58, g58⟩, rfl⟩ := h58
              have q58 := z58
              have P58 := P6.trans q58 (by decide)
              exact ab_retv X hr0 hlk d_MO_join_61 ⟨⟨P58, Or.inl ⟨g58.trans (g6.trans (tn_y b9)), Or.inr (Or.inr b9)⟩⟩, rfl⟩
            · have v9 : b ≤ 9 := by omega
              have w9 : a ≤ 9 := by omega
              refine ab_aload_n X 0 d_MO_join_0 rfl rfl ?_
              refine ab_callV (as := []) X (fun h => by cases h) (z_MO_takeNumber u (a :: b :: t) sd h C (by show t.length + 1 + 1 ≤ 128; omega)) lk_MO_298 d_MO_join_1 rfl rfl (by first | assumption | decide | (show _ < 124; omega) | (show _ < 61; omega) | (show _ < 20; omega)) ⟨by first | exact Nat.le_of_ble_eq_true rfl | (simp only [ab_rm]; omega), by first | exact Nat.le_of_ble_eq_true rfl | (simp only [ab_rm]; omega)⟩ ⟨by first | exact Nat.le_of_ble_eq_true rfl | (simp only [ab_rm]; omega), by first | exact Nat.le_of_ble_eq_true rfl | (simp only [ab_rm]; omega)⟩ (Nat.le_of_ble_eq_true rfl) (fun u1 r1 h1 => ?_)
              obtain ⟨⟨z1, c1, g1⟩, rfl⟩ := h1
              have q1 := z1
              have P1 := P0.trans q1 (by decide)
              refine ab_istore_n2 X 0 1 d_MO_join_4 rfl (by decide) rfl rfl rfl rfl ?_
              refine ab_aload_n X 1 d_MO_join_5 rfl rfl ?_
              refine ab_callV (as := []) X (fun h => by cases h) (z_MO_takeNumber u1 (b :: t) sd P1.1 c1 (by show t.length + 1 ≤ 128; omega)) lk_MO_298 d_MO_join_6 rfl rfl (by first | assumption | decide | (show _ < 124; omega) | (show _ < 61; omega) | (show _ < 20; omega)) ⟨by first | exact Nat.le_of_ble_eq_true rfl | (simp only [ab_rm]; omega), by first | exact Nat.le_of_ble_eq_true rfl | (simp only [ab_rm]; omega)⟩ ⟨by first | exact Nat.le_of_ble_eq_true rfl | (simp only [ab_rm]; omega), by first | exact Nat.le_of_ble_eq_true rfl | (simp only [ab_rm]; omega)⟩ (Nat.le_of_ble_eq_true rfl) (fun u6 r6 h6 => ?_)
              obtain ⟨⟨z6, c6, g6⟩, rfl⟩ := h6
              have q6 := z6
              have P6 := P1.trans q6 (by decide)
              refine ab_istore_n3 X 0 1 2 d_MO_join_9 rfl (by decide) rfl rfl rfl rfl rfl rfl ?_
              refine ab_aload_n X 2 d_MO_join_10 rfl rfl ?_
              refine ab_iload_n X 3 d_MO_join_11 rfl rfl ?_
              refine ab_bipush (v := 8) X d_MO_join_12 (by decide) ?_
              refine ab_icmp_ne X 23 d_MO_join_14 rfl (fun _ => ?_) (fun hb => absurd hb ((by decide)))
              refine ab_iload_n X 3 d_MO_join_23 rfl rfl ?_
              refine ab_bipush (v := 6) X d_MO_join_24 (by decide) ?_
              refine ab_icmp_ne X 45 d_MO_join_26 rfl (fun hb => absurd (rfl) hb) (fun _ => ?_)
              refine ab_iload_n X 0 d_MO_join_29 rfl rfl ?_
              refine ab_if_eq X 41 d_MO_join_30 rfl (fun _ => ?_) (fun hb => absurd ((congrArg nI b0)) hb)
              refine ab_iconst (v := 0) X d_MO_join_41 (by decide) ?_
              refine ab_goto X 58 d_MO_join_42 rfl ?_
              refine ab_callV (as := [ab_I (nI (0))]) X (fun h => by cases h) (z_MO_putOn u6 (0) t sd P6.1 c6 (by omega) (by omega)) lk_MO_301 d_MO_join_58 rfl rfl (by first | assumption | decide | (show _ < 124; omega) | (show _ < 61; omega) | (show _ < 20; omega)) ⟨by first | exact Nat.le_of_ble_eq_true rfl | (simp only [ab_rm]; omega), by first | exact Nat.le_of_ble_eq_true rfl | (simp only [ab_rm]; omega)⟩ ⟨by first | exact Nat.le_of_ble_eq_true rfl | (simp only [ab_rm]; omega), by first | exact Nat.le_of_ble_eq_true rfl | (simp only [ab_rm]; omega)⟩ (Nat.le_of_ble_eq_true rfl) (fun u58 r58 h58 => ?_)
              obtain ⟨⟨z58, c58, g58⟩, rfl⟩ := h58
              have q58 := z58
              have P58 := P6.trans q58 (by decide)
              exact ab_retv X hr0 hlk d_MO_join_61 ⟨⟨P58, Or.inr ⟨a, b, t, rfl, w9, v9, g58.trans (g6.trans ((tn_n v9).trans (g1.trans ((tn_n w9).trans e6)))), by rw [(show jnd 6 a b = 0 by simp [jnd, a0, b0])]; exact c58⟩⟩, rfl⟩
        ·
          by_cases a9 : 9 < a
          ·
            refine ab_aload_n X 0 d_MO_join_0 rfl rfl ?_
            refine ab_callV (as := []) X (fun h => by cases h) (z_MO_takeNumber u (a :: b :: t) sd h C (by show t.length + 1 + 1 ≤ 128; omega)) lk_MO_298 d_MO_join_1 rfl rfl (by first | assumption | decide | (show _ < 124; omega) | (show _ < 61; omega) | (show _ < 20; omega)) ⟨by first | exact Nat.le_of_ble_eq_true rfl | (simp only [ab_rm]; omega), by first | exact Nat.le_of_ble_eq_true rfl | (simp only [ab_rm]; omega)⟩ ⟨by first | exact Nat.le_of_ble_eq_true rfl | (simp only [ab_rm]; omega), by first | exact Nat.le_of_ble_eq_true rfl | (simp only [ab_rm]; omega)⟩ (Nat.le_of_ble_eq_true rfl) (fun u1 r1 h1 => ?_)
            obtain ⟨⟨z1, c1, g1⟩, rfl⟩ := h1
            have q1 := z1
            have P1 := P0.trans q1 (by decide)
            refine ab_istore_n2 X 0 1 d_MO_join_4 rfl (by decide) rfl rfl rfl rfl ?_
            refine ab_aload_n X 1 d_MO_join_5 rfl rfl ?_
            refine ab_callV (as := []) X (fun h => by cases h) (z_MO_takeNumber u1 (b :: t) sd P1.1 c1 (by show t.length + 1 ≤ 128; omega)) lk_MO_298 d_MO_join_6 rfl rfl (by first | assumption | decide | (show _ < 124; omega) | (show _ < 61; omega) | (show _ < 20; omega)) ⟨by first | exact Nat.le_of_ble_eq_true rfl | (simp only [ab_rm]; omega), by first | exact Nat.le_of_ble_eq_true rfl | (simp only [ab_rm]; omega)⟩ ⟨by first | exact Nat.le_of_ble_eq_true rfl | (simp only [ab_rm]; omega), by first | exact Nat.le_of_ble_eq_true rfl | (simp only [ab_rm]; omega)⟩ (Nat.le_of_ble_eq_true rfl) (fun u6 r6 h6 => ?_)
            obtain ⟨⟨z6, c6, g6⟩, rfl⟩ := h6
            have q6 := z6
            have P6 := P1.trans q6 (by decide)
            refine ab_istore_n3 X 0 1 2 d_MO_join_9 rfl (by decide) rfl rfl rfl rfl rfl rfl ?_
            refine ab_aload_n X 2 d_MO_join_10 rfl rfl ?_
            refine ab_iload_n X 3 d_MO_join_11 rfl rfl ?_
            refine ab_bipush (v := 8) X d_MO_join_12 (by decide) ?_
            refine ab_icmp_ne X 23 d_MO_join_14 rfl (fun _ => ?_) (fun hb => absurd hb ((by decide)))
            refine ab_iload_n X 3 d_MO_join_23 rfl rfl ?_
            refine ab_bipush (v := 6) X d_MO_join_24 (by decide) ?_
            refine ab_icmp_ne X 45 d_MO_join_26 rfl (fun hb => absurd (rfl) hb) (fun _ => ?_)
            refine ab_iload_n X 0 d_MO_join_29 rfl rfl ?_
            refine ab_if_eq X 41 d_MO_join_30 rfl (fun hb => absurd hb ((nI_n0 (n := b) (by omega) b0))) (fun _ => ?_)
            refine ab_iload_n X 1 d_MO_join_33 rfl rfl ?_
            refine ab_if_eq X 41 d_MO_join_34 rfl (fun _ => ?_) (fun hb => absurd ((congrArg nI a0)) hb)
            refine ab_iconst (v := 0) X d_MO_join_41 (by decide) ?_
            refine ab_goto X 58 d_MO_join_42 rfl ?_
            refine ab_callV (as := [ab_I (nI (0))]) X (fun h => by cases h) (z_MO_putX u6 (nI (0)) t sd P6.1 c6 (by first | decide | omega)) lk_MO_301 d_MO_join_58 rfl rfl (by first | assumption | decide | (show _ < 124; omega) | (show _ < 61; omega) | (show _ < 20; omega)) ⟨by first | exact Nat.le_of_ble_eq_true rfl | (simp only [ab_rm]; omega), by first | exact Nat.le_of_ble_eq_true rfl | (simp only [ab_rm]; omega)⟩ ⟨by first | exact Nat.le_of_ble_eq_true rfl | (simp only [ab_rm]; omega), by first | exact Nat.le_of_ble_eq_true rfl | (simp only [ab_rm]; omega)⟩ (Nat.le_of_ble_eq_true rfl) (fun u58 r58 h58 => ?_)
            obtain ⟨⟨z58, g58⟩, rfl⟩ := h58
            have q58 := z58
            have P58 := P6.trans q58 (by decide)
            exact ab_retv X hr0 hlk d_MO_join_61 ⟨⟨P58, Or.inl ⟨g58.trans (g6.trans (tn_1 (g1.trans (tn_y a9)))), Or.inr (Or.inl a9)⟩⟩, rfl⟩
          · by_cases b9 : 9 < b
            ·
              refine ab_aload_n X 0 d_MO_join_0 rfl rfl ?_
              refine ab_callV (as := []) X (fun h => by cases h) (z_MO_takeNumber u (a :: b :: t) sd h C (by show t.length + 1 + 1 ≤ 128; omega)) lk_MO_298 d_MO_join_1 rfl rfl (by first | assumption | decide | (show _ < 124; omega) | (show _ < 61; omega) | (show _ < 20; omega)) ⟨by first | exact Nat.le_of_ble_eq_true rfl | (simp only [ab_rm]; omega), by first | exact Nat.le_of_ble_eq_true rfl | (simp only [ab_rm]; omega)⟩ ⟨by first | exact Nat.le_of_ble_eq_true rfl | (simp only [ab_rm]; omega), by first | exact Nat.le_of_ble_eq_true rfl | (simp only [ab_rm]; omega)⟩ (Nat.le_of_ble_eq_true rfl) (fun u1 r1 h1 => ?_)
              obtain ⟨⟨z1, c1, g1⟩, rfl⟩ := h1
              have q1 := z1
              have P1 := P0.trans q1 (by decide)
              refine ab_istore_n2 X 0 1 d_MO_join_4 rfl (by decide) rfl rfl rfl rfl ?_
              refine ab_aload_n X 1 d_MO_join_5 rfl rfl ?_
              refine ab_callV (as := []) X (fun h => by cases h) (z_MO_takeNumber u1 (b :: t) sd P1.1 c1 (by show t.length + 1 ≤ 128; omega)) lk_MO_298 d_MO_join_6 rfl rfl (by first | assumption | decide | (show _ < 124; omega) | (show _ < 61; omega) | (show _ < 20; omega)) ⟨by first | exact Nat.le_of_ble_eq_true rfl | (simp only [ab_rm]; omega), by first | exact Nat.le_of_ble_eq_true rfl | (simp only [ab_rm]; omega)⟩ ⟨by first | exact Nat.le_of_ble_eq_true rfl | (simp only [ab_rm]; omega), by first | exact Nat.le_of_ble_eq_true rfl | (simp only [ab_rm]; omega)⟩ (Nat.le_of_ble_eq_true rfl) (fun u6 r6 h6 => ?_)
              obtain ⟨⟨z6, c6, g6⟩, rfl⟩ := h6
              have q6 := z6
              have P6 := P1.trans q6 (by decide)
              refine ab_istore_n3 X 0 1 2 d_MO_join_9 rfl (by decide) rfl rfl rfl rfl rfl rfl ?_
              refine ab_aload_n X 2 d_MO_join_10 rfl rfl ?_
              refine ab_iload_n X 3 d_MO_join_11 rfl rfl ?_
              refine ab_bipush (v := 8) X d_MO_join_12 (by decide) ?_
              refine ab_icmp_ne X 23 d_MO_join_14 rfl (fun _ => ?_) (fun hb => absurd hb ((by decide)))
              refine ab_iload_n X 3 d_MO_join_23 rfl rfl ?_
              refine ab_bipush (v := 6) X d_MO_join_24 (by decide) ?_
              refine ab_icmp_ne X 45 d_MO_join_26 rfl (fun hb => absurd (rfl) hb) (fun _ => ?_)
              refine ab_iload_n X 0 d_MO_join_29 rfl rfl ?_
              refine ab_if_eq X 41 d_MO_join_30 rfl (fun hb => absurd hb ((nI_n0 (n := b) (by omega) b0))) (fun _ => ?_)
              refine ab_iload_n X 1 d_MO_join_33 rfl rfl ?_
              refine ab_if_eq X 41 d_MO_join_34 rfl (fun _ => ?_) (fun hb => absurd ((congrArg nI a0)) hb)
              refine ab_iconst (v := 0) X d_MO_join_41 (by decide) ?_
              refine ab_goto X 58 d_MO_join_42 rfl ?_
              refine ab_callV (as := [ab_I (nI (0))]) X (fun h => by cases h) (z_MO_putX u6 (nI (0)) t sd P6.1 c6 (by first | decide | omega)) lk_MO_301 d_MO_join_58 rfl rfl (by first | assumption | decide | (show _ < 124; omega) | (show _ < 61; omega) | (show _ < 20; omega)) ⟨by first | exact Nat.le_of_ble_eq_true rfl | (simp only [ab_rm]; omega), by first | exact Nat.le_of_ble_eq_true rfl | (simp only [ab_rm]; omega)⟩ ⟨by first | exact Nat.le_of_ble_eq_true rfl | (simp only [ab_rm]; omega), by first | exact Nat.le_of_ble_eq_true rfl | (simp only [ab_rm]; omega)⟩ (Nat.le_of_ble_eq_true rfl) (fun u58 r58 h58 => ?_)
              obtain ⟨⟨z58, g58⟩, rfl⟩ := h58
              have q58 := z58
              have P58 := P6.trans q58 (by decide)
              exact ab_retv X hr0 hlk d_MO_join_61 ⟨⟨P58, Or.inl ⟨g58.trans (g6.trans (tn_y b9)), Or.inr (Or.inr b9)⟩⟩, rfl⟩
            · have v9 : b ≤ 9 := by omega
              have w9 : a ≤ 9 := by omega
              refine ab_aload_n X 0 d_MO_join_0 rfl rfl ?_
              refine ab_callV (as := []) X (fun h => by cases h) (z_MO_takeNumber u (a :: b :: t) sd h C (by show t.length + 1 + 1 ≤ 128; omega)) lk_MO_298 d_MO_join_1 rfl rfl (by first | assumption | decide | (show _ < 124; omega) | (show _ < 61; omega) | (show _ < 20; omega)) ⟨by first | exact Nat.le_of_ble_eq_true rfl | (simp only [ab_rm]; omega), by first | exact Nat.le_of_ble_eq_true rfl | (simp only [ab_rm]; omega)⟩ ⟨by first | exact Nat.le_of_ble_eq_true rfl | (simp only [ab_rm]; omega), by first | exact Nat.le_of_ble_eq_true rfl | (simp only [ab_rm]; omega)⟩ (Nat.le_of_ble_eq_true rfl) (fun u1 r1 h1 => ?_)
              obtain ⟨⟨z1, c1, g1⟩, rfl⟩ := h1
              have q1 := z1
              have P1 := P0.trans q1 (by decide)
              refine ab_istore_n2 X 0 1 d_MO_join_4 rfl (by decide) rfl rfl rfl rfl ?_
              refine ab_aload_n X 1 d_MO_join_5 rfl rfl ?_
              refine ab_callV (as := []) X (fun h => by cases h) (z_MO_takeNumber u1 (b :: t) sd P1.1 c1 (by show t.length + 1 ≤ 128; omega)) lk_MO_298 d_MO_join_6 rfl rfl (by first | assumption | decide | (show _ < 124; omega) | (show _ < 61; omega) | (show _ < 20; omega)) ⟨by first | exact Nat.le_of_ble_eq_true rfl | (simp only [ab_rm]; omega), by first | exact Nat.le_of_ble_eq_true rfl | (simp only [ab_rm]; omega)⟩ ⟨by first | exact Nat.le_of_ble_eq_true rfl | (simp only [ab_rm]; omega), by first | exact Nat.le_of_ble_eq_true rfl | (simp only [ab_rm]; omega)⟩ (Nat.le_of_ble_eq_true rfl) (fun u6 r6 h6 => ?_)
              obtain ⟨⟨z6, c6, g6⟩, rfl⟩ := h6
              have q6 := z6
              have P6 := P1.trans q6 (by decide)
              refine ab_istore_n3 X 0 1 2 d_MO_join_9 rfl (by decide) rfl rfl rfl rfl rfl rfl ?_
              refine ab_aload_n X 2 d_MO_join_10 rfl rfl ?_
              refine ab_iload_n X 3 d_MO_join_11 rfl rfl ?_
              refine ab_bipush (v := 8) X d_MO_join_12 (by decide) ?_
              refine ab_icmp_ne X 23 d_MO_join_14 rfl (fun _ => ?_) (fun hb => absurd hb ((by decide)))
              refine ab_iload_n X 3 d_MO_join_23 rfl rfl ?_
              refine ab_bipush (v := 6) X d_MO_join_24 (by decide) ?_
              refine ab_icmp_ne X 45 d_MO_join_26 rfl (fun hb => absurd (rfl) hb) (fun _ => ?_)
              refine ab_iload_n X 0 d_MO_join_29 rfl rfl ?_
              refine ab_if_eq X 41 d_MO_join_30 rfl (fun hb => absurd hb ((nI_n0 (n := b) (by omega) b0))) (fun _ => ?_)
              refine ab_iload_n X 1 d_MO_join_33 rfl rfl ?_
              refine ab_if_eq X 41 d_MO_join_34 rfl (fun _ => ?_) (fun hb => absurd ((congrArg nI a0)) hb)
              refine ab_iconst (v := 0) X d_MO_join_41 (by decide) ?_
              refine ab_goto X 58 d_MO_join_42 rfl ?_
              refine ab_callV (as := [ab_I (nI (0))]) X (fun h => by cases h) (z_MO_putOn u6 (0) t sd P6.1 c6 (by omega) (by omega)) lk_MO_301 d_MO_join_58 rfl rfl (by first | assumption | decide | (show _ < 124; omega) | (show _ < 61; omega) | (show _ < 20; omega)) ⟨by first | exact Nat.le_of_ble_eq_true rfl | (simp only [ab_rm]; omega), by first | exact Nat.le_of_ble_eq_true rfl | (simp only [ab_rm]; omega)⟩ ⟨by first | exact Nat.le_of_ble_eq_true rfl | (simp only [ab_rm]; omega), by first | exact Nat.le_of_ble_eq_true rfl | (simp only [ab_rm]; omega)⟩ (Nat.le_of_ble_eq_true rfl) (fun u58 r58 h58 => ?_)
              obtain ⟨⟨z58, c58, g58⟩, rfl⟩ := h58
              have q58 := z58
              have P58 := P6.trans q58 (by decide)
              exact ab_retv X hr0 hlk d_MO_join_61 ⟨⟨P58, Or.inr ⟨a, b, t, rfl, w9, v9, g58.trans (g6.trans ((tn_n v9).trans (g1.trans ((tn_n w9).trans e6)))), by rw [(show jnd 6 a b = 0 by simp [jnd, a0, b0])]; exact c58⟩⟩, rfl⟩
      ·
        by_cases b0 : b = 0
        ·
          by_cases a9 : 9 < a
          ·
            refine ab_aload_n X 0 d_MO_join_0 rfl rfl ?_
            refine ab_callV (as := []) X (fun h => by cases h) (z_MO_takeNumber u (a :: b :: t) sd h C (by show t.length + 1 + 1 ≤ 128; omega)) lk_MO_298 d_MO_join_1 rfl rfl (by first | assumption | decide | (show _ < 124; omega) | (show _ < 61; omega) | (show _ < 20; omega)) ⟨by first | exact Nat.le_of_ble_eq_true rfl | (simp only [ab_rm]; omega), by first | exact Nat.le_of_ble_eq_true rfl | (simp only [ab_rm]; omega)⟩ ⟨by first | exact Nat.le_of_ble_eq_true rfl | (simp only [ab_rm]; omega), by first | exact Nat.le_of_ble_eq_true rfl | (simp only [ab_rm]; omega)⟩ (Nat.le_of_ble_eq_true rfl) (fun u1 r1 h1 => ?_)
            obtain ⟨⟨z1, c1, g1⟩, rfl⟩ := h1
            have q1 := z1
            have P1 := P0.trans q1 (by decide)
            refine ab_istore_n2 X 0 1 d_MO_join_4 rfl (by decide) rfl rfl rfl rfl ?_
            refine ab_aload_n X 1 d_MO_join_5 rfl rfl ?_
            refine ab_callV (as := []) X (fun h => by cases h) (z_MO_takeNumber u1 (b :: t) sd P1.1 c1 (by show t.length + 1 ≤ 128; omega)) lk_MO_298 d_MO_join_6 rfl rfl (by first | assumption | decide | (show _ < 124; omega) | (show _ < 61; omega) | (show _ < 20; omega)) ⟨by first | exact Nat.le_of_ble_eq_true rfl | (simp only [ab_rm]; omega), by first | exact Nat.le_of_ble_eq_true rfl | (simp only [ab_rm]; omega)⟩ ⟨by first | exact Nat.le_of_ble_eq_true rfl | (simp only [ab_rm]; omega), by first | exact Nat.le_of_ble_eq_true rfl | (simp only [ab_rm]; omega)⟩ (Nat.le_of_ble_eq_true rfl) (fun u6 r6 h6 => ?_)
            obtain ⟨⟨z6, c6, g6⟩, rfl⟩ := h6
            have q6 := z6
            have P6 := P1.trans q6 (by decide)
            refine ab_istore_n3 X 0 1 2 d_MO_join_9 rfl (by decide) rfl rfl rfl rfl rfl rfl ?_
            refine ab_aload_n X 2 d_MO_join_10 rfl rfl ?_
            refine ab_iload_n X 3 d_MO_join_11 rfl rfl ?_
            refine ab_bipush (v := 8) X d_MO_join_12 (by decide) ?_
            refine ab_icmp_ne X 23 d_MO_join_14 rfl (fun _ => ?_) (fun hb => absurd hb ((by decide)))
            refine ab_iload_n X 3 d_MO_join_23 rfl rfl ?_
            refine ab_bipush (v := 6) X d_MO_join_24 (by decide) ?_
            refine ab_icmp_ne X 45 d_MO_join_26 rfl (fun hb => absurd (rfl) hb) (fun _ => ?_)
            refine ab_iload_n X 0 d_MO_join_29 rfl rfl ?_
            refine ab_if_eq X 41 d_MO_join_30 rfl (fun _ => ?_) (fun hb => absurd ((congrArg nI b0)) hb)
            refine ab_iconst (v := 0) X d_MO_join_41 (by decide) ?_
            refine ab_goto X 58 d_MO_join_42 rfl ?_
            refine ab_callV (as := [ab_I (nI (0))]) X (fun h => by cases h) (z_MO_putX u6 (nI (0)) t sd P6.1 c6 (by first | decide | omega)) lk_MO_301 d_MO_join_58 rfl rfl (by first | assumption | decide | (show _ < 124; omega) | (show _ < 61; omega) | (show _ < 20; omega)) ⟨by first | exact Nat.le_of_ble_eq_true rfl | (simp only [ab_rm]; omega), by first | exact Nat.le_of_ble_eq_true rfl | (simp only [ab_rm]; omega)⟩ ⟨by first | exact Nat.le_of_ble_eq_true rfl | (simp only [ab_rm]; omega), by first | exact Nat.le_of_ble_eq_true rfl | (simp only [ab_rm]; omega)⟩ (Nat.le_of_ble_eq_true rfl) (fun u58 r58 h58 => ?_)
            obtain ⟨⟨z58, g58⟩, rfl⟩ := h58
            have q58 := z58
            have P58 := P6.trans q58 (by decide)
            exact ab_retv X hr0 hlk d_MO_join_61 ⟨⟨P58, Or.inl ⟨g58.trans (g6.trans (tn_1 (g1.trans (tn_y a9)))), Or.inr (Or.inl a9)⟩⟩, rfl⟩
          · by_cases b9 : 9 < b
            ·
              refine ab_aload_n X 0 d_MO_join_0 rfl rfl ?_
              refine ab_callV (as := []) X (fun h => by cases h) (z_MO_takeNumber u (a :: b :: t) sd h C (by show t.length + 1 + 1 ≤ 128; omega)) lk_MO_298 d_MO_join_1 rfl rfl (by first | assumption | decide | (show _ < 124; omega) | (show _ < 61; omega) | (show _ < 20; omega)) ⟨by first | exact Nat.le_of_ble_eq_true rfl | (simp only [ab_rm]; omega), by first | exact Nat.le_of_ble_eq_true rfl | (simp only [ab_rm]; omega)⟩ ⟨by first | exact Nat.le_of_ble_eq_true rfl | (simp only [ab_rm]; omega), by first | exact Nat.le_of_ble_eq_true rfl | (simp only [ab_rm]; omega)⟩ (Nat.le_of_ble_eq_true rfl) (fun u1 r1 h1 => ?_)
              obtain ⟨⟨z1, c1, g1⟩, rfl⟩ := h1
              have q1 := z1
              have P1 := P0.trans q1 (by decide)
              refine ab_istore_n2 X 0 1 d_MO_join_4 rfl (by decide) rfl rfl rfl rfl ?_
              refine ab_aload_n X 1 d_MO_join_5 rfl rfl ?_
              refine ab_callV (as := []) X (fun h => by cases h) (z_MO_takeNumber u1 (b :: t) sd P1.1 c1 (by show t.length + 1 ≤ 128; omega)) lk_MO_298 d_MO_join_6 rfl rfl (by first | assumption | decide | (show _ < 124; omega) | (show _ < 61; omega) | (show _ < 20; omega)) ⟨by first | exact Nat.le_of_ble_eq_true rfl | (simp only [ab_rm]; omega), by first | exact Nat.le_of_ble_eq_true rfl | (simp only [ab_rm]; omega)⟩ ⟨by first | exact Nat.le_of_ble_eq_true rfl | (simp only [ab_rm]; omega), by first | exact Nat.le_of_ble_eq_true rfl | (simp only [ab_rm]; omega)⟩ (Nat.le_of_ble_eq_true rfl) (fun u6 r6 h6 => ?_)
              obtain ⟨⟨z6, c6, g6⟩, rfl⟩ := h6
              have q6 := z6
              have P6 := P1.trans q6 (by decide)
              refine ab_istore_n3 X 0 1 2 d_MO_join_9 rfl (by decide) rfl rfl rfl rfl rfl rfl ?_
              refine ab_aload_n X 2 d_MO_join_10 rfl rfl ?_
              refine ab_iload_n X 3 d_MO_join_11 rfl rfl ?_
              refine ab_bipush (v := 8) X d_MO_join_12 (by decide) ?_
              refine ab_icmp_ne X 23 d_MO_join_14 rfl (fun _ => ?_) (fun hb => absurd hb ((by decide)))
              refine ab_iload_n X 3 d_MO_join_23 rfl rfl ?_
              refine ab_bipush (v := 6) X d_MO_join_24 (by decide) ?_
              refine ab_icmp_ne X 45 d_MO_join_26 rfl (fun hb => absurd (rfl) hb) (fun _ => ?_)
              refine ab_iload_n X 0 d_MO_join_29 rfl rfl ?_
              refine ab_if_eq X 41 d_MO_join_30 rfl (fun _ => ?_) (fun hb => absurd ((congrArg nI b0)) hb)
              refine ab_iconst (v := 0) X d_MO_join_41 (by decide) ?_
              refine ab_goto X 58 d_MO_join_42 rfl ?_
              refine ab_callV (as := [ab_I (nI (0))]) X (fun h => by cases h) (z_MO_putX u6 (nI (0)) t sd P6.1 c6 (by first | decide | omega)) lk_MO_301 d_MO_join_58 rfl rfl (by first | assumption | decide | (show _ < 124; omega) | (show _ < 61; omega) | (show _ < 20; omega)) ⟨by first | exact Nat.le_of_ble_eq_true rfl | (simp only [ab_rm]; omega), by first | exact Nat.le_of_ble_eq_true rfl | (simp only [ab_rm]; omega)⟩ ⟨by first | exact Nat.le_of_ble_eq_true rfl | (simp only [ab_rm]; omega), by first | exact Nat.le_of_ble_eq_true rfl | (simp only [ab_rm]; omega)⟩ (Nat.le_of_ble_eq_true rfl) (fun u58 r58 h58 => ?_)
              obtain ⟨⟨z58, g58⟩, rfl⟩ := h58
              have q58 := z58
              have P58 := P6.trans q58 (by decide)
              exact ab_retv X hr0 hlk d_MO_join_61 ⟨⟨P58, Or.inl ⟨g58.trans (g6.trans (tn_y b9)), Or.inr (Or.inr b9)⟩⟩, rfl⟩
            · have v9 : b ≤ 9 := by omega
              have w9 : a ≤ 9 := by omega
              refine ab_aload_n X 0 d_MO_join_0 rfl rfl ?_
              refine ab_callV (as := []) X (fun h => by cases h) (z_MO_takeNumber u (a :: b :: t) sd h C (by show t.length + 1 + 1 ≤ 128; omega)) lk_MO_298 d_MO_join_1 rfl rfl (by first | assumption | decide | (show _ < 124; omega) | (show _ < 61; omega) | (show _ < 20; omega)) ⟨by first | exact Nat.le_of_ble_eq_true rfl | (simp only [ab_rm]; omega), by first | exact Nat.le_of_ble_eq_true rfl | (simp only [ab_rm]; omega)⟩ ⟨by first | exact Nat.le_of_ble_eq_true rfl | (simp only [ab_rm]; omega), by first | exact Nat.le_of_ble_eq_true rfl | (simp only [ab_rm]; omega)⟩ (Nat.le_of_ble_eq_true rfl) (fun u1 r1 h1 => ?_)
              obtain ⟨⟨z1, c1, g1⟩, rfl⟩ := h1
              have q1 := z1
              have P1 := P0.trans q1 (by decide)
              refine ab_istore_n2 X 0 1 d_MO_join_4 rfl (by decide) rfl rfl rfl rfl ?_
              refine ab_aload_n X 1 d_MO_join_5 rfl rfl ?_
              refine ab_callV (as := []) X (fun h => by cases h) (z_MO_takeNumber u1 (b :: t) sd P1.1 c1 (by show t.length + 1 ≤ 128; omega)) lk_MO_298 d_MO_join_6 rfl rfl (by first | assumption | decide | (show _ < 124; omega) | (show _ < 61; omega) | (show _ < 20; omega)) ⟨by first | exact Nat.le_of_ble_eq_true rfl | (simp only [ab_rm]; omega), by first | exact Nat.le_of_ble_eq_true rfl | (simp only [ab_rm]; omega)⟩ ⟨by first | exact Nat.le_of_ble_eq_true rfl | (simp only [ab_rm]; omega), by first | exact Nat.le_of_ble_eq_true rfl | (simp only [ab_rm]; omega)⟩ (Nat.le_of_ble_eq_true rfl) (fun u6 r6 h6 => ?_)
              obtain ⟨⟨z6, c6, g6⟩, rfl⟩ := h6
              have q6 := z6
              have P6 := P1.trans q6 (by decide)
              refine ab_istore_n3 X 0 1 2 d_MO_join_9 rfl (by decide) rfl rfl rfl rfl rfl rfl ?_
              refine ab_aload_n X 2 d_MO_join_10 rfl rfl ?_
              refine ab_iload_n X 3 d_MO_join_11 rfl rfl ?_
              refine ab_bipush (v := 8) X d_MO_join_12 (by decide) ?_
              refine ab_icmp_ne X 23 d_MO_join_14 rfl (fun _ => ?_) (fun hb => absurd hb ((by decide)))
              refine ab_iload_n X 3 d_MO_join_23 rfl rfl ?_
              refine ab_bipush (v := 6) X d_MO_join_24 (by decide) ?_
              refine ab_icmp_ne X 45 d_MO_join_26 rfl (fun hb => absurd (rfl) hb) (fun _ => ?_)
              refine ab_iload_n X 0 d_MO_join_29 rfl rfl ?_
              refine ab_if_eq X 41 d_MO_join_30 rfl (fun _ => ?_) (fun hb => absurd ((congrArg nI b0)) hb)
              refine ab_iconst (v := 0) X d_MO_join_41 (by decide) ?_
              refine ab_goto X 58 d_MO_join_42 rfl ?_
              refine ab_callV (as := [ab_I (nI (0))]) X (fun h => by cases h) (z_MO_putOn u6 (0) t sd P6.1 c6 (by omega) (by omega)) lk_MO_301 d_MO_join_58 rfl rfl (by first | assumption | decide | (show _ < 124; omega) | (show _ < 61; omega) | (show _ < 20; omega)) ⟨by first | exact Nat.le_of_ble_eq_true rfl | (simp only [ab_rm]; omega), by first | exact Nat.le_of_ble_eq_true rfl | (simp only [ab_rm]; omega)⟩ ⟨by first | exact Nat.le_of_ble_eq_true rfl | (simp only [ab_rm]; omega), by first | exact Nat.le_of_ble_eq_true rfl | (simp only [ab_rm]; omega)⟩ (Nat.le_of_ble_eq_true rfl) (fun u58 r58 h58 => ?_)
              obtain ⟨⟨z58, c58, g58⟩, rfl⟩ := h58
              have q58 := z58
              have P58 := P6.trans q58 (by decide)
              exact ab_retv X hr0 hlk d_MO_join_61 ⟨⟨P58, Or.inr ⟨a, b, t, rfl, w9, v9, g58.trans (g6.trans ((tn_n v9).trans (g1.trans ((tn_n w9).trans e6)))), by rw [(show jnd 6 a b = 0 by simp [jnd, a0, b0])]; exact c58⟩⟩, rfl⟩
        ·
          by_cases a9 : 9 < a
          ·
            refine ab_aload_n X 0 d_MO_join_0 rfl rfl ?_
            refine ab_callV (as := []) X (fun h => by cases h) (z_MO_takeNumber u (a :: b :: t) sd h C (by show t.length + 1 + 1 ≤ 128; omega)) lk_MO_298 d_MO_join_1 rfl rfl (by first | assumption | decide | (show _ < 124; omega) | (show _ < 61; omega) | (show _ < 20; omega)) ⟨by first | exact Nat.le_of_ble_eq_true rfl | (simp only [ab_rm]; omega), by first | exact Nat.le_of_ble_eq_true rfl | (simp only [ab_rm]; omega)⟩ ⟨by first | exact Nat.le_of_ble_eq_true rfl | (simp only [ab_rm]; omega), by first | exact Nat.le_of_ble_eq_true rfl | (simp only [ab_rm]; omega)⟩ (Nat.le_of_ble_eq_true rfl) (fun u1 r1 h1 => ?_)
            obtain ⟨⟨z1, c1, g1⟩, rfl⟩ := h1
            have q1 := z1
            have P1 := P0.trans q1 (by decide)
            refine ab_istore_n2 X 0 1 d_MO_join_4 rfl (by decide) rfl rfl rfl rfl ?_
            refine ab_aload_n X 1 d_MO_join_5 rfl rfl ?_
            refine ab_callV (as := []) X (fun h => by cases h) (z_MO_takeNumber u1 (b :: t) sd P1.1 c1 (by show t.length + 1 ≤ 128; omega)) lk_MO_298 d_MO_join_6 rfl rfl (by first | assumption | decide | (show _ < 124; omega) | (show _ < 61; omega) | (show _ < 20; omega)) ⟨by first | exact Nat.le_of_ble_eq_true rfl | (simp only [ab_rm]; omega), by first | exact Nat.le_of_ble_eq_true rfl | (simp only [ab_rm]; omega)⟩ ⟨by first | exact Nat.le_of_ble_eq_true rfl | (simp only [ab_rm]; omega), by first | exact Nat.le_of_ble_eq_true rfl | (simp only [ab_rm]; omega)⟩ (Nat.le_of_ble_eq_true rfl) (fun u6 r6 h6 => ?_)
            obtain ⟨⟨z6, c6, g6⟩, rfl⟩ := h6
            have q6 := z6
            have P6 := P1.trans q6 (by decide)
            refine ab_istore_n3 X 0 1 2 d_MO_join_9 rfl (by decide) rfl rfl rfl rfl rfl rfl ?_
            refine ab_aload_n X 2 d_MO_join_10 rfl rfl ?_
            refine ab_iload_n X 3 d_MO_join_11 rfl rfl ?_
            refine ab_bipush (v := 8) X d_MO_join_12 (by decide) ?_
            refine ab_icmp_ne X 23 d_MO_join_14 rfl (fun _ => ?_) (fun hb => absurd hb ((by decide)))
            refine ab_iload_n X 3 d_MO_join_23 rfl rfl ?_
            refine ab_bipush (v := 6) X d_MO_join_24 (by decide) ?_
            refine ab_icmp_ne X 45 d_MO_join_26 rfl (fun hb => absurd (rfl) hb) (fun _ => ?_)
            refine ab_iload_n X 0 d_MO_join_29 rfl rfl ?_
            refine ab_if_eq X 41 d_MO_join_30 rfl (fun hb => absurd hb ((nI_n0 (n := b) (by omega) b0))) (fun _ => ?_)
            refine ab_iload_n X 1 d_MO_join_33 rfl rfl ?_
            refine ab_if_eq X 41 d_MO_join_34 rfl (fun hb => absurd hb ((nI_n0 (n := a) (by omega) a0))) (fun _ => ?_)
            refine ab_iconst (v := 1) X d_MO_join_37 (by decide) ?_
            refine ab_goto X 58 d_MO_join_38 rfl ?_
            refine ab_callV (as := [ab_I (nI (1))]) X (fun h => by cases h) (z_MO_putX u6 (nI (1)) t sd P6.1 c6 (by first | decide | omega)) lk_MO_301 d_MO_join_58 rfl rfl (by first | assumption | decide | (show _ < 124; omega) | (show _ < 61; omega) | (show _ < 20; omega)) ⟨by first | exact Nat.le_of_ble_eq_true rfl | (simp only [ab_rm]; omega), by first | exact Nat.le_of_ble_eq_true rfl | (simp only [ab_rm]; omega)⟩ ⟨by first | exact Nat.le_of_ble_eq_true rfl | (simp only [ab_rm]; omega), by first | exact Nat.le_of_ble_eq_true rfl | (simp only [ab_rm]; omega)⟩ (Nat.le_of_ble_eq_true rfl) (fun u58 r58 h58 => ?_)
            obtain ⟨⟨z58, g58⟩, rfl⟩ := h58
            have q58 := z58
            have P58 := P6.trans q58 (by decide)
            exact ab_retv X hr0 hlk d_MO_join_61 ⟨⟨P58, Or.inl ⟨g58.trans (g6.trans (tn_1 (g1.trans (tn_y a9)))), Or.inr (Or.inl a9)⟩⟩, rfl⟩
          · by_cases b9 : 9 < b
            ·
              refine ab_aload_n X 0 d_MO_join_0 rfl rfl ?_
              refine ab_callV (as := []) X (fun h => by cases h) (z_MO_takeNumber u (a :: b :: t) sd h C (by show t.length + 1 + 1 ≤ 128; omega)) lk_MO_298 d_MO_join_1 rfl rfl (by first | assumption | decide | (show _ < 124; omega) | (show _ < 61; omega) | (show _ < 20; omega)) ⟨by first | exact Nat.le_of_ble_eq_true rfl | (simp only [ab_rm]; omega), by first | exact Nat.le_of_ble_eq_true rfl | (simp only [ab_rm]; omega)⟩ ⟨by first | exact Nat.le_of_ble_eq_true rfl | (simp only [ab_rm]; omega), by first | exact Nat.le_of_ble_eq_true rfl | (simp only [ab_rm]; omega)⟩ (Nat.le_of_ble_eq_true rfl) (fun u1 r1 h1 => ?_)
              obtain ⟨⟨z1, c1, g1⟩, rfl⟩ := h1
              have q1 := z1
              have P1 := P0.trans q1 (by decide)
              refine ab_istore_n2 X 0 1 d_MO_join_4 rfl (by decide) rfl rfl rfl rfl ?_
              refine ab_aload_n X 1 d_MO_join_5 rfl rfl ?_
              refine ab_callV (as := []) X (fun h => by cases h) (z_MO_takeNumber u1 (b :: t) sd P1.1 c1 (by show t.length + 1 ≤ 128; omega)) lk_MO_298 d_MO_join_6 rfl rfl (by first | assumption | decide | (show _ < 124; omega) | (show _ < 61; omega) | (show _ < 20; omega)) ⟨by first | exact Nat.le_of_ble_eq_true rfl | (simp only [ab_rm]; omega), by first | exact Nat.le_of_ble_eq_true rfl | (simp only [ab_rm]; omega)⟩ ⟨by first | exact Nat.le_of_ble_eq_true rfl | (simp only [ab_rm]; omega), by first | exact Nat.le_of_ble_eq_true rfl | (simp only [ab_rm]; omega)⟩ (Nat.le_of_ble_eq_true rfl) (fun u6 r6 h6 => ?_)
              obtain ⟨⟨z6, c6, g6⟩, rfl⟩ := h6
              have q6 := z6
              have P6 := P1.trans q6 (by decide)
              refine ab_istore_n3 X 0 1 2 d_MO_join_9 rfl (by decide) rfl rfl rfl rfl rfl rfl ?_
              refine ab_aload_n X 2 d_MO_join_10 rfl rfl ?_
              refine ab_iload_n X 3 d_MO_join_11 rfl rfl ?_
              refine ab_bipush (v := 8) X d_MO_join_12 (by decide) ?_
              refine ab_icmp_ne X 23 d_MO_join_14 rfl (fun _ => ?_) (fun hb => absurd hb ((by decide)))
              refine ab_iload_n X 3 d_MO_join_23 rfl rfl ?_
              refine ab_bipush (v := 6) X d_MO_join_24 (by decide) ?_
              refine ab_icmp_ne X 45 d_MO_join_26 rfl (fun hb => absurd (rfl) hb) (fun _ => ?_)
              refine ab_iload_n X 0 d_MO_join_29 rfl rfl ?_
              refine ab_if_eq X 41 d_MO_join_30 rfl (fun hb => absurd hb ((nI_n0 (n := b) (by omega) b0))) (fun _ => ?_)
              refine ab_iload_n X 1 d_MO_join_33 rfl rfl ?_
              refine ab_if_eq X 41 d_MO_join_34 rfl (fun hb => absurd hb ((nI_n0 (n := a) (by omega) a0))) (fun _ => ?_)
              refine ab_iconst (v := 1) X d_MO_join_37 (by decide) ?_
              refine ab_goto X 58 d_MO_join_38 rfl ?_
              refine ab_callV (as := [ab_I (nI (1))]) X (fun h => by cases h) (z_MO_putX u6 (nI (1)) t sd P6.1 c6 (by first | decide | omega)) lk_MO_301 d_MO_join_58 rfl rfl (by first | assumption | decide | (show _ < 124; omega) | (show _ < 61; omega) | (show _ < 20; omega)) ⟨by first | exact Nat.le_of_ble_eq_true rfl | (simp only [ab_rm]; omega), by first | exact Nat.le_of_ble_eq_true rfl | (simp only [ab_rm]; omega)⟩ ⟨by first | exact Nat.le_of_ble_eq_true rfl | (simp only [ab_rm]; omega), by first | exact Nat.le_of_ble_eq_true rfl | (simp only [ab_rm]; omega)⟩ (Nat.le_of_ble_eq_true rfl) (fun u58 r58 h58 => ?_)
              obtain ⟨⟨z58, g58⟩, rfl⟩ := h58
              have q58 := z58
              have P58 := P6.trans q58 (by decide)
              exact ab_retv X hr0 hlk d_MO_join_61 ⟨⟨P58, Or.inl ⟨g58.trans (g6.trans (tn_y b9)), Or.inr (Or.inr b9)⟩⟩, rfl⟩
            · have v9 : b ≤ 9 := by omega
              have w9 : a ≤ 9 := by omega
              refine ab_aload_n X 0 d_MO_join_0 rfl rfl ?_
              refine ab_callV (as := []) X (fun h => by cases h) (z_MO_takeNumber u (a :: b :: t) sd h C (by show t.length + 1 + 1 ≤ 128; omega)) lk_MO_298 d_MO_join_1 rfl rfl (by first | assumption | decide | (show _ < 124; omega) | (show _ < 61; omega) | (show _ < 20; omega)) ⟨by first | exact Nat.le_of_ble_eq_true rfl | (simp only [ab_rm]; omega), by first | exact Nat.le_of_ble_eq_true rfl | (simp only [ab_rm]; omega)⟩ ⟨by first | exact Nat.le_of_ble_eq_true rfl | (simp only [ab_rm]; omega), by first | exact Nat.le_of_ble_eq_true rfl | (simp only [ab_rm]; omega)⟩ (Nat.le_of_ble_eq_true rfl) (fun u1 r1 h1 => ?_)
              obtain ⟨⟨z1, c1, g1⟩, rfl⟩ := h1
              have q1 := z1
              have P1 := P0.trans q1 (by decide)
              refine ab_istore_n2 X 0 1 d_MO_join_4 rfl (by decide) rfl rfl rfl rfl ?_
              refine ab_aload_n X 1 d_MO_join_5 rfl rfl ?_
              refine ab_callV (as := []) X (fun h => by cases h) (z_MO_takeNumber u1 (b :: t) sd P1.1 c1 (by show t.length + 1 ≤ 128; omega)) lk_MO_298 d_MO_join_6 rfl rfl (by first | assumption | decide | (show _ < 124; omega) | (show _ < 61; omega) | (show _ < 20; omega)) ⟨by first | exact Nat.le_of_ble_eq_true rfl | (simp only [ab_rm]; omega), by first | exact Nat.le_of_ble_eq_true rfl | (simp only [ab_rm]; omega)⟩ ⟨by first | exact Nat.le_of_ble_eq_true rfl | (simp only [ab_rm]; omega), by first | exact Nat.le_of_ble_eq_true rfl | (simp only [ab_rm]; omega)⟩ (Nat.le_of_ble_eq_true rfl) (fun u6 r6 h6 => ?_)
              obtain ⟨⟨z6, c6, g6⟩, rfl⟩ := h6
              have q6 := z6
              have P6 := P1.trans q6 (by decide)
              refine ab_istore_n3 X 0 1 2 d_MO_join_9 rfl (by decide) rfl rfl rfl rfl rfl rfl ?_
              refine ab_aload_n X 2 d_MO_join_10 rfl rfl ?_
              refine ab_iload_n X 3 d_MO_join_11 rfl rfl ?_
              refine ab_bipush (v := 8) X d_MO_join_12 (by decide) ?_
              refine ab_icmp_ne X 23 d_MO_join_14 rfl (fun _ => ?_) (fun hb => absurd hb ((by decide)))
              refine ab_iload_n X 3 d_MO_join_23 rfl rfl ?_
              refine ab_bipush (v := 6) X d_MO_join_24 (by decide) ?_
              refine ab_icmp_ne X 45 d_MO_join_26 rfl (fun hb => absurd (rfl) hb) (fun _ => ?_)
              refine ab_iload_n X 0 d_MO_join_29 rfl rfl ?_
              refine ab_if_eq X 41 d_MO_join_30 rfl (fun hb => absurd hb ((nI_n0 (n := b) (by omega) b0))) (fun _ => ?_)
              refine ab_iload_n X 1 d_MO_join_33 rfl rfl ?_
              refine ab_if_eq X 41 d_MO_join_34 rfl (fun hb => absurd hb ((nI_n0 (n := a) (by omega) a0))) (fun _ => ?_)
              refine ab_iconst (v := 1) X d_MO_join_37 (by decide) ?_
              refine ab_goto X 58 d_MO_join_38 rfl ?_
              refine ab_callV (as := [ab_I (nI (1))]) X (fun h => by cases h) (z_MO_putOn u6 (1) t sd P6.1 c6 (by omega) (by omega)) lk_MO_301 d_MO_join_58 rfl rfl (by first | assumption | decide | (show _ < 124; omega) | (show _ < 61; omega) | (show _ < 20; omega)) ⟨by first | exact Nat.le_of_ble_eq_true rfl | (simp only [ab_rm]; omega), by first | exact Nat.le_of_ble_eq_true rfl | (simp only [ab_rm]; omega)⟩ ⟨by first | exact Nat.le_of_ble_eq_true rfl | (simp only [ab_rm]; omega), by first | exact Nat.le_of_ble_eq_true rfl | (simp only [ab_rm]; omega)⟩ (Nat.le_of_ble_eq_true rfl) (fun u58 r58 h58 => ?_)
              obtain ⟨⟨z58, c58, g58⟩, rfl⟩ := h58
              have q58 := z58
              have P58 := P6.trans q58 (by decide)
              exact ab_retv X hr0 hlk d_MO_join_61 ⟨⟨P58, Or.inr ⟨a, b, t, rfl, w9, v9, g58.trans (g6.trans ((tn_n v9).trans (g1.trans ((tn_n w9).trans e6)))), by rw [(show jnd 6 a b = 1 by simp [jnd, a0, b0])]; exact c58⟩⟩, rfl⟩
set_option maxRecDepth 100000 in
set_option maxHeartbeats 1000000 in
theorem z_MO_join7 (u : ab_S) (st sd : List Nat) (h : mR u.2.1) (C : rM u st sd) (hL : st.length < 127) (e6 : u.1 17 0 40 = 0) : ab_C false l D ca y_MO_join b_MO_join 4 none 2 ab_nQ u [ab_O 17 0, ab_I (nI 7)] (fun u' w => (gP [35, 37, 40, 118, 119] u u' ∧ ((u'.1 17 0 40 = 1 ∧ (st.length < 2 ∨ 9 < st.headD 0 ∨ 9 < st.tail.headD 0)) ∨ ∃ a b t, st = a :: b :: t ∧ a ≤ 9 ∧ b ≤ 9 ∧ u'.1 17 0 40 = 0 ∧ rM u' (jnd 7 a b :: t) sd)) ∧ w = none) := by
  refine ab_C.of (by decide) (Nat.le_of_ble_eq_true rfl) ?_
  intro p e s m args below meth c ad X hZ hr0 hlk
  have P0 : gP [35, 37, 40, 118, 119] u u := gP.rf h
  cases st with
  | nil =>
    refine ab_aload_n X 0 d_MO_join_0 rfl rfl ?_
    refine ab_callV (as := []) X (fun h => by cases h) (z_MO_takeNumber u [] sd h C (by decide)) lk_MO_298 d_MO_join_1 rfl rfl (by first | assumption | decide | (show _ < 124; omega) | (show _ < 61; omega) | (show _ < 20; omega)) ⟨by first | exact Nat.le_of_ble_eq_true rfl | (simp only [ab_rm]; omega), by first | exact Nat.le_of_ble_eq_true rfl | (simp only [ab_rm]; omega)⟩ ⟨by first | exact Nat.le_of_ble_eq_true rfl | (simp only [ab_rm]; omega), by first | exact Nat.le_of_ble_eq_true rfl | (simp only [ab_rm]; omega)⟩ (Nat.le_of_ble_eq_true rfl) (fun u1 r1 h1 => ?_)
    obtain ⟨⟨z1, c1, g1⟩, rfl⟩ := h1
    have q1 := z1
    have P1 := P0.trans q1 (by decide)
    refine ab_istore_n2 X 0 1 d_MO_join_4 rfl (by decide) rfl rfl rfl rfl ?_
    refine ab_aload_n X 1 d_MO_join_5 rfl rfl ?_
    refine ab_callV (as := []) X (fun h => by cases h) (z_MO_takeNumber u1 [] sd P1.1 c1 (by decide)) lk_MO_298 d_MO_join_6 rfl rfl (by first | assumption | decide | (show _ < 124; omega) | (show _ < 61; omega) | (show _ < 20; omega)) ⟨by first | exact Nat.le_of_ble_eq_true rfl | (simp only [ab_rm]; omega), by first | exact Nat.le_of_ble_eq_true rfl | (simp only [ab_rm]; omega)⟩ ⟨by first | exact Nat.le_of_ble_eq_true rfl | (simp only [ab_rm]; omega), by first | exact Nat.le_of_ble_eq_true rfl | (simp only [ab_rm]; omega)⟩ (Nat.le_of_ble_eq_true rfl) (fun u6 r6 h6 => ?_)
    obtain ⟨⟨z6, c6, g6⟩, rfl⟩ := h6
    have q6 := z6
    have P6 := P1.trans q6 (by decide)
    refine ab_istore_n3 X 0 1 2 d_MO_join_9 rfl (by decide) rfl rfl rfl rfl rfl rfl ?_
    refine ab_aload_n X 2 d_MO_join_10 rfl rfl ?_
    refine ab_iload_n X 3 d_MO_join_11 rfl rfl ?_
    refine ab_bipush (v := 8) X d_MO_join_12 (by decide) ?_
    refine ab_icmp_ne X 23 d_MO_join_14 rfl (fun _ => ?_) (fun hb => absurd hb ((by decide)))
    refine ab_iload_n X 3 d_MO_join_23 rfl rfl ?_
    refine ab_bipush (v := 6) X d_MO_join_24 (by decide) ?_
    refine ab_icmp_ne X 45 d_MO_join_26 rfl (fun _ => ?_) (fun hb => absurd hb ((by decide)))
    refine ab_iload_n X 0 d_MO_join_45 rfl rfl ?_
    refine ab_if_ne X 53 d_MO_join_46 rfl (fun hb => absurd (rfl) hb) (fun _ => ?_)
    refine ab_iload_n X 1 d_MO_join_49 rfl rfl ?_
    refine ab_if_eq X 57 d_MO_join_50 rfl (fun _ => ?_) (fun hb => absurd (rfl) hb)
    refine ab_iconst (v := 0) X d_MO_join_57 (by decide) ?_
    refine ab_callV (as := [ab_I (nI (0))]) X (fun h => by cases h) (z_MO_putX u6 (nI (0)) [] sd P6.1 c6 (by first | decide | omega)) lk_MO_301 d_MO_join_58 rfl rfl (by first | assumption | decide | (show _ < 124; omega) | (show _ < 61; omega) | (show _ < 20; omega)) ⟨by first | exact Nat.le_of_ble_eq_true rfl | (simp only [ab_rm]; omega), by first | exact Nat.le_of_ble_eq_true rfl | (simp only [ab_rm]; omega)⟩ ⟨by first | exact Nat.le_of_ble_eq_true rfl | (simp only [ab_rm]; omega), by first | exact Nat.le_of_ble_eq_true rfl | (simp only [ab_rm]; omega)⟩ (Nat.le_of_ble_eq_true rfl) (fun u58 r58 h58 => ?_)
    obtain ⟨⟨z58, g58⟩, rfl⟩ := h58
    have q58 := z58
    have P58 := P6.trans q58 (by decide)
    exact ab_retv X hr0 hlk d_MO_join_61 ⟨⟨P58, Or.inl ⟨g58.trans (g6.trans tn_0), Or.inl (by decide)⟩⟩, rfl⟩
  | cons a t =>
    have ha : a < 2000 := C.1.2.1.2
    cases t with
    | nil =>
      by_cases a0 : a = 0
      ·
        refine ab_aload_n X 0 d_MO_join_0 rfl rfl ?_
        refine ab_callV (as := []) X (fun h => by cases h) (z_MO_takeNumber u [a] sd h C (show 1 ≤ 128 by decide)) lk_MO_298 d_MO_join_1 rfl rfl (by first | assumption | decide | (show _ < 124; omega) | (show _ < 61; omega) | (show _ < 20; omega)) ⟨by first | exact Nat.le_of_ble_eq_true rfl | (simp only [ab_rm]; omega), by first | exact Nat.le_of_ble_eq_true rfl | (simp only [ab_rm]; omega)⟩ ⟨by first | exact Nat.le_of_ble_eq_true rfl | (simp only [ab_rm]; omega), by first | exact Nat.le_of_ble_eq_true rfl | (simp only [ab_rm]; omega)⟩ (Nat.le_of_ble_eq_true rfl) (fun u1 r1 h1 => ?_)
        obtain ⟨⟨z1, c1, g1⟩, rfl⟩ := h1
        have q1 := z1
        have P1 := P0.trans q1 (by decide)
        refine ab_istore_n2 X 0 1 d_MO_join_4 rfl (by decide) rfl rfl rfl rfl ?_
        refine ab_aload_n X 1 d_MO_join_5 rfl rfl ?_
        refine ab_callV (as := []) X (fun h => by cases h) (z_MO_takeNumber u1 [] sd P1.1 c1 (by decide)) lk_MO_298 d_MO_join_6 rfl rfl (by first | assumption | decide | (show _ < 124; omega) | (show _ < 61; omega) | (show _ < 20; omega)) ⟨by first | exact Nat.le_of_ble_eq_true rfl | (simp only [ab_rm]; omega), by first | exact Nat.le_of_ble_eq_true rfl | (simp only [ab_rm]; omega)⟩ ⟨by first | exact Nat.le_of_ble_eq_true rfl | (simp only [ab_rm]; omega), by first | exact Nat.le_of_ble_eq_true rfl | (simp only [ab_rm]; omega)⟩ (Nat.le_of_ble_eq_true rfl) (fun u6 r6 h6 => ?_)
        obtain ⟨⟨z6, c6, g6⟩, rfl⟩ := h6
        have q6 := z6
        have P6 := P1.trans q6 (by decide)
        refine ab_istore_n3 X 0 1 2 d_MO_join_9 rfl (by decide) rfl rfl rfl rfl rfl rfl ?_
        refine ab_aload_n X 2 d_MO_join_10 rfl rfl ?_
        refine ab_iload_n X 3 d_MO_join_11 rfl rfl ?_
        refine ab_bipush (v := 8) X d_MO_join_12 (by decide) ?_
        refine ab_icmp_ne X 23 d_MO_join_14 rfl (fun _ => ?_) (fun hb => absurd hb ((by decide)))
        refine ab_iload_n X 3 d_MO_join_23 rfl rfl ?_
        refine ab_bipush (v := 6) X d_MO_join_24 (by decide) ?_
        refine ab_icmp_ne X 45 d_MO_join_26 rfl (fun _ => ?_) (fun hb => absurd hb ((by decide)))
        refine ab_iload_n X 0 d_MO_join_45 rfl rfl ?_
        refine ab_if_ne X 53 d_MO_join_46 rfl (fun hb => absurd (rfl) hb) (fun _ => ?_)
        refine ab_iload_n X 1 d_MO_join_49 rfl rfl ?_
        refine ab_if_eq X 57 d_MO_join_50 rfl (fun _ => ?_) (fun hb => absurd ((congrArg nI a0)) hb)
        refine ab_iconst (v := 0) X d_MO_join_57 (by decide) ?_
        refine ab_callV (as := [ab_I (nI (0))]) X (fun h => by cases h) (z_MO_putX u6 (nI (0)) [] sd P6.1 c6 (by first | decide | omega)) lk_MO_301 d_MO_join_58 rfl rfl (by first | assumption | decide | (show _ < 124; omega) | (show _ < 61; omega) | (show _ < 20; omega)) ⟨by first | exact Nat.le_of_ble_eq_true rfl | (simp only [ab_rm]; omega), by first | exact Nat.le_of_ble_eq_true rfl | (simp only [ab_rm]; omega)⟩ ⟨by first | exact Nat.le_of_ble_eq_true rfl | (simp only [ab_rm]; omega), by first | exact Nat.le_of_ble_eq_true rfl | (simp only [ab_rm]; omega)⟩ (Nat.le_of_ble_eq_true rfl) (fun u58 r58 h58 => ?_)
        obtain ⟨⟨z58, g58⟩, rfl⟩ := h58
        have q58 := z58
        have P58 := P6.trans q58 (by decide)
        exact ab_retv X hr0 hlk d_MO_join_61 ⟨⟨P58, Or.inl ⟨g58.trans (g6.trans tn_0), Or.inl (show 1 < 2 by decide)⟩⟩, rfl⟩
      ·
        refine ab_aload_n X 0 d_MO_join_0 rfl rfl ?_
        refine ab_callV (as := []) X (fun h => by cases h) (z_MO_takeNumber u [a] sd h C (show 1 ≤ 128 by decide)) lk_MO_298 d_MO_join_1 rfl rfl (by first | assumption | decide | (show _ < 124; omega) | (show _ < 61; omega) | (show _ < 20; omega)) ⟨by first | exact Nat.le_of_ble_eq_true rfl | (simp only [ab_rm]; omega), by first | exact Nat.le_of_ble_eq_true rfl | (simp only [ab_rm]; omega)⟩ ⟨by first | exact Nat.le_of_ble_eq_true rfl | (simp only [ab_rm]; omega), by first | exact Nat.le_of_ble_eq_true rfl | (simp only [ab_rm]; omega)⟩ (Nat.le_of_ble_eq_true rfl) (fun u1 r1 h1 => ?_)
        obtain ⟨⟨z1, c1, g1⟩, rfl⟩ := h1
        have q1 := z1
        have P1 := P0.trans q1 (by decide)
        refine ab_istore_n2 X 0 1 d_MO_join_4 rfl (by decide) rfl rfl rfl rfl ?_
        refine ab_aload_n X 1 d_MO_join_5 rfl rfl ?_
        refine ab_callV (as := []) X (fun h => by cases h) (z_MO_takeNumber u1 [] sd P1.1 c1 (by decide)) lk_MO_298 d_MO_join_6 rfl rfl (by first | assumption | decide | (show _ < 124; omega) | (show _ < 61; omega) | (show _ < 20; omega)) ⟨by first | exact Nat.le_of_ble_eq_true rfl | (simp only [ab_rm]; omega), by first | exact Nat.le_of_ble_eq_true rfl | (simp only [ab_rm]; omega)⟩ ⟨by first | exact Nat.le_of_ble_eq_true rfl | (simp only [ab_rm]; omega), by first | exact Nat.le_of_ble_eq_true rfl | (simp only [ab_rm]; omega)⟩ (Nat.le_of_ble_eq_true rfl) (fun u6 r6 h6 => ?_)
        obtain ⟨⟨z6, c6, g6⟩, rfl⟩ := h6
        have q6 := z6
        have P6 := P1.trans q6 (by decide)
        refine ab_istore_n3 X 0 1 2 d_MO_join_9 rfl (by decide) rfl rfl rfl rfl rfl rfl ?_
        refine ab_aload_n X 2 d_MO_join_10 rfl rfl ?_
        refine ab_iload_n X 3 d_MO_join_11 rfl rfl ?_
        refine ab_bipush (v := 8) X d_MO_join_12 (by decide) ?_
        refine ab_icmp_ne X 23 d_MO_join_14 rfl (fun _ => ?_) (fun hb => absurd hb ((by decide)))
        refine ab_iload_n X 3 d_MO_join_23 rfl rfl ?_
        refine ab_bipush (v := 6) X d_MO_join_24 (by decide) ?_
        refine ab_icmp_ne X 45 d_MO_join_26 rfl (fun _ => ?_) (fun hb => absurd hb ((by decide)))
        refine ab_iload_n X 0 d_MO_join_45 rfl rfl ?_
        refine ab_if_ne X 53 d_MO_join_46 rfl (fun hb => absurd (rfl) hb) (fun _ => ?_)
        refine ab_iload_n X 1 d_MO_join_49 rfl rfl ?_
        refine ab_if_eq X 57 d_MO_join_50 rfl (fun hb => absurd hb ((nI_n0 (n := a) (by omega) a0))) (fun _ => ?_)
        refine ab_iconst (v := 1) X d_MO_join_53 (by decide) ?_
        refine ab_goto X 58 d_MO_join_54 rfl ?_
        refine ab_callV (as := [ab_I (nI (1))]) X (fun h => by cases h) (z_MO_putX u6 (nI (1)) [] sd P6.1 c6 (by first | decide | omega)) lk_MO_301 d_MO_join_58 rfl rfl (by first | assumption | decide | (show _ < 124; omega) | (show _ < 61; omega) | (show _ < 20; omega)) ⟨by first | exact Nat.le_of_ble_eq_true rfl | (simp only [ab_rm]; omega), by first | exact Nat.le_of_ble_eq_true rfl | (simp only [ab_rm]; omega)⟩ ⟨by first | exact Nat.le_of_ble_eq_true rfl | (simp only [ab_rm]; omega), by first | exact Nat.le_of_ble_eq_true rfl | (simp only [ab_rm]; omega)⟩ (Nat.le_of_ble_eq_true rfl) (fun u58 r58 h58 => ?_)
        obtain ⟨⟨z58, g58⟩, rfl⟩ := h58
        have q58 := z58
        have P58 := P6.trans q58 (by decide)
        exact ab_retv X hr0 hlk d_MO_join_61 ⟨⟨P58, Or.inl ⟨g58.trans (g6.trans tn_0), Or.inl (show 1 < 2 by decide)⟩⟩, rfl⟩
    | cons b t =>
      have hb : b < 2000 := C.1.2.2.1.2
      have hL : t.length + 1 + 1 < 127 := hL
      by_cases a0 : a = 0
      ·
        by_cases b0 : b = 0
        ·
          by_cases a9 : 9 < a
          ·
            refine ab_aload_n X 0 d_MO_join_0 rfl rfl ?_
            refine ab_callV (as := []) X (fun h => by cases h) (z_MO_takeNumber u (a :: b :: t) sd h C (by show t.length + 1 + 1 ≤ 128; omega)) lk_MO_298 d_MO_join_1 rfl rfl (by first | assumption | decide | (show _ < 124; omega) | (show _ < 61; omega) | (show _ < 20; omega)) ⟨by first | exact Nat.le_of_ble_eq_true rfl | (simp only [ab_rm]; omega), by first | exact Nat.le_of_ble_eq_true rfl | (simp only [ab_rm]; omega)⟩ ⟨by first | exact Nat.le_of_ble_eq_true rfl | (simp only [ab_rm]; omega), by first | exact Nat.le_of_ble_eq_true rfl | (simp only [ab_rm]; omega)⟩ (Nat.le_of_ble_eq_true rfl) (fun u1 r1 h1 => ?_)
            obtain ⟨⟨z1, c1, g1⟩, rfl⟩ := h1
            have q1 := z1
            have P1 := P0.trans q1 (by decide)
            refine ab_istore_n2 X 0 1 d_MO_join_4 rfl (by decide) rfl rfl rfl rfl ?_
            refine ab_aload_n X 1 d_MO_join_5 rfl rfl ?_
            refine ab_callV (as := []) X (fun h => by cases h) (z_MO_takeNumber u1 (b :: t) sd P1.1 c1 (by show t.length + 1 ≤ 128; omega)) lk_MO_298 d_MO_join_6 rfl rfl (by first | assumption | decide | (show _ < 124; omega) | (show _ < 61; omega) | (show _ < 20; omega)) ⟨by first | exact Nat.le_of_ble_eq_true rfl | (simp only [ab_rm]; omega), by first | exact Nat.le_of_ble_eq_true rfl | (simp only [ab_rm]; omega)⟩ ⟨by first | exact Nat.le_of_ble_eq_true rfl | (simp only [ab_rm]; omega), by first | exact Nat.le_of_ble_eq_true rfl | (simp only [ab_rm]; omega)⟩ (Nat.le_of_ble_eq_true rfl) (fun u6 r6 h6 => ?_)
            obtain ⟨⟨z6, c6, g6⟩, rfl⟩ := h6
            have q6 := z6
            have P6 := P1.trans q6 (by decide)
            refine ab_istore_n3 X 0 1 2 d_MO_join_9 rfl (by decide) rfl rfl rfl rfl rfl rfl ?_
            refine ab_aload_n X 2 d_MO_join_10 rfl rfl ?_
            refine ab_iload_n X 3 d_MO_join_11 rfl rfl ?_
            refine ab_bipush (v := 8) X d_MO_join_12 (by decide) ?_
            refine ab_icmp_ne X 23 d_MO_join_14 rfl (fun _ => ?_) (fun hb => absurd hb ((by decide)))
            refine ab_iload_n X 3 d_MO_join_23 rfl rfl ?_
            refine ab_bipush (v := 6) X d_MO_join_24 (by decide) ?_
            refine ab_icmp_ne X 45 d_MO_join_26 rfl (fun _ => ?_) (fun hb => absurd hb ((by decide)))
            refine ab_iload_n X 0 d_MO_join_45 rfl rfl ?_
            refine ab_if_ne X 53 d_MO_join_46 rfl (fun hb => absurd ((congrArg nI b0)) hb) (fun _ => ?_)
            refine ab_iload_n X 1 d_MO_join_49 rfl rfl ?_
            refine ab_if_eq X 57 d_MO_join_50 rfl (fun _ => ?_) (fun hb => absurd ((congrArg nI a0)) hb)
            refine ab_iconst (v := 0) X d_MO_join_57 (by decide) ?_
            refine ab_callV (as := [ab_I (nI (0))]) X (fun h => by cases h) (z_MO_putX u6 (nI (0)) t sd P6.1 c6 (by first | decide | omega)) lk_MO_301 d_MO_join_58 rfl rfl (by first | assumption | decide | (show _ < 124; omega) | (show _ < 61; omega) | (show _ < 20; omega)) ⟨by first | exact Nat.le_of_ble_eq_true rfl | (simp only [ab_rm]; omega), by first | exact Nat.le_of_ble_eq_true rfl | (simp only [ab_rm]; omega)⟩ ⟨by first | exact Nat.le_of_ble_eq_true rfl | (simp only [ab_rm]; omega), by first | exact Nat.le_of_ble_eq_true rfl | (simp only [ab_rm]; omega)⟩ (Nat.le_of_ble_eq_true rfl) (fun u58 r58 h58 => ?_)
            obtain ⟨⟨z58, g58⟩, rfl⟩ := h58
            have q58 := z58
            have P58 := P6.trans q58 (by decide)
            exact ab_retv X hr0 hlk d_MO_join_61 ⟨⟨P58, Or.inl ⟨g58.trans (g6.trans (tn_1 (g1.trans (tn_y a9)))), Or.inr (Or.inl a9)⟩⟩, rfl⟩
          · by_cases b9 : 9 < b
            ·
              refine ab_aload_n X 0 d_MO_join_0 rfl rfl ?_
              refine ab_callV (as := []) X (fun h => by cases h) (z_MO_takeNumber u (a :: b :: t) sd h C (by show t.length + 1 + 1 ≤ 128; omega)) lk_MO_298 d_MO_join_1 rfl rfl (by first | assumption | decide | (show _ < 124; omega) | (show _ < 61; omega) | (show _ < 20; omega)) ⟨by first | exact Nat.le_of_ble_eq_true rfl | (simp only [ab_rm]; omega), by first | exact Nat.le_of_ble_eq_true rfl | (simp only [ab_rm]; omega)⟩ ⟨by first | exact Nat.le_of_ble_eq_true rfl | (simp only [ab_rm]; omega), by first | exact Nat.le_of_ble_eq_true rfl | (simp only [ab_rm]; omega)⟩ (Nat.le_of_ble_eq_true rfl) (fun u1 r1 h1 => ?_)
              obtain ⟨⟨z1, c1, g1⟩, rfl⟩ := h1
              have q1 := z1
              have P1 := P0.trans q1 (by decide)
              refine ab_istore_n2 X 0 1 d_MO_join_4 rfl (by decide) rfl rfl rfl rfl ?_
              refine ab_aload_n X 1 d_MO_join_5 rfl rfl ?_
              refine ab_callV (as := []) X (fun h => by cases h) (z_MO_takeNumber u1 (b :: t) sd P1.1 c1 (by show t.length + 1 ≤ 128; omega)) lk_MO_298 d_MO_join_6 rfl rfl (by first | assumption | decide | (show _ < 124; omega) | (show _ < 61; omega) | (show _ < 20; omega)) ⟨by first | exact Nat.le_of_ble_eq_true rfl | (simp only [ab_rm]; omega), by first | exact Nat.le_of_ble_eq_true rfl | (simp only [ab_rm]; omega)⟩ ⟨by first | exact Nat.le_of_ble_eq_true rfl | (simp only [ab_rm]; omega), by first | exact Nat.le_of_ble_eq_true rfl | (simp only [ab_rm]; omega)⟩ (Nat.le_of_ble_eq_true rfl) (fun u6 r6 h6 => ?_)
              obtain ⟨⟨z6, c6, g6⟩, rfl⟩ := h6
              have q6 := z6
              have P6 := P1.trans q6 (by decide)
              refine ab_istore_n3 X 0 1 2 d_MO_join_9 rfl (by decide) rfl rfl rfl rfl rfl rfl ?_
              refine ab_aload_n X 2 d_MO_join_10 rfl rfl ?_
              refine ab_iload_n X 3 d_MO_join_11 rfl rfl ?_
              refine ab_bipush (v := 8) X d_MO_join_12 (by decide) ?_
              refine ab_icmp_ne X 23 d_MO_join_14 rfl (fun _ => ?_) (fun hb => absurd hb ((by decide)))
              refine ab_iload_n X 3 d_MO_join_23 rfl rfl ?_
              refine ab_bipush (v := 6) X d_MO_join_24 (by decide) ?_
              refine ab_icmp_ne X 45 d_MO_join_26 rfl (fun _ => ?_) (fun hb => absurd hb ((by decide)))
              refine ab_iload_n X 0 d_MO_join_45 rfl rfl ?_
              refine ab_if_ne X 53 d_MO_join_46 rfl (fun hb => absurd ((congrArg nI b0)) hb) (fun _ => ?_)
              refine ab_iload_n X 1 d_MO_join_49 rfl rfl ?_
              refine ab_if_eq X 57 d_MO_join_50 rfl (fun _ => ?_) (fun hb => absurd ((congrArg nI a0)) hb)
              refine ab_iconst (v := 0) X d_MO_join_57 (by decide) ?_
              refine ab_callV (as := [ab_I (nI (0))]) X (fun h => by cases h) (z_MO_putX u6 (nI (0)) t sd P6.1 c6 (by first | decide | omega)) lk_MO_301 d_MO_join_58 rfl rfl (by first | assumption | decide | (show _ < 124; omega) | (show _ < 61; omega) | (show _ < 20; omega)) ⟨by first | exact Nat.le_of_ble_eq_true rfl | (simp only [ab_rm]; omega), by first | exact Nat.le_of_ble_eq_true rfl | (simp only [ab_rm]; omega)⟩ ⟨by first | exact Nat.le_of_ble_eq_true rfl | (simp only [ab_rm]; omega), by first | exact Nat.le_of_ble_eq_true rfl | (simp only [ab_rm]; omega)⟩ (Nat.le_of_ble_eq_true rfl) (fun u58 r58 h58 => ?_)
              obtain ⟨⟨z58, g58⟩, rfl⟩ := h58
              have q58 := z58
              have P58 := P6.trans q58 (by decide)
              exact ab_retv X hr0 hlk d_MO_join_61 ⟨⟨P58, Or.inl ⟨g58.trans (g6.trans (tn_y b9)), Or.inr (Or.inr b9)⟩⟩, rfl⟩
            · have v9 : b ≤ 9 := by omega
              have w9 : a ≤ 9 := by omega
              refine ab_aload_n X 0 d_MO_join_0 rfl rfl ?_
              refine ab_callV (as := []) X (fun h => by cases h) (z_MO_takeNumber u (a :: b :: t) sd h C (by show t.length + 1 + 1 ≤ 128; omega)) lk_MO_298 d_MO_join_1 rfl rfl (by first | assumption | decide | (show _ < 124; omega) | (show _ < 61; omega) | (show _ < 20; omega)) ⟨by first | exact Nat.le_of_ble_eq_true rfl | (simp only [ab_rm]; omega), by first | exact Nat.le_of_ble_eq_true rfl | (simp only [ab_rm]; omega)⟩ ⟨by first | exact Nat.le_of_ble_eq_true rfl | (simp only [ab_rm]; omega), by first | exact Nat.le_of_ble_eq_true rfl | (simp only [ab_rm]; omega)⟩ (Nat.le_of_ble_eq_true rfl) (fun u1 r1 h1 => ?_)
              obtain ⟨⟨z1, c1, g1⟩, rfl⟩ := h1
              have q1 := z1
              have P1 := P0.trans q1 (by decide)
              refine ab_istore_n2 X 0 1 d_MO_join_4 rfl (by decide) rfl rfl rfl rfl ?_
              refine ab_aload_n X 1 d_MO_join_5 rfl rfl ?_
              refine ab_callV (as := []) X (fun h => by cases h) (z_MO_takeNumber u1 (b :: t) sd P1.1 c1 (by show t.length + 1 ≤ 128; omega)) lk_MO_298 d_MO_join_6 rfl rfl (by first | assumption | decide | (show _ < 124; omega) | (show _ < 61; omega) | (show _ < 20; omega)) ⟨by first | exact Nat.le_of_ble_eq_true rfl | (simp only [ab_rm]; omega), by first | exact Nat.le_of_ble_eq_true rfl | (simp only [ab_rm]; omega)⟩ ⟨by first | exact Nat.le_of_ble_eq_true rfl | (simp only [ab_rm]; omega), by first | exact Nat.le_of_ble_eq_true rfl | (simp only [ab_rm]; omega)⟩ (Nat.le_of_ble_eq_true rfl) (fun u6 r6 h6 => ?_)
              obtain ⟨⟨z6, c6, g6⟩, rfl⟩ := h6
              have q6 := z6
              have P6 := P1.trans q6 (by decide)
              refine ab_istore_n3 X 0 1 2 d_MO_join_9 rfl (by decide) rfl rfl rfl rfl rfl rfl ?_
              refine ab_aload_n X 2 d_MO_join_10 rfl rfl ?_
              refine ab_iload_n X 3 d_MO_join_11 rfl rfl ?_
              refine ab_bipush (v := 8) X d_MO_join_12 (by decide) ?_
              refine ab_icmp_ne X 23 d_MO_join_14 rfl (fun _ => ?_) (fun hb => absurd hb ((by decide)))
              refine ab_iload_n X 3 d_MO_join_23 rfl rfl ?_
              refine ab_bipush (v := 6) X d_MO_join_24 (by decide) ?_
              refine ab_icmp_ne X 45 d_MO_join_26 rfl (fun _ => ?_) (fun hb => absurd hb ((by decide)))
              refine ab_iload_n X 0 d_MO_join_45 rfl rfl ?_
              refine ab_if_ne X 53 d_MO_join_46 rfl (fun hb => absurd ((congrArg nI b0)) hb) (fun _ => ?_)
              refine ab_iload_n X 1 d_MO_join_49 rfl rfl ?_
              refine ab_if_eq X 57 d_MO_join_50 rfl (fun _ => ?_) (fun hb => absurd ((congrArg nI a0)) hb)
              refine ab_iconst (v := 0) X d_MO_join_57 (by decide) ?_
              refine ab_callV (as := [ab_I (nI (0))]) X (fun h => by cases h) (z_MO_putOn u6 (0) t sd P6.1 c6 (by omega) (by omega)) lk_MO_301 d_MO_join_58 rfl rfl (by first | assumption | decide | (show _ < 124; omega) | (show _ < 61; omega) | (show _ < 20; omega)) ⟨by first | exact Nat.le_of_ble_eq_true rfl | (simp only [ab_rm]; omega), by first | exact Nat.le_of_ble_eq_true rfl | (simp only [ab_rm]; omega)⟩ ⟨by first | exact Nat.le_of_ble_eq_true rfl | (simp only [ab_rm]; omega), by first | exact Nat.le_of_ble_eq_true rfl | (simp only [ab_rm]; omega)⟩ (Nat.le_of_ble_eq_true rfl) (fun u58 r58 h58 => ?_)
              obtain ⟨⟨z58, c58, g58⟩, rfl⟩ := h58
              have q58 := z58
              have P58 := P6.trans q58 (by decide)
              exact ab_retv X hr0 hlk d_MO_join_61 ⟨⟨P58, Or.inr ⟨a, b, t, rfl, w9, v9, g58.trans (g6.trans ((tn_n v9).trans (g1.trans ((tn_n w9).trans e6)))), by rw [(show jnd 7 a b = 0 by simp [jnd, a0, b0])]; exact c58⟩⟩, rfl⟩
        ·
          by_cases a9 : 9 < a
          ·
            refine ab_aload_n X 0 d_MO_join_0 rfl rfl ?_
            refine ab_callV (as := []) X (fun h => by cases h) (z_MO_takeNumber u (a :: b :: t) sd h C (by show t.length + 1 + 1 ≤ 128; omega)) lk_MO_298 d_MO_join_1 rfl rfl (by first | assumption | decide | (show _ < 124; omega) | (show _ < 61; omega) | (show _ < 20; omega)) ⟨by first | exact Nat.le_of_ble_eq_true rfl | (simp only [ab_rm]; omega), by first | exact Nat.le_of_ble_eq_true rfl | (simp only [ab_rm]; omega)⟩ ⟨by first | exact Nat.le_of_ble_eq_true rfl | (simp only [ab_rm]; omega), by first | exact Nat.le_of_ble_eq_true rfl | (simp only [ab_rm]; omega)⟩ (Nat.le_of_ble_eq_true rfl) (fun u1 r1 h1 => ?_)
            obtain ⟨⟨z1, c1, g1⟩, rfl⟩ := h1
            have q1 := z1
            have P1 := P0.trans q1 (by decide)
            refine ab_istore_n2 X 0 1 d_MO_join_4 rfl (by decide) rfl rfl rfl rfl ?_
            refine ab_aload_n X 1 d_MO_join_5 rfl rfl ?_
            refine ab_callV (as := []) X (fun h => by cases h) (z_MO_takeNumber u1 (b :: t) sd P1.1 c1 (by show t.length + 1 ≤ 128; omega)) lk_MO_298 d_MO_join_6 rfl rfl (by first | assumption | decide | (show _ < 124; omega) | (show _ < 61; omega) | (show _ < 20; omega)) ⟨by first | exact Nat.le_of_ble_eq_true rfl | (simp only [ab_rm]; omega), by first | exact Nat.le_of_ble_eq_true rfl | (simp only [ab_rm]; omega)⟩ ⟨by first | exact Nat.le_of_ble_eq_true rfl | (simp only [ab_rm]; omega), by first | exact Nat.le_of_ble_eq_true rfl | (simp only [ab_rm]; omega)⟩ (Nat.le_of_ble_eq_true rfl) (fun u6 r6 h6 => ?_)
            obtain ⟨⟨z6, c6, g6⟩, rfl⟩ := h6
            have q6 := z6
            have P6 := P1.trans q6 (by decide)
            refine ab_istore_n3 X 0 1 2 d_MO_join_9 rfl (by decide) rfl rfl rfl rfl rfl rfl ?_
            refine ab_aload_n X 2 d_MO_join_10 rfl rfl ?_
            refine ab_iload_n X 3 d_MO_join_11 rfl rfl ?_
            refine ab_bipush (v := 8) X d_MO_join_12 (by decide) ?_
            refine ab_icmp_ne X 23 d_MO_join_14 rfl (fun _ => ?_) (fun hb => absurd hb ((by decide)))
            refine ab_iload_n X 3 d_MO_join_23 rfl rfl ?_
            refine ab_bipush (v := 6) X d_MO_join_24 (by decide) ?_
            refine ab_icmp_ne X 45 d_MO_join_26 rfl (fun _ => ?_) (fun hb => absurd hb ((by decide)))
            refine ab_iload_n X 0 d_MO_join_45 rfl rfl ?_
            refine ab_if_ne X 53 d_MO_join_46 rfl (fun _ => ?_) (fun hb => absurd hb ((nI_n0 (n := b) (by omega) b0)))
            refine ab_iconst (v := 1) X d_MO_join_53 (by decide) ?_
            refine ab_goto X 58 d_MO_join_54 rfl ?_
            refine ab_callV (as := [ab_I (nI (1))]) X (fun h => by cases h) (z_MO_putX u6 (nI (1)) t sd P6.1 c6 (by first | decide | omega)) lk_MO_301 d_MO_join_58 rfl rfl (by first | assumption | decide | (show _ < 124; omega) | (show _ < 61; omega) | (show _ < 20; omega)) ⟨by first | exact Nat.le_of_ble_eq_true rfl | (simp only [ab_rm]; omega), by first | exact Nat.le_of_ble_eq_true rfl | (simp only [ab_rm]; omega)⟩ ⟨by first | exact Nat.le_of_ble_eq_true rfl | (simp only [ab_rm]; omega), by first | exact Nat.le_of_ble_eq_true rfl | (simp only [ab_rm]; omega)⟩ (Nat.le_of_ble_eq_true rfl) (fun u58 r58 h58 => ?_)
            obtain ⟨⟨z58, g58⟩, rfl⟩ := h58
            have q58 := z58
            have P58 := P6.trans q58 (by decide)
            exact ab_retv X hr0 hlk d_MO_join_61 ⟨⟨P58, Or.inl ⟨g58.trans (g6.trans (tn_1 (g1.trans (tn_y a9)))), Or.inr (Or.inl a9)⟩⟩, rfl⟩
          · by_cases b9 : 9 < b
            ·
              refine ab_aload_n X 0 d_MO_join_0 rfl rfl ?_
              refine ab_callV (as := []) X (fun h => by cases h) (z_MO_takeNumber u (a :: b :: t) sd h C (by show t.length + 1 + 1 ≤ 128; omega)) lk_MO_298 d_MO_join_1 rfl rfl (by first | assumption | decide | (show _ < 124; omega) | (show _ < 61; omega) | (show _ < 20; omega)) ⟨by first | exact Nat.le_of_ble_eq_true rfl | (simp only [ab_rm]; omega), by first | exact Nat.le_of_ble_eq_true rfl | (simp only [ab_rm]; omega)⟩ ⟨by first | exact Nat.le_of_ble_eq_true rfl | (simp only [ab_rm]; omega), by first | exact Nat.le_of_ble_eq_true rfl | (simp only [ab_rm]; omega)⟩ (Nat.le_of_ble_eq_true rfl) (fun u1 r1 h1 => ?_)
              obtain ⟨⟨z1, c1, g1⟩, rfl⟩ := h1
              have q1 := z1
              have P1 := P0.trans q1 (by decide)
              refine ab_istore_n2 X 0 1 d_MO_join_4 rfl (by decide) rfl rfl rfl rfl ?_
              refine ab_aload_n X 1 d_MO_join_5 rfl rfl ?_
              refine ab_callV (as := []) X (fun h => by cases h) (z_MO_takeNumber u1 (b :: t) sd P1.1 c1 (by show t.length + 1 ≤ 128; omega)) lk_MO_298 d_MO_join_6 rfl rfl (by first | assumption | decide | (show _ < 124; omega) | (show _ < 61; omega) | (show _ < 20; omega)) ⟨by first | exact Nat.le_of_ble_eq_true rfl | (simp only [ab_rm]; omega), by first | exact Nat.le_of_ble_eq_true rfl | (simp only [ab_rm]; omega)⟩ ⟨by first | exact Nat.le_of_ble_eq_true rfl | (simp only [ab_rm]; omega), by first | exact Nat.le_of_ble_eq_true rfl | (simp only [ab_rm]; omega)⟩ (Nat.le_of_ble_eq_true rfl) (fun u6 r6 h6 => ?_)
              obtain ⟨⟨z6, c6, g6⟩, rfl⟩ := h6
              have q6 := z6
              have P6 := P1.trans q6 (by decide)
              refine ab_istore_n3 X 0 1 2 d_MO_join_9 rfl (by decide) rfl rfl rfl rfl rfl rfl ?_
              refine ab_aload_n X 2 d_MO_join_10 rfl rfl ?_
              refine ab_iload_n X 3 d_MO_join_11 rfl rfl ?_
              refine ab_bipush (v := 8) X d_MO_join_12 (by decide) ?_
              refine ab_icmp_ne X 23 d_MO_join_14 rfl (fun _ => ?_) (fun hb => absurd hb ((by decide)))
              refine ab_iload_n X 3 d_MO_join_23 rfl rfl ?_
              refine ab_bipush (v := 6) X d_MO_join_24 (by decide) ?_
              refine ab_icmp_ne X 45 d_MO_join_26 rfl (fun _ => ?_) (fun hb => absurd hb ((by decide)))
              refine ab_iload_n X 0 d_MO_join_45 rfl rfl ?_
              refine ab_if_ne X 53 d_MO_join_46 rfl (fun _ => ?_) (fun hb => absurd hb ((nI_n0 (n := b) (by omega) b0)))
              refine ab_iconst (v := 1) X d_MO_join_53 (by decide) ?_
              refine ab_goto X 58 d_MO_join_54 rfl ?_
              refine ab_callV (as := [ab_I (nI (1))]) X (fun h => by cases h) (z_MO_putX u6 (nI (1)) t sd P6.1 c6 (by first | decide | omega)) lk_MO_301 d_MO_join_58 rfl rfl (by first | assumption | decide | (show _ < 124; omega) | (show _ < 61; omega) | (show _ < 20; omega)) ⟨by first | exact Nat.le_of_ble_eq_true rfl | (simp only [ab_rm]; omega), by first | exact Nat.le_of_ble_eq_true rfl | (simp only [ab_rm]; omega)⟩ ⟨by first | exact Nat.le_of_ble_eq_true rfl | (simp only [ab_rm]; omega), by first | exact Nat.le_of_ble_eq_true rfl | (simp only [ab_rm]; omega)⟩ (Nat.le_of_ble_eq_true rfl) (fun u58 r58 h58 => ?_)
              obtain ⟨⟨z58, g58⟩, rfl⟩ := h58
              have q58 := z58
              have P58 := P6.trans q58 (by decide)
              exact ab_retv X hr0 hlk d_MO_join_61 ⟨⟨P58, Or.inl ⟨g58.trans (g6.trans (tn_y b9)), Or.inr (Or.inr b9)⟩⟩, rfl⟩
            · have v9 : b ≤ 9 := by omega
              have w9 : a ≤ 9 := by omega
              refine ab_aload_n X 0 d_MO_join_0 rfl rfl ?_
              refine ab_callV (as := []) X (fun h => by cases h) (z_MO_takeNumber u (a :: b :: t) sd h C (by show t.length + 1 + 1 ≤ 128; omega)) lk_MO_298 d_MO_join_1 rfl rfl (by first | assumption | decide | (show _ < 124; omega) | (show _ < 61; omega) | (show _ < 20; omega)) ⟨by first | exact Nat.le_of_ble_eq_true rfl | (simp only [ab_rm]; omega), by first | exact Nat.le_of_ble_eq_true rfl | (simp only [ab_rm]; omega)⟩ ⟨by first | exact Nat.le_of_ble_eq_true rfl | (simp only [ab_rm]; omega), by first | exact Nat.le_of_ble_eq_true rfl | (simp only [ab_rm]; omega)⟩ (Nat.le_of_ble_eq_true rfl) (fun u1 r1 h1 => ?_)
              obtain ⟨⟨z1, c1, g1⟩, rfl⟩ := h1
              have q1 := z1
              have P1 := P0.trans q1 (by decide)
              refine ab_istore_n2 X 0 1 d_MO_join_4 rfl (by decide) rfl rfl rfl rfl ?_
              refine ab_aload_n X 1 d_MO_join_5 rfl rfl ?_
              refine ab_callV (as := []) X (fun h => by cases h) (z_MO_takeNumber u1 (b :: t) sd P1.1 c1 (by show t.length + 1 ≤ 128; omega)) lk_MO_298 d_MO_join_6 rfl rfl (by first | assumption | decide | (show _ < 124; omega) | (show _ < 61; omega) | (show _ < 20; omega)) ⟨by first | exact Nat.le_of_ble_eq_true rfl | (simp only [ab_rm]; omega), by first | exact Nat.le_of_ble_eq_true rfl | (simp only [ab_rm]; omega)⟩ ⟨by first | exact Nat.le_of_ble_eq_true rfl | (simp only [ab_rm]; omega), by first | exact Nat.le_of_ble_eq_true rfl | (simp only [ab_rm]; omega)⟩ (Nat.le_of_ble_eq_true rfl) (fun u6 r6 h6 => ?_)
              obtain ⟨⟨z6, c6, g6⟩, rfl⟩ := h6
              have q6 := z6
              have P6 := P1.trans q6 (by decide)
              refine ab_istore_n3 X 0 1 2 d_MO_join_9 rfl (by decide) rfl rfl rfl rfl rfl rfl ?_
              refine ab_aload_n X 2 d_MO_join_10 rfl rfl ?_
              refine ab_iload_n X 3 d_MO_join_11 rfl rfl ?_
              refine ab_bipush (v := 8) X d_MO_join_12 (by decide) ?_
              refine ab_icmp_ne X 23 d_MO_join_14 rfl (fun _ => ?_) (fun hb => absurd hb ((by decide)))
              refine ab_iload_n X 3 d_MO_join_23 rfl rfl ?_
              refine ab_bipush (v := 6) X d_MO_join_24 (by decide) ?_
              refine ab_icmp_ne X 45 d_MO_join_26 rfl (fun _ => ?_) (fun hb => absurd hb ((by decide)))
              refine ab_iload_n X 0 d_MO_join_45 rfl rfl ?_
              refine ab_if_ne X 53 d_MO_join_46 rfl (fun _ => ?_) (fun hb => absurd hb ((nI_n0 (n := b) (by omega) b0)))
              refine ab_iconst (v := 1) X d_MO_join_53 (by decide) ?_
              refine ab_goto X 58 d_MO_join_54 rfl ?_
              refine ab_callV (as := [ab_I (nI (1))]) X (fun h => by cases h) (z_MO_putOn u6 (1) t sd P6.1 c6 (by omega) (by omega)) lk_MO_301 d_MO_join_58 rfl rfl (by first | assumption | decide | (show _ < 124; omega) | (show _ < 61; omega) | (show _ < 20; omega)) ⟨by first | exact Nat.le_of_ble_eq_true rfl | (simp only [ab_rm]; omega), by first | exact Nat.le_of_ble_eq_true rfl | (simp only [ab_rm]; omega)⟩ ⟨by first | exact Nat.le_of_ble_eq_true rfl | (simp only [ab_rm]; omega), by first | exact Nat.le_of_ble_eq_true rfl | (simp only [ab_rm]; omega)⟩ (Nat.le_of_ble_eq_true rfl) (fun u58 r58 h58 => ?_)
              obtain ⟨⟨z58, c58, g58⟩, rfl⟩ := h58
              have q58 := z58
              have P58 := P6.trans q58 (by decide)
              exact ab_retv X hr0 hlk d_MO_join_61 ⟨⟨P58, Or.inr ⟨a, b, t, rfl, w9, v9, g58.trans (g6.trans ((tn_n v9).trans (g1.trans ((tn_n w9).trans e6)))), by rw [(show jnd 7 a b = 1 by simp [jnd, a0, b0])]; exact c58⟩⟩, rfl⟩
      ·
        by_cases b0 : b = 0
        ·
          by_cases a9 : 9 < a
          ·
            refine ab_aload_n X 0 d_MO_join_0 rfl rfl ?_
            refine ab_callV (as := []) X (fun h => by cases h) (z_MO_takeNumber u (a :: b :: t) sd h C (by show t.length + 1 + 1 ≤ 128; omega)) lk_MO_298 d_MO_join_1 rfl rfl (by first | assumption | decide | (show _ < 124; omega) | (show _ < 61; omega) | (show _ < 20; omega)) ⟨by first | exact Nat.le_of_ble_eq_true rfl | (simp only [ab_rm]; omega), by first | exact Nat.le_of_ble_eq_true rfl | (simp only [ab_rm]; omega)⟩ ⟨by first | exact Nat.le_of_ble_eq_true rfl | (simp only [ab_rm]; omega), by first | exact Nat.le_of_ble_eq_true rfl | (simp only [ab_rm]; omega)⟩ (Nat.le_of_ble_eq_true rfl) (fun u1 r1 h1 => ?_)
            obtain ⟨⟨z1, c1, g1⟩, rfl⟩ := h1
            have q1 := z1
            have P1 := P0.trans q1 (by decide)
            refine ab_istore_n2 X 0 1 d_MO_join_4 rfl (by decide) rfl rfl rfl rfl ?_
            refine ab_aload_n X 1 d_MO_join_5 rfl rfl ?_
            refine ab_callV (as := []) X (fun h => by cases h) (z_MO_takeNumber u1 (b :: t) sd P1.1 c1 (by show t.length + 1 ≤ 128; omega)) lk_MO_298 d_MO_join_6 rfl rfl (by first | assumption | decide | (show _ < 124; omega) | (show _ < 61; omega) | (show _ < 20; omega)) ⟨by first | exact Nat.le_of_ble_eq_true rfl | (simp only [ab_rm]; omega), by first | exact Nat.le_of_ble_eq_true rfl | (simp only [ab_rm]; omega)⟩ ⟨by first | exact Nat.le_of_ble_eq_true rfl | (simp only [ab_rm]; omega), by first | exact Nat.le_of_ble_eq_true rfl | (simp only [ab_rm]; omega)⟩ (Nat.le_of_ble_eq_true rfl) (fun u6 r6 h6 => ?_)
            obtain ⟨⟨z6, c6, g6⟩, rfl⟩ := h6
            have q6 := z6
            have P6 := P1.trans q6 (by decide)
            refine ab_istore_n3 X 0 1 2 d_MO_join_9 rfl (by decide) rfl rfl rfl rfl rfl rfl ?_
            refine ab_aload_n X 2 d_MO_join_10 rfl rfl ?_
            refine ab_iload_n X 3 d_MO_join_11 rfl rfl ?_
            refine ab_bipush (v := 8) X d_MO_join_12 (by decide) ?_
            refine ab_icmp_ne X 23 d_MO_join_14 rfl (fun _ => ?_) (fun hb => absurd hb ((by decide)))
            refine ab_iload_n X 3 d_MO_join_23 rfl rfl ?_
            refine ab_bipush (v := 6) X d_MO_join_24 (by decide) ?_
            refine ab_icmp_ne X 45 d_MO_join_26 rfl (fun _ => ?_) (fun hb => absurd hb ((by decide)))
            refine ab_iload_n X 0 d_MO_join_45 rfl rfl ?_
            refine ab_if_ne X 53 d_MO_join_46 rfl (fun hb => absurd ((congrArg nI b0)) hb) (fun _ => ?_)
            refine ab_iload_n X 1 d_MO_join_49 rfl rfl ?_
            refine ab_if_eq X 57 d_MO_join_50 rfl (fun hb => absurd hb ((nI_n0 (n := a) (by omega) a0))) (fun _ => ?_)
            refine ab_iconst (v := 1) X d_MO_join_53 (by decide) ?_
            refine ab_goto X 58 d_MO_join_54 rfl ?_
            refine ab_callV (as := [ab_I (nI (1))]) X (fun h => by cases h) (z_MO_putX u6 (nI (1)) t sd P6.1 c6 (by first | decide | omega)) lk_MO_301 d_MO_join_58 rfl rfl (by first | assumption | decide | (show _ < 124; omega) | (show _ < 61; omega) | (show _ < 20; omega)) ⟨by first | exact Nat.le_of_ble_eq_true rfl | (simp only [ab_rm]; omega), by first | exact Nat.le_of_ble_eq_true rfl | (simp only [ab_rm]; omega)⟩ ⟨by first | exact Nat.le_of_ble_eq_true rfl | (simp only [ab_rm]; omega), by first | exact Nat.le_of_ble_eq_true rfl | (simp only [ab_rm]; omega)⟩ (Nat.le_of_ble_eq_true rfl) (fun u58 r58 h58 => ?_)
            obtain ⟨⟨z58, g58⟩, rfl⟩ := h58
            have q58 := z58
            have P58 := P6.trans q58 (by decide)
            exact ab_retv X hr0 hlk d_MO_join_61 ⟨⟨P58, Or.inl ⟨g58.trans (g6.trans (tn_1 (g1.trans (tn_y a9)))), Or.inr (Or.inl a9)⟩⟩, rfl⟩
          · by_cases b9 : 9 < b
            ·
              refine ab_aload_n X 0 d_MO_join_0 rfl rfl ?_
              refine ab_callV (as := []) X (fun h => by cases h) (z_MO_takeNumber u (a :: b :: t) sd h C (by show t.length + 1 + 1 ≤ 128; omega)) lk_MO_298 d_MO_join_1 rfl rfl (by first | assumption | decide | (show _ < 124; omega) | (show _ < 61; omega) | (show _ < 20; omega)) ⟨by first | exact Nat.le_of_ble_eq_true rfl | (simp only [ab_rm]; omega), by first | exact Nat.le_of_ble_eq_true rfl | (simp only [ab_rm]; omega)⟩ ⟨by first | exact Nat.le_of_ble_eq_true rfl | (simp only [ab_rm]; omega), by first | exact Nat.le_of_ble_eq_true rfl | (simp only [ab_rm]; omega)⟩ (Nat.le_of_ble_eq_true rfl) (fun u1 r1 h1 => ?_)
              obtain ⟨⟨z1, c1, g1⟩, rfl⟩ := h1
              have q1 := z1
              have P1 := P0.trans q1 (by decide)
              refine ab_istore_n2 X 0 1 d_MO_join_4 rfl (by decide) rfl rfl rfl rfl ?_
              refine ab_aload_n X 1 d_MO_join_5 rfl rfl ?_
              refine ab_callV (as := []) X (fun h => by cases h) (z_MO_takeNumber u1 (b :: t) sd P1.1 c1 (by show t.length + 1 ≤ 128; omega)) lk_MO_298 d_MO_join_6 rfl rfl (by first | assumption | decide | (show _ < 124; omega) | (show _ < 61; omega) | (show _ < 20; omega)) ⟨by first | exact Nat.le_of_ble_eq_true rfl | (simp only [ab_rm]; omega), by first | exact Nat.le_of_ble_eq_true rfl | (simp only [ab_rm]; omega)⟩ ⟨by first | exact Nat.le_of_ble_eq_true rfl | (simp only [ab_rm]; omega), by first | exact Nat.le_of_ble_eq_true rfl | (simp only [ab_rm]; omega)⟩ (Nat.le_of_ble_eq_true rfl) (fun u6 r6 h6 => ?_)
              obtain ⟨⟨z6, c6, g6⟩, rfl⟩ := h6
              have q6 := z6
              have P6 := P1.trans q6 (by decide)
              refine ab_istore_n3 X 0 1 2 d_MO_join_9 rfl (by decide) rfl rfl rfl rfl rfl rfl ?_
              refine ab_aload_n X 2 d_MO_join_10 rfl rfl ?_
              refine ab_iload_n X 3 d_MO_join_11 rfl rfl ?_
              refine ab_bipush (v := 8) X d_MO_join_12 (by decide) ?_
              refine ab_icmp_ne X 23 d_MO_join_14 rfl (fun _ => ?_) (fun hb => absurd hb ((by decide)))
              refine ab_iload_n X 3 d_MO_join_23 rfl rfl ?_
              refine ab_bipush (v := 6) X d_MO_join_24 (by decide) ?_
              refine ab_icmp_ne X 45 d_MO_join_26 rfl (fun _ => ?_) (fun hb => absurd hb ((by decide)))
              refine ab_iload_n X 0 d_MO_join_45 rfl rfl ?_
              refine ab_if_ne X 53 d_MO_join_46 rfl (fun hb => absurd ((congrArg nI b0)) hb) (fun _ => ?_)
              refine ab_iload_n X 1 d_MO_join_49 rfl rfl ?_
              refine ab_if_eq X 57 d_MO_join_50 rfl (fun hb => absurd hb ((nI_n0 (n := a) (by omega) a0))) (fun _ => ?_)
              refine ab_iconst (v := 1) X d_MO_join_53 (by decide) ?_
              refine ab_goto X 58 d_MO_join_54 rfl ?_
              refine ab_callV (as := [ab_I (nI (1))]) X (fun h => by cases h) (z_MO_putX u6 (nI (1)) t sd P6.1 c6 (by first | decide | omega)) lk_MO_301 d_MO_join_58 rfl rfl (by first | assumption | decide | (show _ < 124; omega) | (show _ < 61; omega) | (show _ < 20; omega)) ⟨by first | exact Nat.le_of_ble_eq_true rfl | (simp only [ab_rm]; omega), by first | exact Nat.le_of_ble_eq_true rfl | (simp only [ab_rm]; omega)⟩ ⟨by first | exact Nat.le_of_ble_eq_true rfl | (simp only [ab_rm]; omega), by first | exact Nat.le_of_ble_eq_true rfl | (simp only [ab_rm]; omega)⟩ (Nat.le_of_ble_eq_true rfl) (fun u58 r58 h58 => ?_)
              obtain ⟨⟨z58, g58⟩, rfl⟩ := h58
              have q58 := z58
              have P58 := P6.trans q58 (by decide)
              exact ab_retv X hr0 hlk d_MO_join_61 ⟨⟨P58, Or.inl ⟨g58.trans (g6.trans (tn_y b9)), Or.inr (Or.inr b9)⟩⟩, rfl⟩
            · have v9 : b ≤ 9 := by omega
              have w9 : a ≤ 9 := by omega
              refine ab_aload_n X 0 d_MO_join_0 rfl rfl ?_
              refine ab_callV (as := []) X (fun h => by cases h) (z_MO_takeNumber u (a :: b :: t) sd h C (by show t.length + 1 + 1 ≤ 128; omega)) lk_MO_298 d_MO_join_1 rfl rfl (by first | assumption | decide | (show _ < 124; omega) | (show _ < 61; omega) | (show _ < 20; omega)) ⟨by first | exact Nat.le_of_ble_eq_true rfl | (simp only [ab_rm]; omega), by first | exact Nat.le_of_ble_eq_true rfl | (simp only [ab_rm]; omega)⟩ ⟨by first | exact Nat.le_of_ble_eq_true rfl | (simp only [ab_rm]; omega), by first | exact Nat.le_of_ble_eq_true rfl | (simp only [ab_rm]; omega)⟩ (Nat.le_of_ble_eq_true rfl) (fun u1 r1 h1 => ?_)
              obtain ⟨⟨z1, c1, g1⟩, rfl⟩ := h1
              have q1 := z1
              have P1 := P0.trans q1 (by decide)
              refine ab_istore_n2 X 0 1 d_MO_join_4 rfl (by decide) rfl rfl rfl rfl ?_
              refine ab_aload_n X 1 d_MO_join_5 rfl rfl ?_
              refine ab_callV (as := []) X (fun h => by cases h) (z_MO_takeNumber u1 (b :: t) sd P1.1 c1 (by show t.length + 1 ≤ 128; omega)) lk_MO_298 d_MO_join_6 rfl rfl (by first | assumption | decide | (show _ < 124; omega) | (show _ < 61; omega) | (show _ < 20; omega)) ⟨by first | exact Nat.le_of_ble_eq_true rfl | (simp only [ab_rm]; omega), by first | exact Nat.le_of_ble_eq_true rfl | (simp only [ab_rm]; omega)⟩ ⟨by first | exact Nat.le_of_ble_eq_true rfl | (simp only [ab_rm]; omega), by first | exact Nat.le_of_ble_eq_true rfl | (simp only [ab_rm]; omega)⟩ (Nat.le_of_ble_eq_true rfl) (fun u6 r6 h6 => ?_)
              obtain ⟨⟨z6, c6, g6⟩, rfl⟩ := h6
              have q6 := z6
              have P6 := P1.trans q6 (by decide)
              refine ab_istore_n3 X 0 1 2 d_MO_join_9 rfl (by decide) rfl rfl rfl rfl rfl rfl ?_
              refine ab_aload_n X 2 d_MO_join_10 rfl rfl ?_
              refine ab_iload_n X 3 d_MO_join_11 rfl rfl ?_
              refine ab_bipush (v := 8) X d_MO_join_12 (by decide) ?_
              refine ab_icmp_ne X 23 d_MO_join_14 rfl (fun _ => ?_) (fun hb => absurd hb ((by decide)))
              refine ab_iload_n X 3 d_MO_join_23 rfl rfl ?_
              refine ab_bipush (v := 6) X d_MO_join_24 (by decide) ?_
              refine ab_icmp_ne X 45 d_MO_join_26 rfl (fun _ => ?_) (fun hb => absurd hb ((by decide)))
              refine ab_iload_n X 0 d_MO_join_45 rfl rfl ?_
              refine ab_if_ne X 53 d_MO_join_46 rfl (fun hb => absurd ((congrArg nI b0)) hb) (fun _ => ?_)
              refine ab_iload_n X 1 d_MO_join_49 rfl rfl ?_
              refine ab_if_eq X 57 d_MO_join_50 rfl (fun hb => absurd hb ((nI_n0 (n := a) (by omega) a0))) (fun _ => ?_)
              refine ab_iconst (v := 1) X d_MO_join_53 (by decide) ?_
              refine ab_goto X 58 d_MO_join_54 rfl ?_
              refine ab_callV (as := [ab_I (nI (1))]) X (fun h => by cases h) (z_MO_putOn u6 (1) t sd P6.1 c6 (by omega) (by omega)) lk_MO_301 d_MO_join_58 rfl rfl (by first | assumption | decide | (show _ < 124; omega) | (show _ < 61; omega) | (show _ < 20; omega)) ⟨by first | exact Nat.le_of_ble_eq_true rfl | (simp only [ab_rm]; omega), by first | exact Nat.le_of_ble_eq_true rfl | (simp only [ab_rm]; omega)⟩ ⟨by first | exact Nat.le_of_ble_eq_true rfl | (simp only [ab_rm]; omega), by first | exact Nat.le_of_ble_eq_true rfl | (simp only [ab_rm]; omega)⟩ (Nat.le_of_ble_eq_true rfl) (fun u58 r58 h58 => ?_)
              obtain ⟨⟨z58, c58, g58⟩, rfl⟩ := h58
              have q58 := z58
              have P58 := P6.trans q58 (by decide)
              exact ab_retv X hr0 hlk d_MO_join_61 ⟨⟨P58, Or.inr ⟨a, b, t, rfl, w9, v9, g58.trans (g6.trans ((tn_n v9).trans (g1.trans ((tn_n w9).trans e6)))), by rw [(show jnd 7 a b = 1 by simp [jnd, a0, b0])]; exact c58⟩⟩, rfl⟩
        ·
          by_cases a9 : 9 < a
          ·
            refine ab_aload_n X 0 d_MO_join_0 rfl rfl ?_
            refine ab_callV (as := []) X (fun h => by cases h) (z_MO_takeNumber u (a :: b :: t) sd h C (by show t.length + 1 + 1 ≤ 128; omega)) lk_MO_298 d_MO_join_1 rfl rfl (by first | assumption | decide | (show _ < 124; omega) | (show _ < 61; omega) | (show _ < 20; omega)) ⟨by first | exact Nat.le_of_ble_eq_true rfl | (simp only [ab_rm]; omega), by first | exact Nat.le_of_ble_eq_true rfl | (simp only [ab_rm]; omega)⟩ ⟨by first | exact Nat.le_of_ble_eq_true rfl | (simp only [ab_rm]; omega), by first | exact Nat.le_of_ble_eq_true rfl | (simp only [ab_rm]; omega)⟩ (Nat.le_of_ble_eq_true rfl) (fun u1 r1 h1 => ?_)
            obtain ⟨⟨z1, c1, g1⟩, rfl⟩ := h1
            have q1 := z1
            have P1 := P0.trans q1 (by decide)
            refine ab_istore_n2 X 0 1 d_MO_join_4 rfl (by decide) rfl rfl rfl rfl ?_
            refine ab_aload_n X 1 d_MO_join_5 rfl rfl ?_
            refine ab_callV (as := []) X (fun h => by cases h) (z_MO_takeNumber u1 (b :: t) sd P1.1 c1 (by show t.length + 1 ≤ 128; omega)) lk_MO_298 d_MO_join_6 rfl rfl (by first | assumption | decide | (show _ < 124; omega) | (show _ < 61; omega) | (show _ < 20; omega)) ⟨by first | exact Nat.le_of_ble_eq_true rfl | (simp only [ab_rm]; omega), by first | exact Nat.le_of_ble_eq_true rfl | (simp only [ab_rm]; omega)⟩ ⟨by first | exact Nat.le_of_ble_eq_true rfl | (simp only [ab_rm]; omega), by first | exact Nat.le_of_ble_eq_true rfl | (simp only [ab_rm]; omega)⟩ (Nat.le_of_ble_eq_true rfl) (fun u6 r6 h6 => ?_)
            obtain ⟨⟨z6, c6, g6⟩, rfl⟩ := h6
            have q6 := z6
            have P6 := P1.trans q6 (by decide)
            refine ab_istore_n3 X 0 1 2 d_MO_join_9 rfl (by decide) rfl rfl rfl rfl rfl rfl ?_
            refine ab_aload_n X 2 d_MO_join_10 rfl rfl ?_
            refine ab_iload_n X 3 d_MO_join_11 rfl rfl ?_
            refine ab_bipush (v := 8) X d_MO_join_12 (by decide) ?_
            refine ab_icmp_ne X 23 d_MO_join_14 rfl (fun _ => ?_) (fun hb => absurd hb ((by decide)))
            refine ab_iload_n X 3 d_MO_join_23 rfl rfl ?_
            refine ab_bipush (v := 6) X d_MO_join_24 (by decide) ?_
            refine ab_icmp_ne X 45 d_MO_join_26 rfl (fun _ => ?_) (fun hb => absurd hb ((by decide)))
            refine ab_iload_n X 0 d_MO_join_45 rfl rfl ?_
            refine ab_if_ne X 53 d_MO_join_46 rfl (fun _ => ?_) (fun hb => absurd hb ((nI_n0 (n := b) (by omega) b0)))
            refine ab_iconst (v := 1) X d_MO_join_53 (by decide) ?_
            refine ab_goto X 58 d_MO_join_54 rfl ?_
            refine ab_callV (as := [ab_I (nI (1))]) X (fun h => by cases h) (z_MO_putX u6 (nI (1)) t sd P6.1 c6 (by first | decide | omega)) lk_MO_301 d_MO_join_58 rfl rfl (by first | assumption | decide | (show _ < 124; omega) | (show _ < 61; omega) | (show _ < 20; omega)) ⟨by first | exact Nat.le_of_ble_eq_true rfl | (simp only [ab_rm]; omega), by first | exact Nat.le_of_ble_eq_true rfl | (simp only [ab_rm]; omega)⟩ ⟨by first | exact Nat.le_of_ble_eq_true rfl | (simp only [ab_rm]; omega), by first | exact Nat.le_of_ble_eq_true rfl | (simp only [ab_rm]; omega)⟩ (Nat.le_of_ble_eq_true rfl) (fun u58 r58 h58 => ?_)
            obtain ⟨⟨z58, g58⟩, rfl⟩ := h58
            have q58 := z58
            have P58 := P6.trans q58 (by decide)
            exact ab_retv X hr0 hlk d_MO_join_61 ⟨⟨P58, Or.inl ⟨g58.trans (g6.trans (tn_1 (g1.trans (tn_y a9)))), Or.inr (Or.inl a9)⟩⟩, rfl⟩
          · by_cases b9 : 9 < b
            ·
              refine ab_aload_n X 0 d_MO_join_0 rfl rfl ?_
              refine ab_callV (as := []) X (fun h => by cases h) (z_MO_takeNumber u (a :: b :: t) sd h C (by show t.length + 1 + 1 ≤ 128; omega)) lk_MO_298 d_MO_join_1 rfl rfl (by first | assumption | decide | (show _ < 124; omega) | (show _ < 61; omega) | (show _ < 20; omega)) ⟨by first | exact Nat.le_of_ble_eq_true rfl | (simp only [ab_rm]; omega), by first | exact Nat.le_of_ble_eq_true rfl | (simp only [ab_rm]; omega)⟩ ⟨by first | exact Nat.le_of_ble_eq_true rfl | (simp only [ab_rm]; omega), by first | exact Nat.le_of_ble_eq_true rfl | (simp only [ab_rm]; omega)⟩ (Nat.le_of_ble_eq_true rfl) (fun u1 r1 h1 => ?_)
              obtain ⟨⟨z1, c1, g1⟩, rfl⟩ := h1
              have q1 := z1
              have P1 := P0.trans q1 (by decide)
              refine ab_istore_n2 X 0 1 d_MO_join_4 rfl (by decide) rfl rfl rfl rfl ?_
              refine ab_aload_n X 1 d_MO_join_5 rfl rfl ?_
              refine ab_callV (as := []) X (fun h => by cases h) (z_MO_takeNumber u1 (b :: t) sd P1.1 c1 (by show t.length + 1 ≤ 128; omega)) lk_MO_298 d_MO_join_6 rfl rfl (by first | assumption | decide | (show _ < 124; omega) | (show _ < 61; omega) | (show _ < 20; omega)) ⟨by first | exact Nat.le_of_ble_eq_true rfl | (simp only [ab_rm]; omega), by first | exact Nat.le_of_ble_eq_true rfl | (simp only [ab_rm]; omega)⟩ ⟨by first | exact Nat.le_of_ble_eq_true rfl | (simp only [ab_rm]; omega), by first | exact Nat.le_of_ble_eq_true rfl | (simp only [ab_rm]; omega)⟩ (Nat.le_of_ble_eq_true rfl) (fun u6 r6 h6 => ?_)
              obtain ⟨⟨z6, c6, g6⟩, rfl⟩ := h6
              have q6 := z6
              have P6 := P1.trans q6 (by decide)
              refine ab_istore_n3 X 0 1 2 d_MO_join_9 rfl (by decide) rfl rfl rfl rfl rfl rfl ?_
              refine ab_aload_n X 2 d_MO_join_10 rfl rfl ?_
              refine ab_iload_n X 3 d_MO_join_11 rfl rfl ?_
              refine ab_bipush (v := 8) X d_MO_join_12 (by decide) ?_
              refine ab_icmp_ne X 23 d_MO_join_14 rfl (fun _ => ?_) (fun hb => absurd hb ((by decide)))
              refine ab_iload_n X 3 d_MO_join_23 rfl rfl ?_
              refine ab_bipush (v := 6) X d_MO_join_24 (by decide) ?_
              refine ab_icmp_ne X 45 d_MO_join_26 rfl (fun _ => ?_) (fun hb => absurd hb ((by decide)))
              refine ab_iload_n X 0 d_MO_join_45 rfl rfl ?_
              refine ab_if_ne X 53 d_MO_join_46 rfl (fun _ => ?_) (fun hb => absurd hb ((nI_n0 (n := b) (by omega) b0)))
              refine ab_iconst (v := 1) X d_MO_join_53 (by decide) ?_
              refine ab_goto X 58 d_MO_join_54 rfl ?_
              refine ab_callV (as := [ab_I (nI (1))]) X (fun h => by cases h) (z_MO_putX u6 (nI (1)) t sd P6.1 c6 (by first | decide | omega)) lk_MO_301 d_MO_join_58 rfl rfl (by first | assumption | decide | (show _ < 124; omega) | (show _ < 61; omega) | (show _ < 20; omega)) ⟨by first | exact Nat.le_of_ble_eq_true rfl | (simp only [ab_rm]; omega), by first | exact Nat.le_of_ble_eq_true rfl | (simp only [ab_rm]; omega)⟩ ⟨by first | exact Nat.le_of_ble_eq_true rfl | (simp only [ab_rm]; omega), by first | exact Nat.le_of_ble_eq_true rfl | (simp only [ab_rm]; omega)⟩ (Nat.le_of_ble_eq_true rfl) (fun u58 r58 h58 => ?_)
              obtain ⟨⟨z58, g58⟩, rfl⟩ := h58
              have q58 := z58
              have P58 := P6.trans q58 (by decide)
              exact ab_retv X hr0 hlk d_MO_join_61 ⟨⟨P58, Or.inl ⟨g58.trans (g6.trans (tn_y b9)), Or.inr (Or.inr b9)⟩⟩, rfl⟩
            · have v9 : b ≤ 9 := by omega
              have w9 : a ≤ 9 := by omega
              refine ab_aload_n X 0 d_MO_join_0 rfl rfl ?_
              refine ab_callV (as := []) X (fun h => by cases h) (z_MO_takeNumber u (a :: b :: t) sd h C (by show t.length + 1 + 1 ≤ 128; omega)) lk_MO_298 d_MO_join_1 rfl rfl (by first | assumption | decide | (show _ < 124; omega) | (show _ < 61; omega) | (show _ < 20; omega)) ⟨by first | exact Nat.le_of_ble_eq_true rfl | (simp only [ab_rm]; omega), by first | exact Nat.le_of_ble_eq_true rfl | (simp only [ab_rm]; omega)⟩ ⟨by first | exact Nat.le_of_ble_eq_true rfl | (simp only [ab_rm]; omega), by first | exact Nat.le_of_ble_eq_true rfl | (simp only [ab_rm]; omega)⟩ (Nat.le_of_ble_eq_true rfl) (fun u1 r1 h1 => ?_)
              obtain ⟨⟨z1, c1, g1⟩, rfl⟩ := h1
              have q1 := z1
              have P1 := P0.trans q1 (by decide)
              refine ab_istore_n2 X 0 1 d_MO_join_4 rfl (by decide) rfl rfl rfl rfl ?_
              refine ab_aload_n X 1 d_MO_join_5 rfl rfl ?_
              refine ab_callV (as := []) X (fun h => by cases h) (z_MO_takeNumber u1 (b :: t) sd P1.1 c1 (by show t.length + 1 ≤ 128; omega)) lk_MO_298 d_MO_join_6 rfl rfl (by first | assumption | decide | (show _ < 124; omega) | (show _ < 61; omega) | (show _ < 20; omega)) ⟨by first | exact Nat.le_of_ble_eq_true rfl | (simp only [ab_rm]; omega), by first | exact Nat.le_of_ble_eq_true rfl | (simp only [ab_rm]; omega)⟩ ⟨by first | exact Nat.le_of_ble_eq_true rfl | (simp only [ab_rm]; omega), by first | exact Nat.le_of_ble_eq_true rfl | (simp only [ab_rm]; omega)⟩ (Nat.le_of_ble_eq_true rfl) (fun u6 r6 h6 => ?_)
              obtain ⟨⟨z6, c6, g6⟩, rfl⟩ := h6
              have q6 := z6
              have P6 := P1.trans q6 (by decide)
              refine ab_istore_n3 X 0 1 2 d_MO_join_9 rfl (by decide) rfl rfl rfl rfl rfl rfl ?_
              refine ab_aload_n X 2 d_MO_join_10 rfl rfl ?_
              refine ab_iload_n X 3 d_MO_join_11 rfl rfl ?_
              refine ab_bipush (v := 8) X d_MO_join_12 (by decide) ?_
              refine ab_icmp_ne X 23 d_MO_join_14 rfl (fun _ => ?_) (fun hb => absurd hb ((by decide)))
              refine ab_iload_n X 3 d_MO_join_23 rfl rfl ?_
              refine ab_bipush (v := 6) X d_MO_join_24 (by decide) ?_
              refine ab_icmp_ne X 45 d_MO_join_26 rfl (fun _ => ?_) (fun hb => absurd hb ((by decide)))
              refine ab_iload_n X 0 d_MO_join_45 rfl rfl ?_
              refine ab_if_ne X 53 d_MO_join_46 rfl (fun _ => ?_) (fun hb => absurd hb ((nI_n0 (n := b) (by omega) b0)))
              refine ab_iconst (v := 1) X d_MO_join_53 (by decide) ?_
              refine ab_goto X 58 d_MO_join_54 rfl ?_
              refine ab_callV (as := [ab_I (nI (1))]) X (fun h => by cases h) (z_MO_putOn u6 (1) t sd P6.1 c6 (by omega) (by omega)) lk_MO_301 d_MO_join_58 rfl rfl (by first | assumption | decide | (show _ < 124; omega) | (show _ < 61; omega) | (show _ < 20; omega)) ⟨by first | exact Nat.le_of_ble_eq_true rfl | (simp only [ab_rm]; omega), by first | exact Nat.le_of_ble_eq_true rfl | (simp only [ab_rm]; omega)⟩ ⟨by first | exact Nat.le_of_ble_eq_true rfl | (simp only [ab_rm]; omega), by first | exact Nat.le_of_ble_eq_true rfl | (simp only [ab_rm]; omega)⟩ (Nat.le_of_ble_eq_true rfl) (fun u58 r58 h58 => ?_)
              obtain ⟨⟨z58, c58, g58⟩, rfl⟩ := h58
              have q58 := z58
              have P58 := P6.trans q58 (by decide)
              exact ab_retv X hr0 hlk d_MO_join_61 ⟨⟨P58, Or.inr ⟨a, b, t, rfl, w9, v9, g58.trans (g6.trans ((tn_n v9).trans (g1.trans ((tn_n w9).trans e6)))), by rw [(show jnd 7 a b = 1 by simp [jnd, a0, b0])]; exact c58⟩⟩, rfl⟩
set_option maxRecDepth 100000 in
set_option maxHeartbeats 1000000 in
theorem z_MO_join8 (u : ab_S) (st sd : List Nat) (h : mR u.2.1) (C : rM u st sd) (hL : st.length < 127) (e6 : u.1 17 0 40 = 0) : ab_C false l D ca y_MO_join b_MO_join 4 none 2 ab_nQ u [ab_O 17 0, ab_I (nI 8)] (fun u' w => (gP [35, 37, 40, 118, 119] u u' ∧ ((u'.1 17 0 40 = 1 ∧ (st.length < 2 ∨ 9 < st.headD 0 ∨ 9 < st.tail.headD 0)) ∨ ∃ a b t, st = a :: b :: t ∧ a ≤ 9 ∧ b ≤ 9 ∧ u'.1 17 0 40 = 0 ∧ rM u' (jnd 8 a b :: t) sd)) ∧ w = none) := by
  refine ab_C.of (by decide) (Nat.le_of_ble_eq_true rfl) ?_
  intro p e s m args below meth c ad X hZ hr0 hlk
  have P0 : gP [35, 37, 40, 118, 119] u u := gP.rf h
  cases st with
  | nil =>
    refine ab_aload_n X 0 d_MO_join_0 rfl rfl ?_
    refine ab_callV (as := []) X (fun h => by cases h) (z_MO_takeNumber u [] sd h C (by decide)) lk_MO_298 d_MO_join_1 rfl rfl (by first | assumption | decide | (show _ < 124; omega) | (show _ < 61; omega) | (show _ < 20; omega)) ⟨by first | exact Nat.le_of_ble_eq_true rfl | (simp only [ab_rm]; omega), by first | exact Nat.le_of_ble_eq_true rfl | (simp only [ab_rm]; omega)⟩ ⟨by first | exact Nat.le_of_ble_eq_true rfl | (simp only [ab_rm]; omega), by first | exact Nat.le_of_ble_eq_true rfl | (simp only [ab_rm]; omega)⟩ (Nat.le_of_ble_eq_true rfl) (fun u1 r1 h1 => ?_)
    obtain ⟨⟨z1, c1, g1⟩, rfl⟩ := h1
    have q1 := z1
    have P1 := P0.trans q1 (by decide)
    refine ab_istore_n2 X 0 1 d_MO_join_4 rfl (by decide) rfl rfl rfl rfl ?_
    refine ab_aload_n X 1 d_MO_join_5 rfl rfl ?_
    refine ab_callV (as := []) X (fun h => by cases h) (z_MO_takeNumber u1 [] sd P1.1 c1 (by decide)) lk_MO_298 d_MO_join_6 rfl rfl (by first | assumption | decide | (show _ < 124; omega) | (show _ < 61; omega) | (show _ < 20; omega)) ⟨by first | exact Nat.le_of_ble_eq_true rfl | (simp only [ab_rm]; omega), by first | exact Nat.le_of_ble_eq_true rfl | (simp only [ab_rm]; omega)⟩ ⟨by first | exact Nat.le_of_ble_eq_true rfl | (simp only [ab_rm]; omega), by first | exact Nat.le_of_ble_eq_true rfl | (simp only [ab_rm]; omega)⟩ (Nat.le_of_ble_eq_true rfl) (fun u6 r6 h6 => ?_)
    obtain ⟨⟨z6, c6, g6⟩, rfl⟩ := h6
    have q6 := z6
    have P6 := P1.trans q6 (by decide)
    refine ab_istore_n3 X 0 1 2 d_MO_join_9 rfl (by decide) rfl rfl rfl rfl rfl rfl ?_
    refine ab_aload_n X 2 d_MO_join_10 rfl rfl ?_
    refine ab_iload_n X 3 d_MO_join_11 rfl rfl ?_
    refine ab_bipush (v := 8) X d_MO_join_12 (by decide) ?_
    refine ab_icmp_ne X 23 d_MO_join_14 rfl (fun hb => absurd (rfl) hb) (fun _ => ?_)
    refine ab_iload_n X 0 d_MO_join_17 rfl rfl ?_
    refine ab_iload_n X 1 d_MO_join_18 rfl rfl ?_
    refine ab_iadd X d_MO_join_19 ?_
    refine ab_top (nI_add _ _) ?_
    refine ab_goto X 58 d_MO_join_20 rfl ?_
    refine ab_callV (as := [ab_I (nI (0 + 0))]) X (fun h => by cases h) (z_MO_putX u6 (nI (0 + 0)) [] sd P6.1 c6 (by first | decide | omega)) lk_MO_301 d_MO_join_58 rfl rfl (by first | assumption | decide | (show _ < 124; omega) | (show _ < 61; omega) | (show _ < 20; omega)) ⟨by first | exact Nat.le_of_ble_eq_true rfl | (simp only [ab_rm]; omega), by first | exact Nat.le_of_ble_eq_true rfl | (simp only [ab_rm]; omega)⟩ ⟨by first | exact Nat.le_of_ble_eq_true rfl | (simp only [ab_rm]; omega), by first | exact Nat.le_of_ble_eq_true rfl | (simp only [ab_rm]; omega)⟩ (Nat.le_of_ble_eq_true rfl) (fun u58 r58 h58 => ?_)
    obtain ⟨⟨z58, g58⟩, rfl⟩ := h58
    have q58 := z58
    have P58 := P6.trans q58 (by decide)
    exact ab_retv X hr0 hlk d_MO_join_61 ⟨⟨P58, Or.inl ⟨g58.trans (g6.trans tn_0), Or.inl (by decide)⟩⟩, rfl⟩
  | cons a t =>
    have ha : a < 2000 := C.1.2.1.2
    cases t with
    | nil =>
      by_cases a0 : a = 0
      ·
        refine ab_aload_n X 0 d_MO_join_0 rfl rfl ?_
        refine ab_callV (as := []) X (fun h => by cases h) (z_MO_takeNumber u [a] sd h C (show 1 ≤ 128 by decide)) lk_MO_298 d_MO_join_1 rfl rfl (by first | assumption | decide | (show _ < 124; omega) | (show _ < 61; omega) | (show _ < 20; omega)) ⟨by first | exact Nat.le_of_ble_eq_true rfl | (simp only [ab_rm]; omega), by first | exact Nat.le_of_ble_eq_true rfl | (simp only [ab_rm]; omega)⟩ ⟨by first | exact Nat.le_of_ble_eq_true rfl | (simp only [ab_rm]; omega), by first | exact Nat.le_of_ble_eq_true rfl | (simp only [ab_rm]; omega)⟩ (Nat.le_of_ble_eq_true rfl) (fun u1 r1 h1 => ?_)
        obtain ⟨⟨z1, c1, g1⟩, rfl⟩ := h1
        have q1 := z1
        have P1 := P0.trans q1 (by decide)
        refine ab_istore_n2 X 0 1 d_MO_join_4 rfl (by decide) rfl rfl rfl rfl ?_
        refine ab_aload_n X 1 d_MO_join_5 rfl rfl ?_
        refine ab_callV (as := []) X (fun h => by cases h) (z_MO_takeNumber u1 [] sd P1.1 c1 (by decide)) lk_MO_298 d_MO_join_6 rfl rfl (by first | assumption | decide | (show _ < 124; omega) | (show _ < 61; omega) | (show _ < 20; omega)) ⟨by first | exact Nat.le_of_ble_eq_true rfl | (simp only [ab_rm]; omega), by first | exact Nat.le_of_ble_eq_true rfl | (simp only [ab_rm]; omega)⟩ ⟨by first | exact Nat.le_of_ble_eq_true rfl | (simp only [ab_rm]; omega), by first | exact Nat.le_of_ble_eq_true rfl | (simp only [ab_rm]; omega)⟩ (Nat.le_of_ble_eq_true rfl) (fun u6 r6 h6 => ?_)
        obtain ⟨⟨z6, c6, g6⟩, rfl⟩ := h6
        have q6 := z6
        have P6 := P1.trans q6 (by decide)
        refine ab_istore_n3 X 0 1 2 d_MO_join_9 rfl (by decide) rfl rfl rfl rfl rfl rfl ?_
        refine ab_aload_n X 2 d_MO_join_10 rfl rfl ?_
        refine ab_iload_n X 3 d_MO_join_11 rfl rfl ?_
        refine ab_bipush (v := 8) X d_MO_join_12 (by decide) ?_
        refine ab_icmp_ne X 23 d_MO_join_14 rfl (fun hb => absurd (rfl) hb) (fun _ => ?_)
        refine ab_iload_n X 0 d_MO_join_17 rfl rfl ?_
        refine ab_iload_n X 1 d_MO_join_18 rfl rfl ?_
        refine ab_iadd X d_MO_join_19 ?_
        refine ab_top (nI_add _ _) ?_
        refine ab_goto X 58 d_MO_join_20 rfl ?_
        refine ab_callV (as := [ab_I (nI (0 + a))]) X (fun h => by cases h) (z_MO_putX u6 (nI (0 + a)) [] sd P6.1 c6 (by first | decide | omega)) lk_MO_301 d_MO_join_58 rfl rfl (by first | assumption | decide | (show _ < 124; omega) | (show _ < 61; omega) | (show _ < 20; omega)) ⟨by first | exact Nat.le_of_ble_eq_true rfl | (simp only [ab_rm]; omega), by first | exact Nat.le_of_ble_eq_true rfl | (simp only [ab_rm]; omega)⟩ ⟨by first | exact Nat.le_of_ble_eq_true rfl | (simp only [ab_rm]; omega), by first | exact Nat.le_of_ble_eq_true rfl | (simp only [ab_rm]; omega)⟩ (Nat.le_of_ble_eq_true rfl) (fun u58 r58 h58 => ?_)
        obtain ⟨⟨z58, g58⟩, rfl⟩ := h58
        have q58 := z58
        have P58 := P6.trans q58 (by decide)
        exact ab_retv X hr0 hlk d_MO_join_61 ⟨⟨P58, Or.inl ⟨g58.trans (g6.trans tn_0), Or.inl (show 1 < 2 by decide)⟩⟩, rfl⟩
      ·
        refine ab_aload_n X 0 d_MO_join_0 rfl rfl ?_
        refine ab_callV (as := []) X (fun h => by cases h) (z_MO_takeNumber u [a] sd h C (show 1 ≤ 128 by decide)) lk_MO_298 d_MO_join_1 rfl rfl (by first | assumption | decide | (show _ < 124; omega) | (show _ < 61; omega) | (show _ < 20; omega)) ⟨by first | exact Nat.le_of_ble_eq_true rfl | (simp only [ab_rm]; omega), by first | exact Nat.le_of_ble_eq_true rfl | (simp only [ab_rm]; omega)⟩ ⟨by first | exact Nat.le_of_ble_eq_true rfl | (simp only [ab_rm]; omega), by first | exact Nat.le_of_ble_eq_true rfl | (simp only [ab_rm]; omega)⟩ (Nat.le_of_ble_eq_true rfl) (fun u1 r1 h1 => ?_)
        obtain ⟨⟨z1, c1, g1⟩, rfl⟩ := h1
        have q1 := z1
        have P1 := P0.trans q1 (by decide)
        refine ab_istore_n2 X 0 1 d_MO_join_4 rfl (by decide) rfl rfl rfl rfl ?_
        refine ab_aload_n X 1 d_MO_join_5 rfl rfl ?_
        refine ab_callV (as := []) X (fun h => by cases h) (z_MO_takeNumber u1 [] sd P1.1 c1 (by decide)) lk_MO_298 d_MO_join_6 rfl rfl (by first | assumption | decide | (show _ < 124; omega) | (show _ < 61; omega) | (show _ < 20; omega)) ⟨by first | exact Nat.le_of_ble_eq_true rfl | (simp only [ab_rm]; omega), by first | exact Nat.le_of_ble_eq_true rfl | (simp only [ab_rm]; omega)⟩ ⟨by first | exact Nat.le_of_ble_eq_true rfl | (simp only [ab_rm]; omega), by first | exact Nat.le_of_ble_eq_true rfl | (simp only [ab_rm]; omega)⟩ (Nat.le_of_ble_eq_true rfl) (fun u6 r6 h6 => ?_)
        obtain ⟨⟨z6, c6, g6⟩, rfl⟩ := h6
        have q6 := z6
        have P6 := P1.trans q6 (by decide)
        refine ab_istore_n3 X 0 1 2 d_MO_join_9 rfl (by decide) rfl rfl rfl rfl rfl rfl ?_
        refine ab_aload_n X 2 d_MO_join_10 rfl rfl ?_
        refine ab_iload_n X 3 d_MO_join_11 rfl rfl ?_
        refine ab_bipush (v := 8) X d_MO_join_12 (by decide) ?_
        refine ab_icmp_ne X 23 d_MO_join_14 rfl (fun hb => absurd (rfl) hb) (fun _ => ?_)
        refine ab_iload_n X 0 d_MO_join_17 rfl rfl ?_
        refine ab_iload_n X 1 d_MO_join_18 rfl rfl ?_
        refine ab_iadd X d_MO_join_19 ?_
        refine ab_top (nI_add _ _) ?_
        refine ab_goto X 58 d_MO_join_20 rfl ?_
        refine ab_callV (as := [ab_I (nI (0 + a))]) X (fun h => by cases h) (z_MO_putX u6 (nI (0 + a)) [] sd P6.1 c6 (by first | decide | omega)) lk_MO_301 d_MO_join_58 rfl rfl (by first | assumption | decide | (show _ < 124; omega) | (show _ < 61; omega) | (show _ < 20; omega)) ⟨by first | exact Nat.le_of_ble_eq_true rfl | (simp only [ab_rm]; omega), by first | exact Nat.le_of_ble_eq_true rfl | (simp only [ab_rm]; omega)⟩ ⟨by first | exact Nat.le_of_ble_eq_true rfl | (simp only [ab_rm]; omega), by first | exact Nat.le_of_ble_eq_true rfl | (simp only [ab_rm]; omega)⟩ (Nat.le_of_ble_eq_true rfl) (fun u58 r58 h58 => ?_)
        obtain ⟨⟨z58, g58⟩, rfl⟩ := h58
        have q58 := z58
        have P58 := P6.trans q58 (by decide)
        exact ab_retv X hr0 hlk d_MO_join_61 ⟨⟨P58, Or.inl ⟨g58.trans (g6.trans tn_0), Or.inl (show 1 < 2 by decide)⟩⟩, rfl⟩
    | cons b t =>
      have hb : b < 2000 := C.1.2.2.1.2
      have hL : t.length + 1 + 1 < 127 := hL
      by_cases a0 : a = 0
      ·
        by_cases b0 : b = 0
        ·
          by_cases a9 : 9 < a
          ·
            refine ab_aload_n X 0 d_MO_join_0 rfl rfl ?_
            refine ab_callV (as := []) X (fun h => by cases h) (z_MO_takeNumber u (a :: b :: t) sd h C (by show t.length + 1 + 1 ≤ 128; omega)) lk_MO_298 d_MO_join_1 rfl rfl (by first | assumption | decide | (show _ < 124; omega) | (show _ < 61; omega) | (show _ < 20; omega)) ⟨by first | exact Nat.le_of_ble_eq_true rfl | (simp only [ab_rm]; omega), by first | exact Nat.le_of_ble_eq_true rfl | (simp only [ab_rm]; omega)⟩ ⟨by first | exact Nat.le_of_ble_eq_true rfl | (simp only [ab_rm]; omega), by first | exact Nat.le_of_ble_eq_true rfl | (simp only [ab_rm]; omega)⟩ (Nat.le_of_ble_eq_true rfl) (fun u1 r1 h1 => ?_)
            obtain ⟨⟨z1, c1, g1⟩, rfl⟩ := h1
            have q1 := z1
            have P1 := P0.trans q1 (by decide)
            refine ab_istore_n2 X 0 1 d_MO_join_4 rfl (by decide) rfl rfl rfl rfl ?_
            refine ab_aload_n X 1 d_MO_join_5 rfl rfl ?_
            refine ab_callV (as := []) X (fun h => by cases h) (z_MO_takeNumber u1 (b :: t) sd P1.1 c1 (by show t.length + 1 ≤ 128; omega)) lk_MO_298 d_MO_join_6 rfl rfl (by first | assumption | decide | (show _ < 124; omega) | (show _ < 61; omega) | (show _ < 20; omega)) ⟨by first | exact Nat.le_of_ble_eq_true rfl | (simp only [ab_rm]; omega), by first | exact Nat.le_of_ble_eq_true rfl | (simp only [ab_rm]; omega)⟩ ⟨by first | exact Nat.le_of_ble_eq_true rfl | (simp only [ab_rm]; omega), by first | exact Nat.le_of_ble_eq_true rfl | (simp only [ab_rm]; omega)⟩ (Nat.le_of_ble_eq_true rfl) (fun u6 r6 h6 => ?_)
            obtain ⟨⟨z6, c6, g6⟩, rfl⟩ := h6
            have q6 := z6
            have P6 := P1.trans q6 (by decide)
            refine ab_istore_n3 X 0 1 2 d_MO_join_9 rfl (by decide) rfl rfl rfl rfl rfl rfl ?_
            refine ab_aload_n X 2 d_MO_join_10 rfl rfl ?_
            refine ab_iload_n X 3 d_MO_join_11 rfl rfl ?_
            refine ab_bipush (v := 8) X d_MO_join_12 (by decide) ?_
            refine ab_icmp_ne X 23 d_MO_join_14 rfl (fun hb => absurd (rfl) hb) (fun _ => ?_)
            refine ab_iload_n X 0 d_MO_join_17 rfl rfl ?_
            refine ab_iload_n X 1 d_MO_join_18 rfl rfl ?_
            refine ab_iadd X d_MO_join_19 ?_
            refine ab_top (nI_add _ _) ?_
            refine ab_goto X 58 d_MO_join_20 rfl ?_
            refine ab_callV (as := [ab_I (nI (b + a))]) X (fun h => by cases h) (z_MO_putX u6 (nI (b + a)) t sd P6.1 c6 (by first | decide | omega)) lk_MO_301 d_MO_join_58 rfl rfl (by first | assumption | decide | (show _ < 124; omega) | (show _ < 61; omega) | (show _ < 20; omega)) ⟨by first | exact Nat.le_of_ble_eq_true rfl | (simp only [ab_rm]; omega), by first | exact Nat.le_of_ble_eq_true rfl | (simp only [ab_rm]; omega)⟩ ⟨by first | exact Nat.le_of_ble_eq_true rfl | (simp only [ab_rm]; omega), by first | exact Nat.le_of_ble_eq_true rfl | (simp only [ab_rm]; omega)⟩ (Nat.le_of_ble_eq_true rfl) (fun u58 r58 h58 => ?_)
            obtain ⟨⟨z58, g58⟩, rfl⟩ := h58
            have q58 := z58
            have P58 := P6.trans q58 (by decide)
            exact ab_retv X hr0 hlk d_MO_join_61 ⟨⟨P58, Or.inl ⟨g58.trans (g6.trans (tn_1 (g1.trans (tn_y a9)))), Or.inr (Or.inl a9)⟩⟩, rfl⟩
          · by_cases b9 : 9 < b
            ·
              refine ab_aload_n X 0 d_MO_join_0 rfl rfl ?_
              refine ab_callV (as := []) X (fun h => by cases h) (z_MO_takeNumber u (a :: b :: t) sd h C (by show t.length + 1 + 1 ≤ 128; omega)) lk_MO_298 d_MO_join_1 rfl rfl (by first | assumption | decide | (show _ < 124; omega) | (show _ < 61; omega) | (show _ < 20; omega)) ⟨by first | exact Nat.le_of_ble_eq_true rfl | (simp only [ab_rm]; omega), by first | exact Nat.le_of_ble_eq_true rfl | (simp only [ab_rm]; omega)⟩ ⟨by first | exact Nat.le_of_ble_eq_true rfl | (simp only [ab_rm]; omega), by first | exact Nat.le_of_ble_eq_true rfl | (simp only [ab_rm]; omega)⟩ (Nat.le_of_ble_eq_true rfl) (fun u1 r1 h1 => ?_)
              obtain ⟨⟨z1, c1, g1⟩, rfl⟩ := h1
              have q1 := z1
              have P1 := P0.trans q1 (by decide)
              refine ab_istore_n2 X 0 1 d_MO_join_4 rfl (by decide) rfl rfl rfl rfl ?_
              refine ab_aload_n X 1 d_MO_join_5 rfl rfl ?_
              refine ab_callV (as := []) X (fun h => by cases h) (z_MO_takeNumber u1 (b :: t) sd P1.1 c1 (by show t.length + 1 ≤ 128; omega)) lk_MO_298 d_MO_join_6 rfl rfl (by first | assumption | decide | (show _ < 124; omega) | (show _ < 61; omega) | (show _ < 20; omega)) ⟨by first | exact Nat.le_of_ble_eq_true rfl | (simp only [ab_rm]; omega), by first | exact Nat.le_of_ble_eq_true rfl | (simp only [ab_rm]; omega)⟩ ⟨by first | exact Nat.le_of_ble_eq_true rfl | (simp only [ab_rm]; omega), by first | exact Nat.le_of_ble_eq_true rfl | (simp only [ab_rm]; omega)⟩ (Nat.le_of_ble_eq_true rfl) (fun u6 r6 h6 => ?_)
              obtain ⟨⟨z6, c6, g6⟩, rfl⟩ := h6
              have q6 := z6
              have P6 := P1.trans q6 (by decide)
              refine ab_istore_n3 X 0 1 2 d_MO_join_9 rfl (by decide) rfl rfl rfl rfl rfl rfl ?_
              refine ab_aload_n X 2 d_MO_join_10 rfl rfl ?_
              refine ab_iload_n X 3 d_MO_join_11 rfl rfl ?_
              refine ab_bipush (v := 8) X d_MO_join_12 (by decide) ?_
              refine ab_icmp_ne X 23 d_MO_join_14 rfl (fun hb => absurd (rfl) hb) (fun _ => ?_)
              refine ab_iload_n X 0 d_MO_join_17 rfl rfl ?_
              refine ab_iload_n X 1 d_MO_join_18 rfl rfl ?_
              refine ab_iadd X d_MO_join_19 ?_
              refine ab_top (nI_add _ _) ?_
              refine ab_goto X 58 d_MO_join_20 rfl ?_
              refine ab_callV (as := [ab_I (nI (b + a))]) X (fun h => by cases h) (z_MO_putX u6 (nI (b + a)) t sd P6.1 c6 (by first | decide | omega)) lk_MO_301 d_MO_join_58 rfl rfl (by first | assumption | decide | (show _ < 124; omega) | (show _ < 61; omega) | (show _ < 20; omega)) ⟨by first | exact Nat.le_of_ble_eq_true rfl | (simp only [ab_rm]; omega), by first | exact Nat.le_of_ble_eq_true rfl | (simp only [ab_rm]; omega)⟩ ⟨by first | exact Nat.le_of_ble_eq_true rfl | (simp only [ab_rm]; omega), by first | exact Nat.le_of_ble_eq_true rfl | (simp only [ab_rm]; omega)⟩ (Nat.le_of_ble_eq_true rfl) (fun u58 r58 h58 => ?_)
              obtain ⟨⟨z58, g58⟩, rfl⟩ := h58
              have q58 := z58
              have P58 := P6.trans q58 (by decide)
              exact ab_retv X hr0 hlk d_MO_join_61 ⟨⟨P58, Or.inl ⟨g58.trans (g6.trans (tn_y b9)), Or.inr (Or.inr b9)⟩⟩, rfl⟩
            · have v9 : b ≤ 9 := by omega
              have w9 : a ≤ 9 := by omega
              refine ab_aload_n X 0 d_MO_join_0 rfl rfl ?_
              refine ab_callV (as := []) X (fun h => by cases h) (z_MO_takeNumber u (a :: b :: t) sd h C (by show t.length + 1 + 1 ≤ 128; omega)) lk_MO_298 d_MO_join_1 rfl rfl (by first | assumption | decide | (show _ < 124; omega) | (show _ < 61; omega) | (show _ < 20; omega)) ⟨by first | exact Nat.le_of_ble_eq_true rfl | (simp only [ab_rm]; omega), by first | exact Nat.le_of_ble_eq_true rfl | (simp only [ab_rm]; omega)⟩ ⟨by first | exact Nat.le_of_ble_eq_true rfl | (simp only [ab_rm]; omega), by first | exact Nat.le_of_ble_eq_true rfl | (simp only [ab_rm]; omega)⟩ (Nat.le_of_ble_eq_true rfl) (fun u1 r1 h1 => ?_)
              obtain ⟨⟨z1, c1, g1⟩, rfl⟩ := h1
              have q1 := z1
              have P1 := P0.trans q1 (by decide)
              refine ab_istore_n2 X 0 1 d_MO_join_4 rfl (by decide) rfl rfl rfl rfl ?_
              refine ab_aload_n X 1 d_MO_join_5 rfl rfl ?_
              refine ab_callV (as := []) X (fun h => by cases h) (z_MO_takeNumber u1 (b :: t) sd P1.1 c1 (by show t.length + 1 ≤ 128; omega)) lk_MO_298 d_MO_join_6 rfl rfl (by first | assumption | decide | (show _ < 124; omega) | (show _ < 61; omega) | (show _ < 20; omega)) ⟨by first | exact Nat.le_of_ble_eq_true rfl | (simp only [ab_rm]; omega), by first | exact Nat.le_of_ble_eq_true rfl | (simp only [ab_rm]; omega)⟩ ⟨by first | exact Nat.le_of_ble_eq_true rfl | (simp only [ab_rm]; omega), by first | exact Nat.le_of_ble_eq_true rfl | (simp only [ab_rm]; omega)⟩ (Nat.le_of_ble_eq_true rfl) (fun u6 r6 h6 => ?_)
              obtain ⟨⟨z6, c6, g6⟩, rfl⟩ := h6
              have q6 := z6
              have P6 := P1.trans q6 (by decide)
              refine ab_istore_n3 X 0 1 2 d_MO_join_9 rfl (by decide) rfl rfl rfl rfl rfl rfl ?_
              refine ab_aload_n X 2 d_MO_join_10 rfl rfl ?_
              refine ab_iload_n X 3 d_MO_join_11 rfl rfl ?_
              refine ab_bipush (v := 8) X d_MO_join_12 (by decide) ?_
              refine ab_icmp_ne X 23 d_MO_join_14 rfl (fun hb => absurd (rfl) hb) (fun _ => ?_)
              refine ab_iload_n X 0 d_MO_join_17 rfl rfl ?_
              refine ab_iload_n X 1 d_MO_join_18 rfl rfl ?_
              refine ab_iadd X d_MO_join_19 ?_
              refine ab_top (nI_add _ _) ?_
              refine ab_goto X 58 d_MO_join_20 rfl ?_
              refine ab_callV (as := [ab_I (nI (b + a))]) X (fun h => by cases h) (z_MO_putOn u6 (b + a) t sd P6.1 c6 (by omega) (by omega)) lk_MO_301 d_MO_join_58 rfl rfl (by first | assumption | decide | (show _ < 124; omega) | (show _ < 61; omega) | (show _ < 20; omega)) ⟨by first | exact Nat.le_of_ble_eq_true rfl | (simp only [ab_rm]; omega), by first | exact Nat.le_of_ble_eq_true rfl | (simp only [ab_rm]; omega)⟩ ⟨by first | exact Nat.le_of_ble_eq_true rfl | (simp only [ab_rm]; omega), by first | exact Nat.le_of_ble_eq_true rfl | (simp only [ab_rm]; omega)⟩ (Nat.le_of_ble_eq_true rfl) (fun u58 r58 h58 => ?_)
              obtain ⟨⟨z58, c58, g58⟩, rfl⟩ := h58
              have q58 := z58
              have P58 := P6.trans q58 (by decide)
              exact ab_retv X hr0 hlk d_MO_join_61 ⟨⟨P58, Or.inr ⟨a, b, t, rfl, w9, v9, g58.trans (g6.trans ((tn_n v9).trans (g1.trans ((tn_n w9).trans e6)))), by rw [(show jnd 8 a b = b + a by unfold jnd; rw [if_pos rfl, Nat.add_comm])]; exact c58⟩⟩, rfl⟩
        ·
          by_cases a9 : 9 < a
          ·
            refine ab_aload_n X 0 d_MO_join_0 rfl rfl ?_
            refine ab_callV (as := []) X (fun h => by cases h) (z_MO_takeNumber u (a :: b :: t) sd h C (by show t.length + 1 + 1 ≤ 128; omega)) lk_MO_298 d_MO_join_1 rfl rfl (by first | assumption | decide | (show _ < 124; omega) | (show _ < 61; omega) | (show _ < 20; omega)) ⟨by first | exact Nat.le_of_ble_eq_true rfl | (simp only [ab_rm]; omega), by first | exact Nat.le_of_ble_eq_true rfl | (simp only [ab_rm]; omega)⟩ ⟨by first | exact Nat.le_of_ble_eq_true rfl | (simp only [ab_rm]; omega), by first | exact Nat.le_of_ble_eq_true rfl | (simp only [ab_rm]; omega)⟩ (Nat.le_of_ble_eq_true rfl) (fun u1 r1 h1 => ?_)
            obtain ⟨⟨z1, c1, g1⟩, rfl⟩ := h1
            have q1 := z1
            have P1 := P0.trans q1 (by decide)
            refine ab_istore_n2 X 0 1 d_MO_join_4 rfl (by decide) rfl rfl rfl rfl ?_
            refine ab_aload_n X 1 d_MO_join_5 rfl rfl ?_
            refine ab_callV (as := []) X (fun h => by cases h) (z_MO_takeNumber u1 (b :: t) sd P1.1 c1 (by show t.length + 1 ≤ 128; omega)) lk_MO_298 d_MO_join_6 rfl rfl (by first | assumption | decide | (show _ < 124; omega) | (show _ < 61; omega) | (show _ < 20; omega)) ⟨by first | exact Nat.le_of_ble_eq_true rfl | (simp only [ab_rm]; omega), by first | exact Nat.le_of_ble_eq_true rfl | (simp only [ab_rm]; omega)⟩ ⟨by first | exact Nat.le_of_ble_eq_true rfl | (simp only [ab_rm]; omega), by first | exact Nat.le_of_ble_eq_true rfl | (simp only [ab_rm]; omega)⟩ (Nat.le_of_ble_eq_true rfl) (fun u6 r6 h6 => ?_)
            obtain ⟨⟨z6, c6, g6⟩, rfl⟩ := h6
            have q6 := z6
            have P6 := P1.trans q6 (by decide)
            refine ab_istore_n3 X 0 1 2 d_MO_join_9 rfl (by decide) rfl rfl rfl rfl rfl rfl ?_
            refine ab_aload_n X 2 d_MO_join_10 rfl rfl ?_
            refine ab_iload_n X 3 d_MO_join_11 rfl rfl ?_
            refine ab_bipush (v := 8) X d_MO_join_12 (by decide) ?_
            refine ab_icmp_ne X 23 d_MO_join_14 rfl (fun hb => absurd (rfl) hb) (fun _ => ?_)
            refine ab_iload_n X 0 d_MO_join_17 rfl rfl ?_
            refine ab_iload_n X 1 d_MO_join_18 rfl rfl ?_
            refine ab_iadd X d_MO_join_19 ?_
            refine ab_top (nI_add _ _) ?_
            refine ab_goto X 58 d_MO_join_20 rfl ?_
            refine ab_callV (as := [ab_I (nI (b + a))]) X (fun h => by cases h) (z_MO_putX u6 (nI (b + a)) t sd P6.1 c6 (by first | decide | omega)) lk_MO_301 d_MO_join_58 rfl rfl (by first | assumption | decide | (show _ < 124; omega) | (show _ < 61; omega) | (show _ < 20; omega)) ⟨by first | exact Nat.le_of_ble_eq_true rfl | (simp only [ab_rm]; omega), by first | exact Nat.le_of_ble_eq_true rfl | (simp only [ab_rm]; omega)⟩ ⟨by first | exact Nat.le_of_ble_eq_true rfl | (simp only [ab_rm]; omega), by first | exact Nat.le_of_ble_eq_true rfl | (simp only [ab_rm]; omega)⟩ (Nat.le_of_ble_eq_true rfl) (fun u58 r58 h58 => ?_)
            obtain ⟨⟨z58, g58⟩, rfl⟩ := h58
            have q58 := z58
            have P58 := P6.trans q58 (by decide)
            exact ab_retv X hr0 hlk d_MO_join_61 ⟨⟨P58, Or.inl ⟨g58.trans (g6.trans (tn_1 (g1.trans (tn_y a9)))), Or.inr (Or.inl a9)⟩⟩, rfl⟩
          · by_cases b9 : 9 < b
            ·
              refine ab_aload_n X 0 d_MO_join_0 rfl rfl ?_
              refine ab_callV (as := []) X (fun h => by cases h) (z_MO_takeNumber u (a :: b :: t) sd h C (by show t.length + 1 + 1 ≤ 128; omega)) lk_MO_298 d_MO_join_1 rfl rfl (by first | assumption | decide | (show _ < 124; omega) | (show _ < 61; omega) | (show _ < 20; omega)) ⟨by first | exact Nat.le_of_ble_eq_true rfl | (simp only [ab_rm]; omega), by first | exact Nat.le_of_ble_eq_true rfl | (simp only [ab_rm]; omega)⟩ ⟨by first | exact Nat.le_of_ble_eq_true rfl | (simp only [ab_rm]; omega), by first | exact Nat.le_of_ble_eq_true rfl | (simp only [ab_rm]; omega)⟩ (Nat.le_of_ble_eq_true rfl) (fun u1 r1 h1 => ?_)
              obtain ⟨⟨z1, c1, g1⟩, rfl⟩ := h1
              have q1 := z1
              have P1 := P0.trans q1 (by decide)
              refine ab_istore_n2 X 0 1 d_MO_join_4 rfl (by decide) rfl rfl rfl rfl ?_
              refine ab_aload_n X 1 d_MO_join_5 rfl rfl ?_
              refine ab_callV (as := []) X (fun h => by cases h) (z_MO_takeNumber u1 (b :: t) sd P1.1 c1 (by show t.length + 1 ≤ 128; omega)) lk_MO_298 d_MO_join_6 rfl rfl (by first | assumption | decide | (show _ < 124; omega) | (show _ < 61; omega) | (show _ < 20; omega)) ⟨by first | exact Nat.le_of_ble_eq_true rfl | (simp only [ab_rm]; omega), by first | exact Nat.le_of_ble_eq_true rfl | (simp only [ab_rm]; omega)⟩ ⟨by first | exact Nat.le_of_ble_eq_true rfl | (simp only [ab_rm]; omega), by first | exact Nat.le_of_ble_eq_true rfl | (simp only [ab_rm]; omega)⟩ (Nat.le_of_ble_eq_true rfl) (fun u6 r6 h6 => ?_)
              obtain ⟨⟨z6, c6, g6⟩, rfl⟩ := h6
              have q6 := z6
              have P6 := P1.trans q6 (by decide)
              refine ab_istore_n3 X 0 1 2 d_MO_join_9 rfl (by decide) rfl rfl rfl rfl rfl rfl ?_
              refine ab_aload_n X 2 d_MO_join_10 rfl rfl ?_
              refine ab_iload_n X 3 d_MO_join_11 rfl rfl ?_
              refine ab_bipush (v := 8) X d_MO_join_12 (by decide) ?_
              refine ab_icmp_ne X 23 d_MO_join_14 rfl (fun hb => absurd (rfl) hb) (fun _ => ?_)
              refine ab_iload_n X 0 d_MO_join_17 rfl rfl ?_
              refine ab_iload_n X 1 d_MO_join_18 rfl rfl ?_
              refine ab_iadd X d_MO_join_19 ?_
              refine ab_top (nI_add _ _) ?_
              refine ab_goto X 58 d_MO_join_20 rfl ?_
              refine ab_callV (as := [ab_I (nI (b + a))]) X (fun h => by cases h) (z_MO_putX u6 (nI (b + a)) t sd P6.1 c6 (by first | decide | omega)) lk_MO_301 d_MO_join_58 rfl rfl (by first | assumption | decide | (show _ < 124; omega) | (show _ < 61; omega) | (show _ < 20; omega)) ⟨by first | exact Nat.le_of_ble_eq_true rfl | (simp only [ab_rm]; omega), by first | exact Nat.le_of_ble_eq_true rfl | (simp only [ab_rm]; omega)⟩ ⟨by first | exact Nat.le_of_ble_eq_true rfl | (simp only [ab_rm]; omega), by first | exact Nat.le_of_ble_eq_true rfl | (simp only [ab_rm]; omega)⟩ (Nat.le_of_ble_eq_true rfl) (fun u58 r58 h58 => ?_)
              obtain ⟨⟨z58, g58⟩, rfl⟩ := h58
              have q58 := z58
              have P58 := P6.trans q58 (by decide)
              exact ab_retv X hr0 hlk d_MO_join_61 ⟨⟨P58, Or.inl ⟨g58.trans (g6.trans (tn_y b9)), Or.inr (Or.inr b9)⟩⟩, rfl⟩
            · have v9 : b ≤ 9 := by omega
              have w9 : a ≤ 9 := by omega
              refine ab_aload_n X 0 d_MO_join_0 rfl rfl ?_
              refine ab_callV (as := []) X (fun h => by cases h) (z_MO_takeNumber u (a :: b :: t) sd h C (by show t.length + 1 + 1 ≤ 128; omega)) lk_MO_298 d_MO_join_1 rfl rfl (by first | assumption | decide | (show _ < 124; omega) | (show _ < 61; omega) | (show _ < 20; omega)) ⟨by first | exact Nat.le_of_ble_eq_true rfl | (simp only [ab_rm]; omega), by first | exact Nat.le_of_ble_eq_true rfl | (simp only [ab_rm]; omega)⟩ ⟨by first | exact Nat.le_of_ble_eq_true rfl | (simp only [ab_rm]; omega), by first | exact Nat.le_of_ble_eq_true rfl | (simp only [ab_rm]; omega)⟩ (Nat.le_of_ble_eq_true rfl) (fun u1 r1 h1 => ?_)
              obtain ⟨⟨z1, c1, g1⟩, rfl⟩ := h1
              have q1 := z1
              have P1 := P0.trans q1 (by decide)
              refine ab_istore_n2 X 0 1 d_MO_join_4 rfl (by decide) rfl rfl rfl rfl ?_
              refine ab_aload_n X 1 d_MO_join_5 rfl rfl ?_
              refine ab_callV (as := []) X (fun h => by cases h) (z_MO_takeNumber u1 (b :: t) sd P1.1 c1 (by show t.length + 1 ≤ 128; omega)) lk_MO_298 d_MO_join_6 rfl rfl (by first | assumption | decide | (show _ < 124; omega) | (show _ < 61; omega) | (show _ < 20; omega)) ⟨by first | exact Nat.le_of_ble_eq_true rfl | (simp only [ab_rm]; omega), by first | exact Nat.le_of_ble_eq_true rfl | (simp only [ab_rm]; omega)⟩ ⟨by first | exact Nat.le_of_ble_eq_true rfl | (simp only [ab_rm]; omega), by first | exact Nat.le_of_ble_eq_true rfl | (simp only [ab_rm]; omega)⟩ (Nat.le_of_ble_eq_true rfl) (fun u6 r6 h6 => ?_)
              obtain ⟨⟨z6, c6, g6⟩, rfl⟩ := h6
              have q6 := z6
              have P6 := P1.trans q6 (by decide)
              refine ab_istore_n3 X 0 1 2 d_MO_join_9 rfl (by decide) rfl rfl rfl rfl rfl rfl ?_
              refine ab_aload_n X 2 d_MO_join_10 rfl rfl ?_
              refine ab_iload_n X 3 d_MO_join_11 rfl rfl ?_
              refine ab_bipush (v := 8) X d_MO_join_12 (by decide) ?_
              refine ab_icmp_ne X 23 d_MO_join_14 rfl (fun hb => absurd (rfl) hb) (fun _ => ?_)
              refine ab_iload_n X 0 d_MO_join_17 rfl rfl ?_
              refine ab_iload_n X 1 d_MO_join_18 rfl rfl ?_
              refine ab_iadd X d_MO_join_19 ?_
              refine ab_top (nI_add _ _) ?_
              refine ab_goto X 58 d_MO_join_20 rfl ?_
              refine ab_callV (as := [ab_I (nI (b + a))]) X (fun h => by cases h) (z_MO_putOn u6 (b + a) t sd P6.1 c6 (by omega) (by omega)) lk_MO_301 d_MO_join_58 rfl rfl (by first | assumption | decide | (show _ < 124; omega) | (show _ < 61; omega) | (show _ < 20; omega)) ⟨by first | exact Nat.le_of_ble_eq_true rfl | (simp only [ab_rm]; omega), by first | exact Nat.le_of_ble_eq_true rfl | (simp only [ab_rm]; omega)⟩ ⟨by first | exact Nat.le_of_ble_eq_true rfl | (simp only [ab_rm]; omega), by first | exact Nat.le_of_ble_eq_true rfl | (simp only [ab_rm]; omega)⟩ (Nat.le_of_ble_eq_true rfl) (fun u58 r58 h58 => ?_)
              obtain ⟨⟨z58, c58, g58⟩, rfl⟩ := h58
              have q58 := z58
              have P58 := P6.trans q58 (by decide)
              exact ab_retv X hr0 hlk d_MO_join_61 ⟨⟨P58, Or.inr ⟨a, b, t, rfl, w9, v9, g58.trans (g6.trans ((tn_n v9).trans (g1.trans ((tn_n w9).trans e6)))), by rw [(show jnd 8 a b = b + a by unfold jnd; rw [if_pos rfl, Nat.add_comm])]; exact c58⟩⟩, rfl⟩
      ·
        by_cases b0 : b = 0
        ·
          by_cases a9 : 9 < a
          ·
            refine ab_aload_n X 0 d_MO_join_0 rfl rfl ?_
            refine ab_callV (as := []) X (fun h => by cases h) (z_MO_takeNumber u (a :: b :: t) sd h C (by show t.length + 1 + 1 ≤ 128; omega)) lk_MO_298 d_MO_join_1 rfl rfl (by first | assumption | decide | (show _ < 124; omega) | (show _ < 61; omega) | (show _ < 20; omega)) ⟨by first | exact Nat.le_of_ble_eq_true rfl | (simp only [ab_rm]; omega), by first | exact Nat.le_of_ble_eq_true rfl | (simp only [ab_rm]; omega)⟩ ⟨by first | exact Nat.le_of_ble_eq_true rfl | (simp only [ab_rm]; omega), by first | exact Nat.le_of_ble_eq_true rfl | (simp only [ab_rm]; omega)⟩ (Nat.le_of_ble_eq_true rfl) (fun u1 r1 h1 => ?_)
            obtain ⟨⟨z1, c1, g1⟩, rfl⟩ := h1
            have q1 := z1
            have P1 := P0.trans q1 (by decide)
            refine ab_istore_n2 X 0 1 d_MO_join_4 rfl (by decide) rfl rfl rfl rfl ?_
            refine ab_aload_n X 1 d_MO_join_5 rfl rfl ?_
            refine ab_callV (as := []) X (fun h => by cases h) (z_MO_takeNumber u1 (b :: t) sd P1.1 c1 (by show t.length + 1 ≤ 128; omega)) lk_MO_298 d_MO_join_6 rfl rfl (by first | assumption | decide | (show _ < 124; omega) | (show _ < 61; omega) | (show _ < 20; omega)) ⟨by first | exact Nat.le_of_ble_eq_true rfl | (simp only [ab_rm]; omega), by first | exact Nat.le_of_ble_eq_true rfl | (simp only [ab_rm]; omega)⟩ ⟨by first | exact Nat.le_of_ble_eq_true rfl | (simp only [ab_rm]; omega), by first | exact Nat.le_of_ble_eq_true rfl | (simp only [ab_rm]; omega)⟩ (Nat.le_of_ble_eq_true rfl) (fun u6 r6 h6 => ?_)
            obtain ⟨⟨z6, c6, g6⟩, rfl⟩ := h6
            have q6 := z6
            have P6 := P1.trans q6 (by decide)
            refine ab_istore_n3 X 0 1 2 d_MO_join_9 rfl (by decide) rfl rfl rfl rfl rfl rfl ?_
            refine ab_aload_n X 2 d_MO_join_10 rfl rfl ?_
            refine ab_iload_n X 3 d_MO_join_11 rfl rfl ?_
            refine ab_bipush (v := 8) X d_MO_join_12 (by decide) ?_
            refine ab_icmp_ne X 23 d_MO_join_14 rfl (fun hb => absurd (rfl) hb) (fun _ => ?_)
            refine ab_iload_n X 0 d_MO_join_17 rfl rfl ?_
            refine ab_iload_n X 1 d_MO_join_18 rfl rfl ?_
            refine ab_iadd X d_MO_join_19 ?_
            refine ab_top (nI_add _ _) ?_
            refine ab_goto X 58 d_MO_join_20 rfl ?_
            refine ab_callV (as := [ab_I (nI (b + a))]) X (fun h => by cases h) (z_MO_putX u6 (nI (b + a)) t sd P6.1 c6 (by first | decide | omega)) lk_MO_301 d_MO_join_58 rfl rfl (by first | assumption | decide | (show _ < 124; omega) | (show _ < 61; omega) | (show _ < 20; omega)) ⟨by first | exact Nat.le_of_ble_eq_true rfl | (simp only [ab_rm]; omega), by first | exact Nat.le_of_ble_eq_true rfl | (simp only [ab_rm]; omega)⟩ ⟨by first | exact Nat.le_of_ble_eq_true rfl | (simp only [ab_rm]; omega), by first | exact Nat.le_of_ble_eq_true rfl | (simp only [ab_rm]; omega)⟩ (Nat.le_of_ble_eq_true rfl) (fun u58 r58 h58 => ?_)
            obtain ⟨⟨z58, g58⟩, rfl⟩ := h58
            have q58 := z58
            have P58 := P6.trans q58 (by decide)
            exact ab_retv X hr0 hlk d_MO_join_61 ⟨⟨P58, Or.inl ⟨g58.trans (g6.trans (tn_1 (g1.trans (tn_y a9)))), Or.inr (Or.inl a9)⟩⟩, rfl⟩
          · by_cases b9 : 9 < b
            ·
              refine ab_aload_n X 0 d_MO_join_0 rfl rfl ?_
              refine ab_callV (as := []) X (fun h => by cases h) (z_MO_takeNumber u (a :: b :: t) sd h C (by show t.length + 1 + 1 ≤ 128; omega)) lk_MO_298 d_MO_join_1 rfl rfl (by first | assumption | decide | (show _ < 124; omega) | (show _ < 61; omega) | (show _ < 20; omega)) ⟨by first | exact Nat.le_of_ble_eq_true rfl | (simp only [ab_rm]; omega), by first | exact Nat.le_of_ble_eq_true rfl | (simp only [ab_rm]; omega)⟩ ⟨by first | exact Nat.le_of_ble_eq_true rfl | (simp only [ab_rm]; omega), by first | exact Nat.le_of_ble_eq_true rfl | (simp only [ab_rm]; omega)⟩ (Nat.le_of_ble_eq_true rfl) (fun u1 r1 h1 => ?_)
              obtain ⟨⟨z1, c1, g1⟩, rfl⟩ := h1
              have q1 := z1
              have P1 := P0.trans q1 (by decide)
              refine ab_istore_n2 X 0 1 d_MO_join_4 rfl (by decide) rfl rfl rfl rfl ?_
              refine ab_aload_n X 1 d_MO_join_5 rfl rfl ?_
              refine ab_callV (as := []) X (fun h => by cases h) (z_MO_takeNumber u1 (b :: t) sd P1.1 c1 (by show t.length + 1 ≤ 128; omega)) lk_MO_298 d_MO_join_6 rfl rfl (by first | assumption | decide | (show _ < 124; omega) | (show _ < 61; omega) | (show _ < 20; omega)) ⟨by first | exact Nat.le_of_ble_eq_true rfl | (simp only [ab_rm]; omega), by first | exact Nat.le_of_ble_eq_true rfl | (simp only [ab_rm]; omega)⟩ ⟨by first | exact Nat.le_of_ble_eq_true rfl | (simp only [ab_rm]; omega), by first | exact Nat.le_of_ble_eq_true rfl | (simp only [ab_rm]; omega)⟩ (Nat.le_of_ble_eq_true rfl) (fun u6 r6 h6 => ?_)
              obtain ⟨⟨z6, c6, g6⟩, rfl⟩ := h6
              have q6 := z6
              have P6 := P1.trans q6 (by decide)
              refine ab_istore_n3 X 0 1 2 d_MO_join_9 rfl (by decide) rfl rfl rfl rfl rfl rfl ?_
              refine ab_aload_n X 2 d_MO_join_10 rfl rfl ?_
              refine ab_iload_n X 3 d_MO_join_11 rfl rfl ?_
              refine ab_bipush (v := 8) X d_MO_join_12 (by decide) ?_
              refine ab_icmp_ne X 23 d_MO_join_14 rfl (fun hb => absurd (rfl) hb) (fun _ => ?_)
              refine ab_iload_n X 0 d_MO_join_17 rfl rfl ?_
              refine ab_iload_n X 1 d_MO_join_18 rfl rfl ?_
              refine ab_iadd X d_MO_join_19 ?_
              refine ab_top (nI_add _ _) ?_
              refine ab_goto X 58 d_MO_join_20 rfl ?_
              refine ab_callV (as := [ab_I (nI (b + a))]) X (fun h => by cases h) (z_MO_putX u6 (nI (b + a)) t sd P6.1 c6 (by first | decide | omega)) lk_MO_301 d_MO_join_58 rfl rfl (by first | assumption | decide | (show _ < 124; omega) | (show _ < 61; omega) | (show _ < 20; omega)) ⟨by first | exact Nat.le_of_ble_eq_true rfl | (simp only [ab_rm]; omega), by first | exact Nat.le_of_ble_eq_true rfl | (simp only [ab_rm]; omega)⟩ ⟨by first | exact Nat.le_of_ble_eq_true rfl | (simp only [ab_rm]; omega), by first | exact Nat.le_of_ble_eq_true rfl | (simp only [ab_rm]; omega)⟩ (Nat.le_of_ble_eq_true rfl) (fun u58 r58 h58 => ?_)
              obtain ⟨⟨z58, g58⟩, rfl⟩ := h58
              have q58 := z58
              have P58 := P6.trans q58 (by decide)
              exact ab_retv X hr0 hlk d_MO_join_61 ⟨⟨P58, Or.inl ⟨g58.trans (g6.trans (tn_y b9)), Or.inr (Or.inr b9)⟩⟩, rfl⟩
            · have v9 : b ≤ 9 := by omega
              have w9 : a ≤ 9 := by omega
              refine ab_aload_n X 0 d_MO_join_0 rfl rfl ?_
              refine ab_callV (as := []) X (fun h => by cases h) (z_MO_takeNumber u (a :: b :: t) sd h C (by show t.length + 1 + 1 ≤ 128; omega)) lk_MO_298 d_MO_join_1 rfl rfl (by first | assumption | decide | (show _ < 124; omega) | (show _ < 61; omega) | (show _ < 20; omega)) ⟨by first | exact Nat.le_of_ble_eq_true rfl | (simp only [ab_rm]; omega), by first | exact Nat.le_of_ble_eq_true rfl | (simp only [ab_rm]; omega)⟩ ⟨by first | exact Nat.le_of_ble_eq_true rfl | (simp only [ab_rm]; omega), by first | exact Nat.le_of_ble_eq_true rfl | (simp only [ab_rm]; omega)⟩ (Nat.le_of_ble_eq_true rfl) (fun u1 r1 h1 => ?_)
              obtain ⟨⟨z1, c1, g1⟩, rfl⟩ := h1
              have q1 := z1
              have P1 := P0.trans q1 (by decide)
              refine ab_istore_n2 X 0 1 d_MO_join_4 rfl (by decide) rfl rfl rfl rfl ?_
              refine ab_aload_n X 1 d_MO_join_5 rfl rfl ?_
              refine ab_callV (as := []) X (fun h => by cases h) (z_MO_takeNumber u1 (b :: t) sd P1.1 c1 (by show t.length + 1 ≤ 128; omega)) lk_MO_298 d_MO_join_6 rfl rfl (by first | assumption | decide | (show _ < 124; omega) | (show _ < 61; omega) | (show _ < 20; omega)) ⟨by first | exact Nat.le_of_ble_eq_true rfl | (simp only [ab_rm]; omega), by first | exact Nat.le_of_ble_eq_true rfl | (simp only [ab_rm]; omega)⟩ ⟨by first | exact Nat.le_of_ble_eq_true rfl | (simp only [ab_rm]; omega), by first | exact Nat.le_of_ble_eq_true rfl | (simp only [ab_rm]; omega)⟩ (Nat.le_of_ble_eq_true rfl) (fun u6 r6 h6 => ?_)
              obtain ⟨⟨z6, c6, g6⟩, rfl⟩ := h6
              have q6 := z6
              have P6 := P1.trans q6 (by decide)
              refine ab_istore_n3 X 0 1 2 d_MO_join_9 rfl (by decide) rfl rfl rfl rfl rfl rfl ?_
              refine ab_aload_n X 2 d_MO_join_10 rfl rfl ?_
              refine ab_iload_n X 3 d_MO_join_11 rfl rfl ?_
              refine ab_bipush (v := 8) X d_MO_join_12 (by decide) ?_
              refine ab_icmp_ne X 23 d_MO_join_14 rfl (fun hb => absurd (rfl) hb) (fun _ => ?_)
              refine ab_iload_n X 0 d_MO_join_17 rfl rfl ?_
              refine ab_iload_n X 1 d_MO_join_18 rfl rfl ?_
              refine ab_iadd X d_MO_join_19 ?_
              refine ab_top (nI_add _ _) ?_
              refine ab_goto X 58 d_MO_join_20 rfl ?_
              refine ab_callV (as := [ab_I (nI (b + a))]) X (fun h => by cases h) (z_MO_putOn u6 (b + a) t sd P6.1 c6 (by omega) (by omega)) lk_MO_301 d_MO_join_58 rfl rfl (by first | assumption | decide | (show _ < 124; omega) | (show _ < 61; omega) | (show _ < 20; omega)) ⟨by first | exact Nat.le_of_ble_eq_true rfl | (simp only [ab_rm]; omega), by first | exact Nat.le_of_ble_eq_true rfl | (simp only [ab_rm]; omega)⟩ ⟨by first | exact Nat.le_of_ble_eq_true rfl | (simp only [ab_rm]; omega), by first | exact Nat.le_of_ble_eq_true rfl | (simp only [ab_rm]; omega)⟩ (Nat.le_of_ble_eq_true rfl) (fun u58 r58 h58 => ?_)
              obtain ⟨⟨z58, c58, g58⟩, rfl⟩ := h58
              have q58 := z58
              have P58 := P6.trans q58 (by decide)
              exact ab_retv X hr0 hlk d_MO_join_61 ⟨⟨P58, Or.inr ⟨a, b, t, rfl, w9, v9, g58.trans (g6.trans ((tn_n v9).trans (g1.trans ((tn_n w9).trans e6)))), by rw [(show jnd 8 a b = b + a by unfold jnd; rw [if_pos rfl, Nat.add_comm])]; exact c58⟩⟩, rfl⟩
        ·
          by_cases a9 : 9 < a
          ·
            refine ab_aload_n X 0 d_MO_join_0 rfl rfl ?_
            refine ab_callV (as := []) X (fun h => by cases h) (z_MO_takeNumber u (a :: b :: t) sd h C (by show t.length + 1 + 1 ≤ 128; omega)) lk_MO_298 d_MO_join_1 rfl rfl (by first | assumption | decide | (show _ < 124; omega) | (show _ < 61; omega) | (show _ < 20; omega)) ⟨by first | exact Nat.le_of_ble_eq_true rfl | (simp only [ab_rm]; omega), by first | exact Nat.le_of_ble_eq_true rfl | (simp only [ab_rm]; omega)⟩ ⟨by first | exact Nat.le_of_ble_eq_true rfl | (simp only [ab_rm]; omega), by first | exact Nat.le_of_ble_eq_true rfl | (simp only [ab_rm]; omega)⟩ (Nat.le_of_ble_eq_true rfl) (fun u1 r1 h1 => ?_)
            obtain ⟨⟨z1, c1, g1⟩, rfl⟩ := h1
            have q1 := z1
            have P1 := P0.trans q1 (by decide)
            refine ab_istore_n2 X 0 1 d_MO_join_4 rfl (by decide) rfl rfl rfl rfl ?_
            refine ab_aload_n X 1 d_MO_join_5 rfl rfl ?_
            refine ab_callV (as := []) X (fun h => by cases h) (z_MO_takeNumber u1 (b :: t) sd P1.1 c1 (by show t.length + 1 ≤ 128; omega)) lk_MO_298 d_MO_join_6 rfl rfl (by first | assumption | decide | (show _ < 124; omega) | (show _ < 61; omega) | (show _ < 20; omega)) ⟨by first | exact Nat.le_of_ble_eq_true rfl | (simp only [ab_rm]; omega), by first | exact Nat.le_of_ble_eq_true rfl | (simp only [ab_rm]; omega)⟩ ⟨by first | exact Nat.le_of_ble_eq_true rfl | (simp only [ab_rm]; omega), by first | exact Nat.le_of_ble_eq_true rfl | (simp only [ab_rm]; omega)⟩ (Nat.le_of_ble_eq_true rfl) (fun u6 r6 h6 => ?_)
            obtain ⟨⟨z6, c6, g6⟩, rfl⟩ := h6
            have q6 := z6
            have P6 := P1.trans q6 (by decide)
            refine ab_istore_n3 X 0 1 2 d_MO_join_9 rfl (by decide) rfl rfl rfl rfl rfl rfl ?_
            refine ab_aload_n X 2 d_MO_join_10 rfl rfl ?_
            refine ab_iload_n X 3 d_MO_join_11 rfl rfl ?_
            refine ab_bipush (v := 8) X d_MO_join_12 (by decide) ?_
            refine ab_icmp_ne X 23 d_MO_join_14 rfl (fun hb => absurd (rfl) hb) (fun _ => ?_)
            refine ab_iload_n X 0 d_MO_join_17 rfl rfl ?_
            refine ab_iload_n X 1 d_MO_join_18 rfl rfl ?_
            refine ab_iadd X d_MO_join_19 ?_
            refine ab_top (nI_add _ _) ?_
            refine ab_goto X 58 d_MO_join_20 rfl ?_
            refine ab_callV (as := [ab_I (nI (b + a))]) X (fun h => by cases h) (z_MO_putX u6 (nI (b + a)) t sd P6.1 c6 (by first | decide | omega)) lk_MO_301 d_MO_join_58 rfl rfl (by first | assumption | decide | (show _ < 124; omega) | (show _ < 61; omega) | (show _ < 20; omega)) ⟨by first | exact Nat.le_of_ble_eq_true rfl | (simp only [ab_rm]; omega), by first | exact Nat.le_of_ble_eq_true rfl | (simp only [ab_rm]; omega)⟩ ⟨by first | exact Nat.le_of_ble_eq_true rfl | (simp only [ab_rm]; omega), by first | exact Nat.le_of_ble_eq_true rfl | (simp only [ab_rm]; omega)⟩ (Nat.le_of_ble_eq_true rfl) (fun u58 r58 h58 => ?_)
            obtain ⟨⟨z58, g58⟩, rfl⟩ := h58
            have q58 := z58
            have P58 := P6.trans q58 (by decide)
            exact ab_retv X hr0 hlk d_MO_join_61 ⟨⟨P58, Or.inl ⟨g58.trans (g6.trans (tn_1 (g1.trans (tn_y a9)))), Or.inr (Or.inl a9)⟩⟩, rfl⟩
          · by_cases b9 : 9 < b
            ·
              refine ab_aload_n X 0 d_MO_join_0 rfl rfl ?_
              refine ab_callV (as := []) X (fun h => by cases h) (z_MO_takeNumber u (a :: b :: t) sd h C (by show t.length + 1 + 1 ≤ 128; omega)) lk_MO_298 d_MO_join_1 rfl rfl (by first | assumption | decide | (show _ < 124; omega) | (show _ < 61; omega) | (show _ < 20; omega)) ⟨by first | exact Nat.le_of_ble_eq_true rfl | (simp only [ab_rm]; omega), by first | exact Nat.le_of_ble_eq_true rfl | (simp only [ab_rm]; omega)⟩ ⟨by first | exact Nat.le_of_ble_eq_true rfl | (simp only [ab_rm]; omega), by first | exact Nat.le_of_ble_eq_true rfl | (simp only [ab_rm]; omega)⟩ (Nat.le_of_ble_eq_true rfl) (fun u1 r1 h1 => ?_)
              obtain ⟨⟨z1, c1, g1⟩, rfl⟩ := h1
              have q1 := z1
              have P1 := P0.trans q1 (by decide)
              refine ab_istore_n2 X 0 1 d_MO_join_4 rfl (by decide) rfl rfl rfl rfl ?_
              refine ab_aload_n X 1 d_MO_join_5 rfl rfl ?_
              refine ab_callV (as := []) X (fun h => by cases h) (z_MO_takeNumber u1 (b :: t) sd P1.1 c1 (by show t.length + 1 ≤ 128; omega)) lk_MO_298 d_MO_join_6 rfl rfl (by first | assumption | decide | (show _ < 124; omega) | (show _ < 61; omega) | (show _ < 20; omega)) ⟨by first | exact Nat.le_of_ble_eq_true rfl | (simp only [ab_rm]; omega), by first | exact Nat.le_of_ble_eq_true rfl | (simp only [ab_rm]; omega)⟩ ⟨by first | exact Nat.le_of_ble_eq_true rfl | (simp only [ab_rm]; omega), by first | exact Nat.le_of_ble_eq_true rfl | (simp only [ab_rm]; omega)⟩ (Nat.le_of_ble_eq_true rfl) (fun u6 r6 h6 => ?_)
              obtain ⟨⟨z6, c6, g6⟩, rfl⟩ := h6
              have q6 := z6
              have P6 := P1.trans q6 (by decide)
              refine ab_istore_n3 X 0 1 2 d_MO_join_9 rfl (by decide) rfl rfl rfl rfl rfl rfl ?_
              refine ab_aload_n X 2 d_MO_join_10 rfl rfl ?_
              refine ab_iload_n X 3 d_MO_join_11 rfl rfl ?_
              refine ab_bipush (v := 8) X d_MO_join_12 (by decide) ?_
              refine ab_icmp_ne X 23 d_MO_join_14 rfl (fun hb => absurd (rfl) hb) (fun _ => ?_)
              refine ab_iload_n X 0 d_MO_join_17 rfl rfl ?_
              refine ab_iload_n X 1 d_MO_join_18 rfl rfl ?_
              refine ab_iadd X d_MO_join_19 ?_
              refine ab_top (nI_add _ _) ?_
              refine ab_goto X 58 d_MO_join_20 rfl ?_
              refine ab_callV (as := [ab_I (nI (b + a))]) X (fun h => by cases h) (z_MO_putX u6 (nI (b + a)) t sd P6.1 c6 (by first | decide | omega)) lk_MO_301 d_MO_join_58 rfl rfl (by first | assumption | decide | (show _ < 124; omega) | (show _ < 61; omega) | (show _ < 20; omega)) ⟨by first | exact Nat.le_of_ble_eq_true rfl | (simp only [ab_rm]; omega), by first | exact Nat.le_of_ble_eq_true rfl | (simp only [ab_rm]; omega)⟩ ⟨by first | exact Nat.le_of_ble_eq_true rfl | (simp only [ab_rm]; omega), by first | exact Nat.le_of_ble_eq_true rfl | (simp only [ab_rm]; omega)⟩ (Nat.le_of_ble_eq_true rfl) (fun u58 r58 h58 => ?_)
              obtain ⟨⟨z58, g58⟩, rfl⟩ := h58
              have q58 := z58
              have P58 := P6.trans q58 (by decide)
              exact ab_retv X hr0 hlk d_MO_join_61 ⟨⟨P58, Or.inl ⟨g58.trans (g6.trans (tn_y b9)), Or.inr (Or.inr b9)⟩⟩, rfl⟩
            · have v9 : b ≤ 9 := by omega
              have w9 : a ≤ 9 := by omega
              refine ab_aload_n X 0 d_MO_join_0 rfl rfl ?_
              refine ab_callV (as := []) X (fun h => by cases h) (z_MO_takeNumber u (a :: b :: t) sd h C (by show t.length + 1 + 1 ≤ 128; omega)) lk_MO_298 d_MO_join_1 rfl rfl (by first | assumption | decide | (show _ < 124; omega) | (show _ < 61; omega) | (show _ < 20; omega)) ⟨by first | exact Nat.le_of_ble_eq_true rfl | (simp only [ab_rm]; omega), by first | exact Nat.le_of_ble_eq_true rfl | (simp only [ab_rm]; omega)⟩ ⟨by first | exact Nat.le_of_ble_eq_true rfl | (simp only [ab_rm]; omega), by first | exact Nat.le_of_ble_eq_true rfl | (simp only [ab_rm]; omega)⟩ (Nat.le_of_ble_eq_true rfl) (fun u1 r1 h1 => ?_)
              obtain ⟨⟨z1, c1, g1⟩, rfl⟩ := h1
              have q1 := z1
              have P1 := P0.trans q1 (by decide)
              refine ab_istore_n2 X 0 1 d_MO_join_4 rfl (by decide) rfl rfl rfl rfl ?_
              refine ab_aload_n X 1 d_MO_join_5 rfl rfl ?_
              refine ab_callV (as := []) X (fun h => by cases h) (z_MO_takeNumber u1 (b :: t) sd P1.1 c1 (by show t.length + 1 ≤ 128; omega)) lk_MO_298 d_MO_join_6 rfl rfl (by first | assumption | decide | (show _ < 124; omega) | (show _ < 61; omega) | (show _ < 20; omega)) ⟨by first | exact Nat.le_of_ble_eq_true rfl | (simp only [ab_rm]; omega), by first | exact Nat.le_of_ble_eq_true rfl | (simp only [ab_rm]; omega)⟩ ⟨by first | exact Nat.le_of_ble_eq_true rfl | (simp only [ab_rm]; omega), by first | exact Nat.le_of_ble_eq_true rfl | (simp only [ab_rm]; omega)⟩ (Nat.le_of_ble_eq_true rfl) (fun u6 r6 h6 => ?_)
              obtain ⟨⟨z6, c6, g6⟩, rfl⟩ := h6
              have q6 := z6
              have P6 := P1.trans q6 (by decide)
              refine ab_istore_n3 X 0 1 2 d_MO_join_9 rfl (by decide) rfl rfl rfl rfl rfl rfl ?_
              refine ab_aload_n X 2 d_MO_join_10 rfl rfl ?_
              refine ab_iload_n X 3 d_MO_join_11 rfl rfl ?_
              refine ab_bipush (v := 8) X d_MO_join_12 (by decide) ?_
              refine ab_icmp_ne X 23 d_MO_join_14 rfl (fun hb => absurd (rfl) hb) (fun _ => ?_)
              refine ab_iload_n X 0 d_MO_join_17 rfl rfl ?_
              refine ab_iload_n X 1 d_MO_join_18 rfl rfl ?_
              refine ab_iadd X d_MO_join_19 ?_
              refine ab_top (nI_add _ _) ?_
              refine ab_goto X 58 d_MO_join_20 rfl ?_
              refine ab_callV (as := [ab_I (nI (b + a))]) X (fun h => by cases h) (z_MO_putOn u6 (b + a) t sd P6.1 c6 (by omega) (by omega)) lk_MO_301 d_MO_join_58 rfl rfl (by first | assumption | decide | (show _ < 124; omega) | (show _ < 61; omega) | (show _ < 20; omega)) ⟨by first | exact Nat.le_of_ble_eq_true rfl | (simp only [ab_rm]; omega), by first | exact Nat.le_of_ble_eq_true rfl | (simp only [ab_rm]; omega)⟩ ⟨by first | exact Nat.le_of_ble_eq_true rfl | (simp only [ab_rm]; omega), by first | exact Nat.le_of_ble_eq_true rfl | (simp only [ab_rm]; omega)⟩ (Nat.le_of_ble_eq_true rfl) (fun u58 r58 h58 => ?_)
              obtain ⟨⟨z58, c58, g58⟩, rfl⟩ := h58
              have q58 := z58
              have P58 := P6.trans q58 (by decide)
              exact ab_retv X hr0 hlk d_MO_join_61 ⟨⟨P58, Or.inr ⟨a, b, t, rfl, w9, v9, g58.trans (g6.trans ((tn_n v9).trans (g1.trans ((tn_n w9).trans e6)))), by rw [(show jnd 8 a b = b + a by unfold jnd; rw [if_pos rfl, Nat.add_comm])]; exact c58⟩⟩, rfl⟩
set_option maxRecDepth 100000 in
set_option maxHeartbeats 1000000 in
theorem z_MO_st1 (u : ab_S) (st sd : List Nat) (h : mR u.2.1) (C : rM u st sd) (hh aa : Int32) (x i : Nat) (r : List Nat) (hL : st.length < 127) (hS : sd.length < 63) (ex : u.1 18 9 i = nI x) (bx : x < 20000) (e6 : u.1 17 0 40 = 0) (Wr : wR u i r) (G : gd x r st) (hx : x / 1000 = 1) : ab_C false l D ca y_MO_step b_MO_step 7 (some FieldType.int) 3 ab_nQ u [ab_O 17 0, ab_I (nI i), ab_I hh, ab_I aa] (fun u' w => sR hh aa x r st sd i u u' w) := by
  refine ab_C.of (by decide) (Nat.le_of_ble_eq_true rfl) ?_
  intro p e s m args below meth c ad X hZ hr0 hlk
  have P0 : gP [35, 37, 40, 118, 119] u u := gP.rf h
  have hi := Wr.1
  cases st with
  | nil =>
    refine ab_aload_n X 0 d_MO_step_0 rfl rfl ?_
    refine ab_gR X fl_MO_57 d_MO_step_1 (by first | assumption | decide | (show _ < 124; omega) | (show _ < 61; omega) | (show _ < 20; omega)) (P0.1.mo15) ?_
    refine ab_iload_n X 1 d_MO_step_4 rfl rfl ?_
    refine ab_iald X (i) ⟨rfl, rfl⟩ d_MO_step_5 (by first | assumption | decide | (show _ < 124; omega) | (show _ < 61; omega) | (show _ < 20; omega)) (rfl) (show i < 7200 by omega) (ab_ln_lt _ _) ?_
    refine ab_top ex ?_
    refine ab_sipush (v := 1000) X d_MO_step_6 (by decide) ?_
    refine ab_idiv X d_MO_step_9 (by decide) ?_
    refine ab_top ((div_nI bx).trans (congrArg nI hx)) ?_
    refine ab_istore4 X 0 1 2 3 d_MO_step_10 (by decide) rfl rfl rfl rfl rfl rfl rfl rfl ?_
    refine ab_aload_n X 1 d_MO_step_12 rfl rfl ?_
    refine ab_gR X fl_MO_57 d_MO_step_13 (by first | assumption | decide | (show _ < 124; omega) | (show _ < 61; omega) | (show _ < 20; omega)) (P0.1.mo15) ?_
    refine ab_iload_n X 2 d_MO_step_16 rfl rfl ?_
    refine ab_iald X (i) ⟨rfl, rfl⟩ d_MO_step_17 (by first | assumption | decide | (show _ < 124; omega) | (show _ < 61; omega) | (show _ < 20; omega)) (rfl) (show i < 7200 by omega) (ab_ln_lt _ _) ?_
    refine ab_top ex ?_
    refine ab_sipush (v := 1000) X d_MO_step_18 (by decide) ?_
    refine ab_irem X d_MO_step_21 (by decide) ?_
    refine ab_top (rem_nI bx) ?_
    refine ab_istore5 X 0 1 2 3 4 d_MO_step_22 (by decide) rfl rfl rfl rfl rfl rfl rfl rfl rfl rfl ?_
    refine ab_iload X 1 d_MO_step_24 rfl ?_
    refine ab_iconst (v := 1) X d_MO_step_26 (by decide) ?_
    refine ab_icmp_ne X 73 d_MO_step_27 rfl (fun hb => absurd ((by decide)) hb) (fun _ => ?_)
    refine ab_aload_n X 2 d_MO_step_30 rfl rfl ?_
    refine ab_callV (as := []) X (fun h => by cases h) (z_MO_take u [] sd h C (by decide)) lk_MO_294 d_MO_step_31 rfl rfl (by first | assumption | decide | (show _ < 124; omega) | (show _ < 61; omega) | (show _ < 20; omega)) ⟨by first | exact Nat.le_of_ble_eq_true rfl | (simp only [ab_rm]; omega), by first | exact Nat.le_of_ble_eq_true rfl | (simp only [ab_rm]; omega)⟩ ⟨by first | exact Nat.le_of_ble_eq_true rfl | (simp only [ab_rm]; omega), by first | exact Nat.le_of_ble_eq_true rfl | (simp only [ab_rm]; omega)⟩ (Nat.le_of_ble_eq_true rfl) (fun u31 r31 h31 => ?_)
    obtain ⟨⟨z31, c31, g31⟩, rfl⟩ := h31
    have q31 := z31
    have P31 := P0.trans q31 (by decide)
    refine ab_istore6 X 0 1 2 3 4 5 d_MO_step_34 (by decide) rfl rfl rfl rfl rfl rfl rfl rfl rfl rfl rfl rfl ?_
    refine ab_iload X 0 d_MO_step_36 rfl ?_
    refine ab_if_eq X 56 d_MO_step_38 rfl (fun _ => ?_) (fun hb => absurd ((show nI ([] : List Nat).length = 0 from rfl)) hb)
    refine ab_aload_n X 3 d_MO_step_56 rfl rfl ?_
    refine ab_iload X 0 d_MO_step_57 rfl ?_
    refine ab_if_ne X 66 d_MO_step_59 rfl (fun hb => absurd ((show nI ([] : List Nat).length = 0 from rfl)) hb) (fun _ => ?_)
    refine ab_iconst (v := 0) X d_MO_step_62 (by decide) ?_
    refine ab_goto X 67 d_MO_step_63 rfl ?_
    refine ab_callV (as := [ab_I (nI 0)]) X (fun h => by cases h) (z_MO_putOn u31 0 [] sd P31.1 c31 (by decide) (by decide)) lk_MO_301 d_MO_step_67 rfl rfl (by first | assumption | decide | (show _ < 124; omega) | (show _ < 61; omega) | (show _ < 20; omega)) ⟨by first | exact Nat.le_of_ble_eq_true rfl | (simp only [ab_rm]; omega), by first | exact Nat.le_of_ble_eq_true rfl | (simp only [ab_rm]; omega)⟩ ⟨by first | exact Nat.le_of_ble_eq_true rfl | (simp only [ab_rm]; omega), by first | exact Nat.le_of_ble_eq_true rfl | (simp only [ab_rm]; omega)⟩ (Nat.le_of_ble_eq_true rfl) (fun u67 r67 h67 => ?_)
    obtain ⟨⟨z67, c67, g67⟩, rfl⟩ := h67
    have q67 := z67
    have P67 := P31.trans q67 (by decide)
    refine ab_goto X 440 d_MO_step_70 rfl ?_
    refine ab_iload_n X 4 d_MO_step_440 rfl rfl ?_
    refine ab_iconst (v := 1) X d_MO_step_441 (by decide) ?_
    refine ab_iadd X d_MO_step_442 ?_
    refine ab_top (nI_1 _) ?_
    exact ab_reti X hr0 hlk d_MO_step_443 (sR.no P67 (show stp hh aa x r [] sd = none by simp [stp, hx]) (g67.trans (g31.trans (if_pos rfl))))
  | cons w t =>
    have hL : t.length + 1 < 127 := hL
    have hd : w < 2000 := C.1.2.1.2
    by_cases q0 : w = 0
    ·
      refine ab_aload_n X 0 d_MO_step_0 rfl rfl ?_
      refine ab_gR X fl_MO_57 d_MO_step_1 (by first | assumption | decide | (show _ < 124; omega) | (show _ < 61; omega) | (show _ < 20; omega)) (P0.1.mo15) ?_
      refine ab_iload_n X 1 d_MO_step_4 rfl rfl ?_
      refine ab_iald X (i) ⟨rfl, rfl⟩ d_MO_step_5 (by first | assumption | decide | (show _ < 124; omega) | (show _ < 61; omega) | (show _ < 20; omega)) (rfl) (show i < 7200 by omega) (ab_ln_lt _ _) ?_
      refine ab_top ex ?_
      refine ab_sipush (v := 1000) X d_MO_step_6 (by decide) ?_
      refine ab_idiv X d_MO_step_9 (by decide) ?_
      refine ab_top ((div_nI bx).trans (congrArg nI hx)) ?_
      refine ab_istore4 X 0 1 2 3 d_MO_step_10 (by decide) rfl rfl rfl rfl rfl rfl rfl rfl ?_
      refine ab_aload_n X 1 d_MO_step_12 rfl rfl ?_
      refine ab_gR X fl_MO_57 d_MO_step_13 (by first | assumption | decide | (show _ < 124; omega) | (show _ < 61; omega) | (show _ < 20; omega)) (P0.1.mo15) ?_
      refine ab_iload_n X 2 d_MO_step_16 rfl rfl ?_
      refine ab_iald X (i) ⟨rfl, rfl⟩ d_MO_step_17 (by first | assumption | decide | (show _ < 124; omega) | (show _ < 61; omega) | (show _ < 20; omega)) (rfl) (show i < 7200 by omega) (ab_ln_lt _ _) ?_
      refine ab_top ex ?_
      refine ab_sipush (v := 1000) X d_MO_step_18 (by decide) ?_
      refine ab_irem X d_MO_step_21 (by decide) ?_
      refine ab_top (rem_nI bx) ?_
      refine ab_istore5 X 0 1 2 3 4 d_MO_step_22 (by decide) rfl rfl rfl rfl rfl rfl rfl rfl rfl rfl ?_
      refine ab_iload X 1 d_MO_step_24 rfl ?_
      refine ab_iconst (v := 1) X d_MO_step_26 (by decide) ?_
      refine ab_icmp_ne X 73 d_MO_step_27 rfl (fun hb => absurd ((by decide)) hb) (fun _ => ?_)
      refine ab_aload_n X 2 d_MO_step_30 rfl rfl ?_
      refine ab_callV (as := []) X (fun h => by cases h) (z_MO_take u (w :: t) sd h C (by show t.length + 1 ≤ 128; omega)) lk_MO_294 d_MO_step_31 rfl rfl (by first | assumption | decide | (show _ < 124; omega) | (show _ < 61; omega) | (show _ < 20; omega)) ⟨by first | exact Nat.le_of_ble_eq_true rfl | (simp only [ab_rm]; omega), by first | exact Nat.le_of_ble_eq_true rfl | (simp only [ab_rm]; omega)⟩ ⟨by first | exact Nat.le_of_ble_eq_true rfl | (simp only [ab_rm]; omega), by first | exact Nat.le_of_ble_eq_true rfl | (simp only [ab_rm]; omega)⟩ (Nat.le_of_ble_eq_true rfl) (fun u31 r31 h31 => ?_)
      obtain ⟨⟨z31, c31, g31⟩, rfl⟩ := h31
      have q31 := z31
      have P31 := P0.trans q31 (by decide)
      refine ab_istore6 X 0 1 2 3 4 5 d_MO_step_34 (by decide) rfl rfl rfl rfl rfl rfl rfl rfl rfl rfl rfl rfl ?_
      refine ab_iload X 0 d_MO_step_36 rfl ?_
      refine ab_if_eq X 56 d_MO_step_38 rfl (fun _ => ?_) (fun hb => absurd ((congrArg nI q0)) hb)
      refine ab_aload_n X 3 d_MO_step_56 rfl rfl ?_
      refine ab_iload X 0 d_MO_step_57 rfl ?_
      refine ab_if_ne X 66 d_MO_step_59 rfl (fun hb => absurd ((congrArg nI q0)) hb) (fun _ => ?_)
      refine ab_iconst (v := 0) X d_MO_step_62 (by decide) ?_
      refine ab_goto X 67 d_MO_step_63 rfl ?_
      refine ab_callV (as := [ab_I (nI 0)]) X (fun h => by cases h) (z_MO_putOn u31 0 t sd P31.1 c31 (by decide) (by omega)) lk_MO_301 d_MO_step_67 rfl rfl (by first | assumption | decide | (show _ < 124; omega) | (show _ < 61; omega) | (show _ < 20; omega)) ⟨by first | exact Nat.le_of_ble_eq_true rfl | (simp only [ab_rm]; omega), by first | exact Nat.le_of_ble_eq_true rfl | (simp only [ab_rm]; omega)⟩ ⟨by first | exact Nat.le_of_ble_eq_true rfl | (simp only [ab_rm]; omega), by first | exact Nat.le_of_ble_eq_true rfl | (simp only [ab_rm]; omega)⟩ (Nat.le_of_ble_eq_true rfl) (fun u67 r67 h67 => ?_)
      obtain ⟨⟨z67, c67, g67⟩, rfl⟩ := h67
      have q67 := z67
      have P67 := P31.trans q67 (by decide)
      refine ab_goto X 440 d_MO_step_70 rfl ?_
      refine ab_iload_n X 4 d_MO_step_440 rfl rfl ?_
      refine ab_iconst (v := 1) X d_MO_step_441 (by decide) ?_
      refine ab_iadd X d_MO_step_442 ?_
      refine ab_top (nI_1 _) ?_
      exact ab_reti X hr0 hlk d_MO_step_443 (sR.yes P67 (show stp hh aa x r (w :: t) sd = some (r, 0 :: t, sd) by simp [stp, hx, q0]) (g67.trans (g31.trans (cn_n.trans e6))) (c67))
    · by_cases q1 : w = 10 + x % 1000
      ·
        refine ab_aload_n X 0 d_MO_step_0 rfl rfl ?_
        refine ab_gR X fl_MO_57 d_MO_step_1 (by first | assumption | decide | (show _ < 124; omega) | (show _ < 61; omega) | (show _ < 20; omega)) (P0.1.mo15) ?_
        refine ab_iload_n X 1 d_MO_step_4 rfl rfl ?_
        refine ab_iald X (i) ⟨rfl, rfl⟩ d_MO_step_5 (by first | assumption | decide | (show _ < 124; omega) | (show _ < 61; omega) | (show _ < 20; omega)) (rfl) (show i < 7200 by omega) (ab_ln_lt _ _) ?_
        refine ab_top ex ?_
        refine ab_sipush (v := 1000) X d_MO_step_6 (by decide) ?_
        refine ab_idiv X d_MO_step_9 (by decide) ?_
        refine ab_top ((div_nI bx).trans (congrArg nI hx)) ?_
        refine ab_istore4 X 0 1 2 3 d_MO_step_10 (by decide) rfl rfl rfl rfl rfl rfl rfl rfl ?_
        refine ab_aload_n X 1 d_MO_step_12 rfl rfl ?_
        refine ab_gR X fl_MO_57 d_MO_step_13 (by first | assumption | decide | (show _ < 124; omega) | (show _ < 61; omega) | (show _ < 20; omega)) (P0.1.mo15) ?_
        refine ab_iload_n X 2 d_MO_step_16 rfl rfl ?_
        refine ab_iald X (i) ⟨rfl, rfl⟩ d_MO_step_17 (by first | assumption | decide | (show _ < 124; omega) | (show _ < 61; omega) | (show _ < 20; omega)) (rfl) (show i < 7200 by omega) (ab_ln_lt _ _) ?_
        refine ab_top ex ?_
        refine ab_sipush (v := 1000) X d_MO_step_18 (by decide) ?_
        refine ab_irem X d_MO_step_21 (by decide) ?_
        refine ab_top (rem_nI bx) ?_
        refine ab_istore5 X 0 1 2 3 4 d_MO_step_22 (by decide) rfl rfl rfl rfl rfl rfl rfl rfl rfl rfl ?_
        refine ab_iload X 1 d_MO_step_24 rfl ?_
        refine ab_iconst (v := 1) X d_MO_step_26 (by decide) ?_
        refine ab_icmp_ne X 73 d_MO_step_27 rfl (fun hb => absurd ((by decide)) hb) (fun _ => ?_)
        refine ab_aload_n X 2 d_MO_step_30 rfl rfl ?_
        refine ab_callV (as := []) X (fun h => by cases h) (z_MO_take u (w :: t) sd h C (by show t.length + 1 ≤ 128; omega)) lk_MO_294 d_MO_step_31 rfl rfl (by first | assumption | decide | (show _ < 124; omega) | (show _ < 61; omega) | (show _ < 20; omega)) ⟨by first | exact Nat.le_of_ble_eq_true rfl | (simp only [ab_rm]; omega), by first | exact Nat.le_of_ble_eq_true rfl | (simp only [ab_rm]; omega)⟩ ⟨by first | exact Nat.le_of_ble_eq_true rfl | (simp only [ab_rm]; omega), by first | exact Nat.le_of_ble_eq_true rfl | (simp only [ab_rm]; omega)⟩ (Nat.le_of_ble_eq_true rfl) (fun u31 r31 h31 => ?_)
        obtain ⟨⟨z31, c31, g31⟩, rfl⟩ := h31
        have q31 := z31
        have P31 := P0.trans q31 (by decide)
        refine ab_istore6 X 0 1 2 3 4 5 d_MO_step_34 (by decide) rfl rfl rfl rfl rfl rfl rfl rfl rfl rfl rfl rfl ?_
        refine ab_iload X 0 d_MO_step_36 rfl ?_
        refine ab_if_eq X 56 d_MO_step_38 rfl (fun hb => absurd hb ((nI_n0 (n := w) (by omega) q0))) (fun _ => ?_)
        refine ab_iload X 0 d_MO_step_41 rfl ?_
        refine ab_bipush (v := 10) X d_MO_step_43 (by decide) ?_
        refine ab_iload X 1 d_MO_step_45 rfl ?_
        refine ab_iadd X d_MO_step_47 ?_
        refine ab_top (nI_add 10 (x % 1000)) ?_
        refine ab_icmp_eq X 56 d_MO_step_48 rfl (fun _ => ?_) (fun hb => absurd ((congrArg nI q1)) hb)
        refine ab_aload_n X 3 d_MO_step_56 rfl rfl ?_
        refine ab_iload X 0 d_MO_step_57 rfl ?_
        refine ab_if_ne X 66 d_MO_step_59 rfl (fun _ => ?_) (fun hb => absurd hb ((nI_n0 (n := w) (by omega) q0)))
        refine ab_iconst (v := 1) X d_MO_step_66 (by decide) ?_
        refine ab_callV (as := [ab_I (nI 1)]) X (fun h => by cases h) (z_MO_putOn u31 1 t sd P31.1 c31 (by decide) (by omega)) lk_MO_301 d_MO_step_67 rfl rfl (by first | assumption | decide | (show _ < 124; omega) | (show _ < 61; omega) | (show _ < 20; omega)) ⟨by first | exact Nat.le_of_ble_eq_true rfl | (simp only [ab_rm]; omega), by first | exact Nat.le_of_ble_eq_true rfl | (simp only [ab_rm]; omega)⟩ ⟨by first | exact Nat.le_of_ble_eq_true rfl | (simp only [ab_rm]; omega), by first | exact Nat.le_of_ble_eq_true rfl | (simp only [ab_rm]; omega)⟩ (Nat.le_of_ble_eq_true rfl) (fun u67 r67 h67 => ?_)
        obtain ⟨⟨z67, c67, g67⟩, rfl⟩ := h67
        have q67 := z67
        have P67 := P31.trans q67 (by decide)
        refine ab_goto X 440 d_MO_step_70 rfl ?_
        refine ab_iload_n X 4 d_MO_step_440 rfl rfl ?_
        refine ab_iconst (v := 1) X d_MO_step_441 (by decide) ?_
        refine ab_iadd X d_MO_step_442 ?_
        refine ab_top (nI_1 _) ?_
        exact ab_reti X hr0 hlk d_MO_step_443 (sR.yes P67 (show stp hh aa x r (w :: t) sd = some (r, 1 :: t, sd) by simp [stp, hx, q1]) (g67.trans (g31.trans (cn_n.trans e6))) (c67))
      ·
        refine ab_aload_n X 0 d_MO_step_0 rfl rfl ?_
        refine ab_gR X fl_MO_57 d_MO_step_1 (by first | assumption | decide | (show _ < 124; omega) | (show _ < 61; omega) | (show _ < 20; omega)) (P0.1.mo15) ?_
        refine ab_iload_n X 1 d_MO_step_4 rfl rfl ?_
        refine ab_iald X (i) ⟨rfl, rfl⟩ d_MO_step_5 (by first | assumption | decide | (show _ < 124; omega) | (show _ < 61; omega) | (show _ < 20; omega)) (rfl) (show i < 7200 by omega) (ab_ln_lt _ _) ?_
        refine ab_top ex ?_
        refine ab_sipush (v := 1000) X d_MO_step_6 (by decide) ?_
        refine ab_idiv X d_MO_step_9 (by decide) ?_
        refine ab_top ((div_nI bx).trans (congrArg nI hx)) ?_
        refine ab_istore4 X 0 1 2 3 d_MO_step_10 (by decide) rfl rfl rfl rfl rfl rfl rfl rfl ?_
        refine ab_aload_n X 1 d_MO_step_12 rfl rfl ?_
        refine ab_gR X fl_MO_57 d_MO_step_13 (by first | assumption | decide | (show _ < 124; omega) | (show _ < 61; omega) | (show _ < 20; omega)) (P0.1.mo15) ?_
        refine ab_iload_n X 2 d_MO_step_16 rfl rfl ?_
        refine ab_iald X (i) ⟨rfl, rfl⟩ d_MO_step_17 (by first | assumption | decide | (show _ < 124; omega) | (show _ < 61; omega) | (show _ < 20; omega)) (rfl) (show i < 7200 by omega) (ab_ln_lt _ _) ?_
        refine ab_top ex ?_
        refine ab_sipush (v := 1000) X d_MO_step_18 (by decide) ?_
        refine ab_irem X d_MO_step_21 (by decide) ?_
        refine ab_top (rem_nI bx) ?_
        refine ab_istore5 X 0 1 2 3 4 d_MO_step_22 (by decide) rfl rfl rfl rfl rfl rfl rfl rfl rfl rfl ?_
        refine ab_iload X 1 d_MO_step_24 rfl ?_
        refine ab_iconst (v := 1) X d_MO_step_26 (by decide) ?_
        refine ab_icmp_ne X 73 d_MO_step_27 rfl (fun hb => absurd ((by decide)) hb) (fun _ => ?_)
        refine ab_aload_n X 2 d_MO_step_30 rfl rfl ?_
        refine ab_callV (as := []) X (fun h => by cases h) (z_MO_take u (w :: t) sd h C (by show t.length + 1 ≤ 128; omega)) lk_MO_294 d_MO_step_31 rfl rfl (by first | assumption | decide | (show _ < 124; omega) | (show _ < 61; omega) | (show _ < 20; omega)) ⟨by first | exact Nat.le_of_ble_eq_true rfl | (simp only [ab_rm]; omega), by first | exact Nat.le_of_ble_eq_true rfl | (simp only [ab_rm]; omega)⟩ ⟨by first | exact Nat.le_of_ble_eq_true rfl | (simp only [ab_rm]; omega), by first | exact Nat.le_of_ble_eq_true rfl | (simp only [ab_rm]; omega)⟩ (Nat.le_of_ble_eq_true rfl) (fun u31 r31 h31 => ?_)
        obtain ⟨⟨z31, c31, g31⟩, rfl⟩ := h31
        have q31 := z31
        have P31 := P0.trans q31 (by decide)
        refine ab_istore6 X 0 1 2 3 4 5 d_MO_step_34 (by decide) rfl rfl rfl rfl rfl rfl rfl rfl rfl rfl rfl rfl ?_
        refine ab_iload X 0 d_MO_step_36 rfl ?_
        refine ab_if_eq X 56 d_MO_step_38 rfl (fun hb => absurd hb ((nI_n0 (n := w) (by omega) q0))) (fun _ => ?_)
        refine ab_iload X 0 d_MO_step_41 rfl ?_
        refine ab_bipush (v := 10) X d_MO_step_43 (by decide) ?_
        refine ab_iload X 1 d_MO_step_45 rfl ?_
        refine ab_iadd X d_MO_step_47 ?_
        refine ab_top (nI_add 10 (x % 1000)) ?_
        refine ab_icmp_eq X 56 d_MO_step_48 rfl (fun hb => absurd hb ((nI_ne (a := w) (by omega) (by omega) q1))) (fun _ => ?_)
        refine ab_aload_n X 3 d_MO_step_51 rfl rfl ?_
        refine ab_iconst (v := 1) X d_MO_step_52 (by decide) ?_
        refine ab_putI X fp_MO_132 d_MO_step_53 (by first | assumption | decide | (show _ < 124; omega) | (show _ < 61; omega) | (show _ < 20; omega)) rfl rfl ?_
        refine ab_gen (fun u53 e53 => ?_)
        have P53 : gP [35, 37, 40, 118, 119] u u53 := by rw [e53]; exact P31.ui rfl (by decide)
        have c53 : rM u53 t sd := by rw [e53]; exact c31.ui (by decide)
        refine ab_aload_n X 3 d_MO_step_56 rfl rfl ?_
        refine ab_iload X 0 d_MO_step_57 rfl ?_
        refine ab_if_ne X 66 d_MO_step_59 rfl (fun _ => ?_) (fun hb => absurd hb ((nI_n0 (n := w) (by omega) q0)))
        refine ab_iconst (v := 1) X d_MO_step_66 (by decide) ?_
        refine ab_callV (as := [ab_I (nI 1)]) X (fun h => by cases h) (z_MO_putOn u53 1 t sd P53.1 c53 (by decide) (by omega)) lk_MO_301 d_MO_step_67 rfl rfl (by first | assumption | decide | (show _ < 124; omega) | (show _ < 61; omega) | (show _ < 20; omega)) ⟨by first | exact Nat.le_of_ble_eq_true rfl | (simp only [ab_rm]; omega), by first | exact Nat.le_of_ble_eq_true rfl | (simp only [ab_rm]; omega)⟩ ⟨by first | exact Nat.le_of_ble_eq_true rfl | (simp only [ab_rm]; omega), by first | exact Nat.le_of_ble_eq_true rfl | (simp only [ab_rm]; omega)⟩ (Nat.le_of_ble_eq_true rfl) (fun u67 r67 h67 => ?_)
        obtain ⟨⟨z67, c67, g67⟩, rfl⟩ := h67
        have q67 := z67
        have P67 := P53.trans q67 (by decide)
        refine ab_goto X 440 d_MO_step_70 rfl ?_
        refine ab_iload_n X 4 d_MO_step_440 rfl rfl ?_
        refine ab_iconst (v := 1) X d_MO_step_441 (by decide) ?_
        refine ab_iadd X d_MO_step_442 ?_
        refine ab_top (nI_1 _) ?_
        exact ab_reti X hr0 hlk d_MO_step_443 (sR.no P67 (show stp hh aa x r (w :: t) sd = none by simp [stp, hx, q0, q1]) (g67.trans (by rw [e53]; exact ui_s _)))
set_option maxRecDepth 100000 in
set_option maxHeartbeats 1000000 in
theorem z_MO_st2 (u : ab_S) (st sd : List Nat) (h : mR u.2.1) (C : rM u st sd) (hh aa : Int32) (x i : Nat) (r : List Nat) (hL : st.length < 127) (hS : sd.length < 63) (ex : u.1 18 9 i = nI x) (bx : x < 20000) (e6 : u.1 17 0 40 = 0) (Wr : wR u i r) (G : gd x r st) (hx : x / 1000 = 2) : ab_C false l D ca y_MO_step b_MO_step 7 (some FieldType.int) 3 ab_nQ u [ab_O 17 0, ab_I (nI i), ab_I hh, ab_I aa] (fun u' w => sR hh aa x r st sd i u u' w) := by
  refine ab_C.of (by decide) (Nat.le_of_ble_eq_true rfl) ?_
  intro p e s m args below meth c ad X hZ hr0 hlk
  have P0 : gP [35, 37, 40, 118, 119] u u := gP.rf h
  have hi := Wr.1
  cases st with
  | nil =>
    refine ab_aload_n X 0 d_MO_step_0 rfl rfl ?_
    refine ab_gR X fl_MO_57 d_MO_step_1 (by first | assumption | decide | (show _ < 124; omega) | (show _ < 61; omega) | (show _ < 20; omega)) (P0.1.mo15) ?_
    refine ab_iload_n X 1 d_MO_step_4 rfl rfl ?_
    refine ab_iald X (i) ⟨rfl, rfl⟩ d_MO_step_5 (by first | assumption | decide | (show _ < 124; omega) | (show _ < 61; omega) | (show _ < 20; omega)) (rfl) (show i < 7200 by omega) (ab_ln_lt _ _) ?_
    refine ab_top ex ?_
    refine ab_sipush (v := 1000) X d_MO_step_6 (by decide) ?_
    refine ab_idiv X d_MO_step_9 (by decide) ?_
    refine ab_top ((div_nI bx).trans (congrArg nI hx)) ?_
    refine ab_istore4 X 0 1 2 3 d_MO_step_10 (by decide) rfl rfl rfl rfl rfl rfl rfl rfl ?_
    refine ab_aload_n X 1 d_MO_step_12 rfl rfl ?_
    refine ab_gR X fl_MO_57 d_MO_step_13 (by first | assumption | decide | (show _ < 124; omega) | (show _ < 61; omega) | (show _ < 20; omega)) (P0.1.mo15) ?_
    refine ab_iload_n X 2 d_MO_step_16 rfl rfl ?_
    refine ab_iald X (i) ⟨rfl, rfl⟩ d_MO_step_17 (by first | assumption | decide | (show _ < 124; omega) | (show _ < 61; omega) | (show _ < 20; omega)) (rfl) (show i < 7200 by omega) (ab_ln_lt _ _) ?_
    refine ab_top ex ?_
    refine ab_sipush (v := 1000) X d_MO_step_18 (by decide) ?_
    refine ab_irem X d_MO_step_21 (by decide) ?_
    refine ab_top (rem_nI bx) ?_
    refine ab_istore5 X 0 1 2 3 4 d_MO_step_22 (by decide) rfl rfl rfl rfl rfl rfl rfl rfl rfl rfl ?_
    refine ab_iload X 1 d_MO_step_24 rfl ?_
    refine ab_iconst (v := 1) X d_MO_step_26 (by decide) ?_
    refine ab_icmp_ne X 73 d_MO_step_27 rfl (fun _ => ?_) (fun hb => absurd hb ((by decide)))
    refine ab_iload X 1 d_MO_step_73 rfl ?_
    refine ab_iconst (v := 2) X d_MO_step_75 (by decide) ?_
    refine ab_icmp_ne X 103 d_MO_step_76 rfl (fun hb => absurd ((by decide)) hb) (fun _ => ?_)
    refine ab_aload_n X 2 d_MO_step_79 rfl rfl ?_
    refine ab_aload_n X 2 d_MO_step_80 rfl rfl ?_
    refine ab_callV (as := []) X (fun h => by cases h) (z_MO_take u [] sd h C (by decide)) lk_MO_294 d_MO_step_81 rfl rfl (by first | assumption | decide | (show _ < 124; omega) | (show _ < 61; omega) | (show _ < 20; omega)) ⟨by first | exact Nat.le_of_ble_eq_true rfl | (simp only [ab_rm]; omega), by first | exact Nat.le_of_ble_eq_true rfl | (simp only [ab_rm]; omega)⟩ ⟨by first | exact Nat.le_of_ble_eq_true rfl | (simp only [ab_rm]; omega), by first | exact Nat.le_of_ble_eq_true rfl | (simp only [ab_rm]; omega)⟩ (Nat.le_of_ble_eq_true rfl) (fun u81 r81 h81 => ?_)
    obtain ⟨⟨z81, c81, g81⟩, rfl⟩ := h81
    have q81 := z81
    have P81 := P0.trans q81 (by decide)
    refine ab_bipush (v := 20) X d_MO_step_84 (by decide) ?_
    refine ab_iload X 0 d_MO_step_86 rfl ?_
    refine ab_iadd X d_MO_step_88 ?_
    refine ab_top (nI_add 20 (x % 1000)) ?_
    refine ab_icmp_ne X 96 d_MO_step_89 rfl (fun _ => ?_) (fun hb => absurd hb ((nI_ne (a := 0) (b := 20 + x % 1000) (by decide) (by omega) (by omega))))
    refine ab_iconst (v := 0) X d_MO_step_96 (by decide) ?_
    refine ab_callV (as := [ab_I (nI 0)]) X (fun h => by cases h) (z_MO_putOn u81 0 [] sd P81.1 c81 (by decide) (by decide)) lk_MO_301 d_MO_step_97 rfl rfl (by first | assumption | decide | (show _ < 124; omega) | (show _ < 61; omega) | (show _ < 20; omega)) ⟨by first | exact Nat.le_of_ble_eq_true rfl | (simp only [ab_rm]; omega), by first | exact Nat.le_of_ble_eq_true rfl | (simp only [ab_rm]; omega)⟩ ⟨by first | exact Nat.le_of_ble_eq_true rfl | (simp only [ab_rm]; omega), by first | exact Nat.le_of_ble_eq_true rfl | (simp only [ab_rm]; omega)⟩ (Nat.le_of_ble_eq_true rfl) (fun u97 r97 h97 => ?_)
    obtain ⟨⟨z97, c97, g97⟩, rfl⟩ := h97
    have q97 := z97
    have P97 := P81.trans q97 (by decide)
    refine ab_goto X 440 d_MO_step_100 rfl ?_
    refine ab_iload_n X 3 d_MO_step_440 rfl rfl ?_
    refine ab_iconst (v := 1) X d_MO_step_441 (by decide) ?_
    refine ab_iadd X d_MO_step_442 ?_
    refine ab_top (nI_1 _) ?_
    exact ab_reti X hr0 hlk d_MO_step_443 (sR.no P97 (show stp hh aa x r [] sd = none by simp [stp, hx]) (g97.trans (g81.trans (if_pos rfl))))
  | cons w t =>
    have hL : t.length + 1 < 127 := hL
    have hd : w < 2000 := C.1.2.1.2
    by_cases q1 : w = 20 + x % 1000
    ·
      refine ab_aload_n X 0 d_MO_step_0 rfl rfl ?_
      refine ab_gR X fl_MO_57 d_MO_step_1 (by first | assumption | decide | (show _ < 124; omega) | (show _ < 61; omega) | (show _ < 20; omega)) (P0.1.mo15) ?_
      refine ab_iload_n X 1 d_MO_step_4 rfl rfl ?_
      refine ab_iald X (i) ⟨rfl, rfl⟩ d_MO_step_5 (by first | assumption | decide | (show _ < 124; omega) | (show _ < 61; omega) | (show _ < 20; omega)) (rfl) (show i < 7200 by omega) (ab_ln_lt _ _) ?_
      refine ab_top ex ?_
      refine ab_sipush (v := 1000) X d_MO_step_6 (by decide) ?_
      refine ab_idiv X d_MO_step_9 (by decide) ?_
      refine ab_top ((div_nI bx).trans (congrArg nI hx)) ?_
      refine ab_istore4 X 0 1 2 3 d_MO_step_10 (by decide) rfl rfl rfl rfl rfl rfl rfl rfl ?_
      refine ab_aload_n X 1 d_MO_step_12 rfl rfl ?_
      refine ab_gR X fl_MO_57 d_MO_step_13 (by first | assumption | decide | (show _ < 124; omega) | (show _ < 61; omega) | (show _ < 20; omega)) (P0.1.mo15) ?_
      refine ab_iload_n X 2 d_MO_step_16 rfl rfl ?_
      refine ab_iald X (i) ⟨rfl, rfl⟩ d_MO_step_17 (by first | assumption | decide | (show _ < 124; omega) | (show _ < 61; omega) | (show _ < 20; omega)) (rfl) (show i < 7200 by omega) (ab_ln_lt _ _) ?_
      refine ab_top ex ?_
      refine ab_sipush (v := 1000) X d_MO_step_18 (by decide) ?_
      refine ab_irem X d_MO_step_21 (by decide) ?_
      refine ab_top (rem_nI bx) ?_
      refine ab_istore5 X 0 1 2 3 4 d_MO_step_22 (by decide) rfl rfl rfl rfl rfl rfl rfl rfl rfl rfl ?_
      refine ab_iload X 1 d_MO_step_24 rfl ?_
      refine ab_iconst (v := 1) X d_MO_step_26 (by decide) ?_
      refine ab_icmp_ne X 73 d_MO_step_27 rfl (fun _ => ?_) (fun hb => absurd hb ((by decide)))
      refine ab_iload X 1 d_MO_step_73 rfl ?_
      refine ab_iconst (v := 2) X d_MO_step_75 (by decide) ?_
      refine ab_icmp_ne X 103 d_MO_step_76 rfl (fun hb => absurd ((by decide)) hb) (fun _ => ?_)
      refine ab_aload_n X 2 d_MO_step_79 rfl rfl ?_
      refine ab_aload_n X 2 d_MO_step_80 rfl rfl ?_
      refine ab_callV (as := []) X (fun h => by cases h) (z_MO_take u (w :: t) sd h C (by show t.length + 1 ≤ 128; omega)) lk_MO_294 d_MO_step_81 rfl rfl (by first | assumption | decide | (show _ < 124; omega) | (show _ < 61; omega) | (show _ < 20; omega)) ⟨by first | exact Nat.le_of_ble_eq_true rfl | (simp only [ab_rm]; omega), by first | exact Nat.le_of_ble_eq_true rfl | (simp only [ab_rm]; omega)⟩ ⟨by first | exact Nat.le_of_ble_eq_true rfl | (simp only [ab_rm]; omega), by first | exact Nat.le_of_ble_eq_true rfl | (simp only [ab_rm]; omega)⟩ (Nat.le_of_ble_eq_true rfl) (fun u81 r81 h81 => ?_)
      obtain ⟨⟨z81, c81, g81⟩, rfl⟩ := h81
      have q81 := z81
      have P81 := P0.trans q81 (by decide)
      refine ab_bipush (v := 20) X d_MO_step_84 (by decide) ?_
      refine ab_iload X 0 d_MO_step_86 rfl ?_
      refine ab_iadd X d_MO_step_88 ?_
      refine ab_top (nI_add 20 (x % 1000)) ?_
      refine ab_icmp_ne X 96 d_MO_step_89 rfl (fun hb => absurd ((congrArg nI q1)) hb) (fun _ => ?_)
      refine ab_iconst (v := 1) X d_MO_step_92 (by decide) ?_
      refine ab_goto X 97 d_MO_step_93 rfl ?_
      refine ab_callV (as := [ab_I (nI 1)]) X (fun h => by cases h) (z_MO_putOn u81 1 t sd P81.1 c81 (by decide) (by omega)) lk_MO_301 d_MO_step_97 rfl rfl (by first | assumption | decide | (show _ < 124; omega) | (show _ < 61; omega) | (show _ < 20; omega)) ⟨by first | exact Nat.le_of_ble_eq_true rfl | (simp only [ab_rm]; omega), by first | exact Nat.le_of_ble_eq_true rfl | (simp only [ab_rm]; omega)⟩ ⟨by first | exact Nat.le_of_ble_eq_true rfl | (simp only [ab_rm]; omega), by first | exact Nat.le_of_ble_eq_true rfl | (simp only [ab_rm]; omega)⟩ (Nat.le_of_ble_eq_true rfl) (fun u97 r97 h97 => ?_)
      obtain ⟨⟨z97, c97, g97⟩, rfl⟩ := h97
      have q97 := z97
      have P97 := P81.trans q97 (by decide)
      refine ab_goto X 440 d_MO_step_100 rfl ?_
      refine ab_iload_n X 3 d_MO_step_440 rfl rfl ?_
      refine ab_iconst (v := 1) X d_MO_step_441 (by decide) ?_
      refine ab_iadd X d_MO_step_442 ?_
      refine ab_top (nI_1 _) ?_
      exact ab_reti X hr0 hlk d_MO_step_443 (sR.yes P97 (show stp hh aa x r (w :: t) sd = some (r, 1 :: t, sd) by simp [stp, hx, q1]) (g97.trans (g81.trans (cn_n.trans e6))) (c97))
    ·
      refine ab_aload_n X 0 d_MO_step_0 rfl rfl ?_
      refine ab_gR X fl_MO_57 d_MO_step_1 (by first | assumption | decide | (show _ < 124; omega) | (show _ < 61; omega) | (show _ < 20; omega)) (P0.1.mo15) ?_
      refine ab_iload_n X 1 d_MO_step_4 rfl rfl ?_
      refine ab_iald X (i) ⟨rfl, rfl⟩ d_MO_step_5 (by first | assumption | decide | (show _ < 124; omega) | (show _ < 61; omega) | (show _ < 20; omega)) (rfl) (show i < 7200 by omega) (ab_ln_lt _ _) ?_
      refine ab_top ex ?_
      refine ab_sipush (v := 1000) X d_MO_step_6 (by decide) ?_
      refine ab_idiv X d_MO_step_9 (by decide) ?_
      refine ab_top ((div_nI bx).trans (congrArg nI hx)) ?_
      refine ab_istore4 X 0 1 2 3 d_MO_step_10 (by decide) rfl rfl rfl rfl rfl rfl rfl rfl ?_
      refine ab_aload_n X 1 d_MO_step_12 rfl rfl ?_
      refine ab_gR X fl_MO_57 d_MO_step_13 (by first | assumption | decide | (show _ < 124; omega) | (show _ < 61; omega) | (show _ < 20; omega)) (P0.1.mo15) ?_
      refine ab_iload_n X 2 d_MO_step_16 rfl rfl ?_
      refine ab_iald X (i) ⟨rfl, rfl⟩ d_MO_step_17 (by first | assumption | decide | (show _ < 124; omega) | (show _ < 61; omega) | (show _ < 20; omega)) (rfl) (show i < 7200 by omega) (ab_ln_lt _ _) ?_
      refine ab_top ex ?_
      refine ab_sipush (v := 1000) X d_MO_step_18 (by decide) ?_
      refine ab_irem X d_MO_step_21 (by decide) ?_
      refine ab_top (rem_nI bx) ?_
      refine ab_istore5 X 0 1 2 3 4 d_MO_step_22 (by decide) rfl rfl rfl rfl rfl rfl rfl rfl rfl rfl ?_
      refine ab_iload X 1 d_MO_step_24 rfl ?_
      refine ab_iconst (v := 1) X d_MO_step_26 (by decide) ?_
      refine ab_icmp_ne X 73 d_MO_step_27 rfl (fun _ => ?_) (fun hb => absurd hb ((by decide)))
      refine ab_iload X 1 d_MO_step_73 rfl ?_
      refine ab_iconst (v := 2) X d_MO_step_75 (by decide) ?_
      refine ab_icmp_ne X 103 d_MO_step_76 rfl (fun hb => absurd ((by decide)) hb) (fun _ => ?_)
      refine ab_aload_n X 2 d_MO_step_79 rfl rfl ?_
      refine ab_aload_n X 2 d_MO_step_80 rfl rfl ?_
      refine ab_callV (as := []) X (fun h => by cases h) (z_MO_take u (w :: t) sd h C (by show t.length + 1 ≤ 128; omega)) lk_MO_294 d_MO_step_81 rfl rfl (by first | assumption | decide | (show _ < 124; omega) | (show _ < 61; omega) | (show _ < 20; omega)) ⟨by first | exact Nat.le_of_ble_eq_true rfl | (simp only [ab_rm]; omega), by first | exact Nat.le_of_ble_eq_true rfl | (simp only [ab_rm]; omega)⟩ ⟨by first | exact Nat.le_of_ble_eq_true rfl | (simp only [ab_rm]; omega), by first | exact Nat.le_of_ble_eq_true rfl | (simp only [ab_rm]; omega)⟩ (Nat.le_of_ble_eq_true rfl) (fun u81 r81 h81 => ?_)
      obtain ⟨⟨z81, c81, g81⟩, rfl⟩ := h81
      have q81 := z81
      have P81 := P0.trans q81 (by decide)
      refine ab_bipush (v := 20) X d_MO_step_84 (by decide) ?_
      refine ab_iload X 0 d_MO_step_86 rfl ?_
      refine ab_iadd X d_MO_step_88 ?_
      refine ab_top (nI_add 20 (x % 1000)) ?_
      refine ab_icmp_ne X 96 d_MO_step_89 rfl (fun _ => ?_) (fun hb => absurd hb ((nI_ne (a := w) (by omega) (by omega) q1)))
      refine ab_iconst (v := 0) X d_MO_step_96 (by decide) ?_
      refine ab_callV (as := [ab_I (nI 0)]) X (fun h => by cases h) (z_MO_putOn u81 0 t sd P81.1 c81 (by decide) (by omega)) lk_MO_301 d_MO_step_97 rfl rfl (by first | assumption | decide | (show _ < 124; omega) | (show _ < 61; omega) | (show _ < 20; omega)) ⟨by first | exact Nat.le_of_ble_eq_true rfl | (simp only [ab_rm]; omega), by first | exact Nat.le_of_ble_eq_true rfl | (simp only [ab_rm]; omega)⟩ ⟨by first | exact Nat.le_of_ble_eq_true rfl | (simp only [ab_rm]; omega), by first | exact Nat.le_of_ble_eq_true rfl | (simp only [ab_rm]; omega)⟩ (Nat.le_of_ble_eq_true rfl) (fun u97 r97 h97 => ?_)
      obtain ⟨⟨z97, c97, g97⟩, rfl⟩ := h97
      have q97 := z97
      have P97 := P81.trans q97 (by decide)
      refine ab_goto X 440 d_MO_step_100 rfl ?_
      refine ab_iload_n X 3 d_MO_step_440 rfl rfl ?_
      refine ab_iconst (v := 1) X d_MO_step_441 (by decide) ?_
      refine ab_iadd X d_MO_step_442 ?_
      refine ab_top (nI_1 _) ?_
      exact ab_reti X hr0 hlk d_MO_step_443 (sR.yes P97 (show stp hh aa x r (w :: t) sd = some (r, 0 :: t, sd) by simp [stp, hx, q1]) (g97.trans (g81.trans (cn_n.trans e6))) (c97))
set_option maxRecDepth 100000 in
set_option maxHeartbeats 1000000 in
theorem z_MO_st3 (u : ab_S) (st sd : List Nat) (h : mR u.2.1) (C : rM u st sd) (hh aa : Int32) (x i : Nat) (r : List Nat) (hL : st.length < 127) (hS : sd.length < 63) (ex : u.1 18 9 i = nI x) (bx : x < 20000) (e6 : u.1 17 0 40 = 0) (Wr : wR u i r) (G : gd x r st) (hx : x / 1000 = 3) : ab_C false l D ca y_MO_step b_MO_step 7 (some FieldType.int) 3 ab_nQ u [ab_O 17 0, ab_I (nI i), ab_I hh, ab_I aa] (fun u' w => sR hh aa x r st sd i u u' w) := by
  refine ab_C.of (by decide) (Nat.le_of_ble_eq_true rfl) ?_
  intro p e s m args below meth c ad X hZ hr0 hlk
  have P0 : gP [35, 37, 40, 118, 119] u u := gP.rf h
  have hi := Wr.1
  by_cases q1 : hh < nI (x % 1000)
  ·
    refine ab_aload_n X 0 d_MO_step_0 rfl rfl ?_
    refine ab_gR X fl_MO_57 d_MO_step_1 (by first | assumption | decide | (show _ < 124; omega) | (show _ < 61; omega) | (show _ < 20; omega)) (P0.1.mo15) ?_
    refine ab_iload_n X 1 d_MO_step_4 rfl rfl ?_
    refine ab_iald X (i) ⟨rfl, rfl⟩ d_MO_step_5 (by first | assumption | decide | (show _ < 124; omega) | (show _ < 61; omega) | (show _ < 20; omega)) (rfl) (show i < 7200 by omega) (ab_ln_lt _ _) ?_
    refine ab_top ex ?_
    refine ab_sipush (v := 1000) X d_MO_step_6 (by decide) ?_
    refine ab_idiv X d_MO_step_9 (by decide) ?_
    refine ab_top ((div_nI bx).trans (congrArg nI hx)) ?_
    refine ab_istore4 X 0 1 2 3 d_MO_step_10 (by decide) rfl rfl rfl rfl rfl rfl rfl rfl ?_
    refine ab_aload_n X 1 d_MO_step_12 rfl rfl ?_
    refine ab_gR X fl_MO_57 d_MO_step_13 (by first | assumption | decide | (show _ < 124; omega) | (show _ < 61; omega) | (show _ < 20; omega)) (P0.1.mo15) ?_
    refine ab_iload_n X 2 d_MO_step_16 rfl rfl ?_
    refine ab_iald X (i) ⟨rfl, rfl⟩ d_MO_step_17 (by first | assumption | decide | (show _ < 124; omega) | (show _ < 61; omega) | (show _ < 20; omega)) (rfl) (show i < 7200 by omega) (ab_ln_lt _ _) ?_
    refine ab_top ex ?_
    refine ab_sipush (v := 1000) X d_MO_step_18 (by decide) ?_
    refine ab_irem X d_MO_step_21 (by decide) ?_
    refine ab_top (rem_nI bx) ?_
    refine ab_istore5 X 0 1 2 3 4 d_MO_step_22 (by decide) rfl rfl rfl rfl rfl rfl rfl rfl rfl rfl ?_
    refine ab_iload X 1 d_MO_step_24 rfl ?_
    refine ab_iconst (v := 1) X d_MO_step_26 (by decide) ?_
    refine ab_icmp_ne X 73 d_MO_step_27 rfl (fun _ => ?_) (fun hb => absurd hb ((by decide)))
    refine ab_iload X 1 d_MO_step_73 rfl ?_
    refine ab_iconst (v := 2) X d_MO_step_75 (by decide) ?_
    refine ab_icmp_ne X 103 d_MO_step_76 rfl (fun _ => ?_) (fun hb => absurd hb ((by decide)))
    refine ab_iload X 1 d_MO_step_103 rfl ?_
    refine ab_iconst (v := 3) X d_MO_step_105 (by decide) ?_
    refine ab_icmp_eq X 115 d_MO_step_106 rfl (fun _ => ?_) (fun hb => absurd ((by decide)) hb)
    refine ab_iload X 1 d_MO_step_115 rfl ?_
    refine ab_iconst (v := 3) X d_MO_step_117 (by decide) ?_
    refine ab_icmp_ne X 125 d_MO_step_118 rfl (fun hb => absurd ((by decide)) hb) (fun _ => ?_)
    refine ab_iload_n X 4 d_MO_step_121 rfl rfl ?_
    refine ab_goto X 126 d_MO_step_122 rfl ?_
    refine ab_iload X 0 d_MO_step_126 rfl ?_
    refine ab_icmp_ge X 136 d_MO_step_128 rfl (fun hb => absurd hb ((Int32.not_le.mpr q1))) (fun _ => ?_)
    refine ab_aload_n X 2 d_MO_step_131 rfl rfl ?_
    refine ab_iconst (v := 1) X d_MO_step_132 (by decide) ?_
    refine ab_putI X fp_MO_132 d_MO_step_133 (by first | assumption | decide | (show _ < 124; omega) | (show _ < 61; omega) | (show _ < 20; omega)) rfl rfl ?_
    refine ab_gen (fun u133 e133 => ?_)
    have P133 : gP [35, 37, 40, 118, 119] u u133 := by rw [e133]; exact P0.ui rfl (by decide)
    have c133 : rM u133 st sd := by rw [e133]; exact C.ui (by decide)
    refine ab_aload_n X 2 d_MO_step_136 rfl rfl ?_
    refine ab_iconst (v := 1) X d_MO_step_137 (by decide) ?_
    refine ab_callV (as := [ab_I (nI 1)]) X (fun h => by cases h) (z_MO_putOn u133 1 st sd P133.1 c133 (by decide) (by omega)) lk_MO_301 d_MO_step_138 rfl rfl (by first | assumption | decide | (show _ < 124; omega) | (show _ < 61; omega) | (show _ < 20; omega)) ⟨by first | exact Nat.le_of_ble_eq_true rfl | (simp only [ab_rm]; omega), by first | exact Nat.le_of_ble_eq_true rfl | (simp only [ab_rm]; omega)⟩ ⟨by first | exact Nat.le_of_ble_eq_true rfl | (simp only [ab_rm]; omega), by first | exact Nat.le_of_ble_eq_true rfl | (simp only [ab_rm]; omega)⟩ (Nat.le_of_ble_eq_true rfl) (fun u138 r138 h138 => ?_)
    obtain ⟨⟨z138, c138, g138⟩, rfl⟩ := h138
    have q138 := z138
    have P138 := P133.trans q138 (by decide)
    refine ab_goto X 440 d_MO_step_141 rfl ?_
    refine ab_iload_n X 3 d_MO_step_440 rfl rfl ?_
    refine ab_iconst (v := 1) X d_MO_step_441 (by decide) ?_
    refine ab_iadd X d_MO_step_442 ?_
    refine ab_top (nI_1 _) ?_
    exact ab_reti X hr0 hlk d_MO_step_443 (sR.no P138 (show stp hh aa x r st sd = none by simp [stp, hx, q1]) (g138.trans (by rw [e133]; exact ui_s _)))
  ·
    refine ab_aload_n X 0 d_MO_step_0 rfl rfl ?_
    refine ab_gR X fl_MO_57 d_MO_step_1 (by first | assumption | decide | (show _ < 124; omega) | (show _ < 61; omega) | (show _ < 20; omega)) (P0.1.mo15) ?_
    refine ab_iload_n X 1 d_MO_step_4 rfl rfl ?_
    refine ab_iald X (i) ⟨rfl, rfl⟩ d_MO_step_5 (by first | assumption | decide | (show _ < 124; omega) | (show _ < 61; omega) | (show _ < 20; omega)) (rfl) (show i < 7200 by omega) (ab_ln_lt _ _) ?_
    refine ab_top ex ?_
    refine ab_sipush (v := 1000) X d_MO_step_6 (by decide) ?_
    refine ab_idiv X d_MO_step_9 (by decide) ?_
    refine ab_top ((div_nI bx).trans (congrArg nI hx)) ?_
    refine ab_istore4 X 0 1 2 3 d_MO_step_10 (by decide) rfl rfl rfl rfl rfl rfl rfl rfl ?_
    refine ab_aload_n X 1 d_MO_step_12 rfl rfl ?_
    refine ab_gR X fl_MO_57 d_MO_step_13 (by first | assumption | decide | (show _ < 124; omega) | (show _ < 61; omega) | (show _ < 20; omega)) (P0.1.mo15) ?_
    refine ab_iload_n X 2 d_MO_step_16 rfl rfl ?_
    refine ab_iald X (i) ⟨rfl, rfl⟩ d_MO_step_17 (by first | assumption | decide | (show _ < 124; omega) | (show _ < 61; omega) | (show _ < 20; omega)) (rfl) (show i < 7200 by omega) (ab_ln_lt _ _) ?_
    refine ab_top ex ?_
    refine ab_sipush (v := 1000) X d_MO_step_18 (by decide) ?_
    refine ab_irem X d_MO_step_21 (by decide) ?_
    refine ab_top (rem_nI bx) ?_
    refine ab_istore5 X 0 1 2 3 4 d_MO_step_22 (by decide) rfl rfl rfl rfl rfl rfl rfl rfl rfl rfl ?_
    refine ab_iload X 1 d_MO_step_24 rfl ?_
    refine ab_iconst (v := 1) X d_MO_step_26 (by decide) ?_
    refine ab_icmp_ne X 73 d_MO_step_27 rfl (fun _ => ?_) (fun hb => absurd hb ((by decide)))
    refine ab_iload X 1 d_MO_step_73 rfl ?_
    refine ab_iconst (v := 2) X d_MO_step_75 (by decide) ?_
    refine ab_icmp_ne X 103 d_MO_step_76 rfl (fun _ => ?_) (fun hb => absurd hb ((by decide)))
    refine ab_iload X 1 d_MO_step_103 rfl ?_
    refine ab_iconst (v := 3) X d_MO_step_105 (by decide) ?_
    refine ab_icmp_eq X 115 d_MO_step_106 rfl (fun _ => ?_) (fun hb => absurd ((by decide)) hb)
    refine ab_iload X 1 d_MO_step_115 rfl ?_
    refine ab_iconst (v := 3) X d_MO_step_117 (by decide) ?_
    refine ab_icmp_ne X 125 d_MO_step_118 rfl (fun hb => absurd ((by decide)) hb) (fun _ => ?_)
    refine ab_iload_n X 4 d_MO_step_121 rfl rfl ?_
    refine ab_goto X 126 d_MO_step_122 rfl ?_
    refine ab_iload X 0 d_MO_step_126 rfl ?_
    refine ab_icmp_ge X 136 d_MO_step_128 rfl (fun _ => ?_) (fun hb => absurd ((Int32.not_lt.mp q1)) hb)
    refine ab_aload_n X 2 d_MO_step_136 rfl rfl ?_
    refine ab_iconst (v := 1) X d_MO_step_137 (by decide) ?_
    refine ab_callV (as := [ab_I (nI 1)]) X (fun h => by cases h) (z_MO_putOn u 1 st sd P0.1 C (by decide) (by omega)) lk_MO_301 d_MO_step_138 rfl rfl (by first | assumption | decide | (show _ < 124; omega) | (show _ < 61; omega) | (show _ < 20; omega)) ⟨by first | exact Nat.le_of_ble_eq_true rfl | (simp only [ab_rm]; omega), by first | exact Nat.le_of_ble_eq_true rfl | (simp only [ab_rm]; omega)⟩ ⟨by first | exact Nat.le_of_ble_eq_true rfl | (simp only [ab_rm]; omega), by first | exact Nat.le_of_ble_eq_true rfl | (simp only [ab_rm]; omega)⟩ (Nat.le_of_ble_eq_true rfl) (fun u138 r138 h138 => ?_)
    obtain ⟨⟨z138, c138, g138⟩, rfl⟩ := h138
    have q138 := z138
    have P138 := P0.trans q138 (by decide)
    refine ab_goto X 440 d_MO_step_141 rfl ?_
    refine ab_iload_n X 3 d_MO_step_440 rfl rfl ?_
    refine ab_iconst (v := 1) X d_MO_step_441 (by decide) ?_
    refine ab_iadd X d_MO_step_442 ?_
    refine ab_top (nI_1 _) ?_
    exact ab_reti X hr0 hlk d_MO_step_443 (sR.yes P138 (show stp hh aa x r st sd = some (r, 1 :: st, sd) by simp [stp, hx, q1]) (g138.trans e6) (c138))
set_option maxRecDepth 100000 in
set_option maxHeartbeats 1000000 in
theorem z_MO_st4 (u : ab_S) (st sd : List Nat) (h : mR u.2.1) (C : rM u st sd) (hh aa : Int32) (x i : Nat) (r : List Nat) (hL : st.length < 127) (hS : sd.length < 63) (ex : u.1 18 9 i = nI x) (bx : x < 20000) (e6 : u.1 17 0 40 = 0) (Wr : wR u i r) (G : gd x r st) (hx : x / 1000 = 4) : ab_C false l D ca y_MO_step b_MO_step 7 (some FieldType.int) 3 ab_nQ u [ab_O 17 0, ab_I (nI i), ab_I hh, ab_I aa] (fun u' w => sR hh aa x r st sd i u u' w) := by
  refine ab_C.of (by decide) (Nat.le_of_ble_eq_true rfl) ?_
  intro p e s m args below meth c ad X hZ hr0 hlk
  have P0 : gP [35, 37, 40, 118, 119] u u := gP.rf h
  have hi := Wr.1
  by_cases q1 : aa < nI (x % 1000)
  ·
    refine ab_aload_n X 0 d_MO_step_0 rfl rfl ?_
    refine ab_gR X fl_MO_57 d_MO_step_1 (by first | assumption | decide | (show _ < 124; omega) | (show _ < 61; omega) | (show _ < 20; omega)) (P0.1.mo15) ?_
    refine ab_iload_n X 1 d_MO_step_4 rfl rfl ?_
    refine ab_iald X (i) ⟨rfl, rfl⟩ d_MO_step_5 (by first | assumption | decide | (show _ < 124; omega) | (show _ < 61; omega) | (show _ < 20; omega)) (rfl) (show i < 7200 by omega) (ab_ln_lt _ _) ?_
    refine ab_top ex ?_
    refine ab_sipush (v := 1000) X d_MO_step_6 (by decide) ?_
    refine ab_idiv X d_MO_step_9 (by decide) ?_
    refine ab_top ((div_nI bx).trans (congrArg nI hx)) ?_
    refine ab_istore4 X 0 1 2 3 d_MO_step_10 (by decide) rfl rfl rfl rfl rfl rfl rfl rfl ?_
    refine ab_aload_n X 1 d_MO_step_12 rfl rfl ?_
    refine ab_gR X fl_MO_57 d_MO_step_13 (by first | assumption | decide | (show _ < 124; omega) | (show _ < 61; omega) | (show _ < 20; omega)) (P0.1.mo15) ?_
    refine ab_iload_n X 2 d_MO_step_16 rfl rfl ?_
    refine ab_iald X (i) ⟨rfl, rfl⟩ d_MO_step_17 (by first | assumption | decide | (show _ < 124; omega) | (show _ < 61; omega) | (show _ < 20; omega)) (rfl) (show i < 7200 by omega) (ab_ln_lt _ _) ?_
    refine ab_top ex ?_
    refine ab_sipush (v := 1000) X d_MO_step_18 (by decide) ?_
    refine ab_irem X d_MO_step_21 (by decide) ?_
    refine ab_top (rem_nI bx) ?_
    refine ab_istore5 X 0 1 2 3 4 d_MO_step_22 (by decide) rfl rfl rfl rfl rfl rfl rfl rfl rfl rfl ?_
    refine ab_iload X 1 d_MO_step_24 rfl ?_
    refine ab_iconst (v := 1) X d_MO_step_26 (by decide) ?_
    refine ab_icmp_ne X 73 d_MO_step_27 rfl (fun _ => ?_) (fun hb => absurd hb ((by decide)))
    refine ab_iload X 1 d_MO_step_73 rfl ?_
    refine ab_iconst (v := 2) X d_MO_step_75 (by decide) ?_
    refine ab_icmp_ne X 103 d_MO_step_76 rfl (fun _ => ?_) (fun hb => absurd hb ((by decide)))
    refine ab_iload X 1 d_MO_step_103 rfl ?_
    refine ab_iconst (v := 3) X d_MO_step_105 (by decide) ?_
    refine ab_icmp_eq X 115 d_MO_step_106 rfl (fun hb => absurd hb ((by decide))) (fun _ => ?_)
    refine ab_iload X 1 d_MO_step_109 rfl ?_
    refine ab_iconst (v := 4) X d_MO_step_111 (by decide) ?_
    refine ab_icmp_ne X 144 d_MO_step_112 rfl (fun hb => absurd ((by decide)) hb) (fun _ => ?_)
    refine ab_iload X 1 d_MO_step_115 rfl ?_
    refine ab_iconst (v := 3) X d_MO_step_117 (by decide) ?_
    refine ab_icmp_ne X 125 d_MO_step_118 rfl (fun _ => ?_) (fun hb => absurd hb ((by decide)))
    refine ab_iload_n X 5 d_MO_step_125 rfl rfl ?_
    refine ab_iload X 0 d_MO_step_126 rfl ?_
    refine ab_icmp_ge X 136 d_MO_step_128 rfl (fun hb => absurd hb ((Int32.not_le.mpr q1))) (fun _ => ?_)
    refine ab_aload_n X 2 d_MO_step_131 rfl rfl ?_
    refine ab_iconst (v := 1) X d_MO_step_132 (by decide) ?_
    refine ab_putI X fp_MO_132 d_MO_step_133 (by first | assumption | decide | (show _ < 124; omega) | (show _ < 61; omega) | (show _ < 20; omega)) rfl rfl ?_
    refine ab_gen (fun u133 e133 => ?_)
    have P133 : gP [35, 37, 40, 118, 119] u u133 := by rw [e133]; exact P0.ui rfl (by decide)
    have c133 : rM u133 st sd := by rw [e133]; exact C.ui (by decide)
    refine ab_aload_n X 2 d_MO_step_136 rfl rfl ?_
    refine ab_iconst (v := 1) X d_MO_step_137 (by decide) ?_
    refine ab_callV (as := [ab_I (nI 1)]) X (fun h => by cases h) (z_MO_putOn u133 1 st sd P133.1 c133 (by decide) (by omega)) lk_MO_301 d_MO_step_138 rfl rfl (by first | assumption | decide | (show _ < 124; omega) | (show _ < 61; omega) | (show _ < 20; omega)) ⟨by first | exact Nat.le_of_ble_eq_true rfl | (simp only [ab_rm]; omega), by first | exact Nat.le_of_ble_eq_true rfl | (simp only [ab_rm]; omega)⟩ ⟨by first | exact Nat.le_of_ble_eq_true rfl | (simp only [ab_rm]; omega), by first | exact Nat.le_of_ble_eq_true rfl | (simp only [ab_rm]; omega)⟩ (Nat.le_of_ble_eq_true rfl) (fun u138 r138 h138 => ?_)
    obtain ⟨⟨z138, c138, g138⟩, rfl⟩ := h138
    have q138 := z138
    have P138 := P133.trans q138 (by decide)
    refine ab_goto X 440 d_MO_step_141 rfl ?_
    refine ab_iload_n X 3 d_MO_step_440 rfl rfl ?_
    refine ab_iconst (v := 1) X d_MO_step_441 (by decide) ?_
    refine ab_iadd X d_MO_step_442 ?_
    refine ab_top (nI_1 _) ?_
    exact ab_reti X hr0 hlk d_MO_step_443 (sR.no P138 (show stp hh aa x r st sd = none by simp [stp, hx, q1]) (g138.trans (by rw [e133]; exact ui_s _)))
  ·
    refine ab_aload_n X 0 d_MO_step_0 rfl rfl ?_
    refine ab_gR X fl_MO_57 d_MO_step_1 (by first | assumption | decide | (show _ < 124; omega) | (show _ < 61; omega) | (show _ < 20; omega)) (P0.1.mo15) ?_
    refine ab_iload_n X 1 d_MO_step_4 rfl rfl ?_
    refine ab_iald X (i) ⟨rfl, rfl⟩ d_MO_step_5 (by first | assumption | decide | (show _ < 124; omega) | (show _ < 61; omega) | (show _ < 20; omega)) (rfl) (show i < 7200 by omega) (ab_ln_lt _ _) ?_
    refine ab_top ex ?_
    refine ab_sipush (v := 1000) X d_MO_step_6 (by decide) ?_
    refine ab_idiv X d_MO_step_9 (by decide) ?_
    refine ab_top ((div_nI bx).trans (congrArg nI hx)) ?_
    refine ab_istore4 X 0 1 2 3 d_MO_step_10 (by decide) rfl rfl rfl rfl rfl rfl rfl rfl ?_
    refine ab_aload_n X 1 d_MO_step_12 rfl rfl ?_
    refine ab_gR X fl_MO_57 d_MO_step_13 (by first | assumption | decide | (show _ < 124; omega) | (show _ < 61; omega) | (show _ < 20; omega)) (P0.1.mo15) ?_
    refine ab_iload_n X 2 d_MO_step_16 rfl rfl ?_
    refine ab_iald X (i) ⟨rfl, rfl⟩ d_MO_step_17 (by first | assumption | decide | (show _ < 124; omega) | (show _ < 61; omega) | (show _ < 20; omega)) (rfl) (show i < 7200 by omega) (ab_ln_lt _ _) ?_
    refine ab_top ex ?_
    refine ab_sipush (v := 1000) X d_MO_step_18 (by decide) ?_
    refine ab_irem X d_MO_step_21 (by decide) ?_
    refine ab_top (rem_nI bx) ?_
    refine ab_istore5 X 0 1 2 3 4 d_MO_step_22 (by decide) rfl rfl rfl rfl rfl rfl rfl rfl rfl rfl ?_
    refine ab_iload X 1 d_MO_step_24 rfl ?_
    refine ab_iconst (v := 1) X d_MO_step_26 (by decide) ?_
    refine ab_icmp_ne X 73 d_MO_step_27 rfl (fun _ => ?_) (fun hb => absurd hb ((by decide)))
    refine ab_iload X 1 d_MO_step_73 rfl ?_
    refine ab_iconst (v := 2) X d_MO_step_75 (by decide) ?_
    refine ab_icmp_ne X 103 d_MO_step_76 rfl (fun _ => ?_) (fun hb => absurd hb ((by decide)))
    refine ab_iload X 1 d_MO_step_103 rfl ?_
    refine ab_iconst (v := 3) X d_MO_step_105 (by decide) ?_
    refine ab_icmp_eq X 115 d_MO_step_106 rfl (fun hb => absurd hb ((by decide))) (fun _ => ?_)
    refine ab_iload X 1 d_MO_step_109 rfl ?_
    refine ab_iconst (v := 4) X d_MO_step_111 (by decide) ?_
    refine ab_icmp_ne X 144 d_MO_step_112 rfl (fun hb => absurd ((by decide)) hb) (fun _ => ?_)
    refine ab_iload X 1 d_MO_step_115 rfl ?_
    refine ab_iconst (v := 3) X d_MO_step_117 (by decide) ?_
    refine ab_icmp_ne X 125 d_MO_step_118 rfl (fun _ => ?_) (fun hb => absurd hb ((by decide)))
    refine ab_iload_n X 5 d_MO_step_125 rfl rfl ?_
    refine ab_iload X 0 d_MO_step_126 rfl ?_
    refine ab_icmp_ge X 136 d_MO_step_128 rfl (fun _ => ?_) (fun hb => absurd ((Int32.not_lt.mp q1)) hb)
    refine ab_aload_n X 2 d_MO_step_136 rfl rfl ?_
    refine ab_iconst (v := 1) X d_MO_step_137 (by decide) ?_
    refine ab_callV (as := [ab_I (nI 1)]) X (fun h => by cases h) (z_MO_putOn u 1 st sd P0.1 C (by decide) (by omega)) lk_MO_301 d_MO_step_138 rfl rfl (by first | assumption | decide | (show _ < 124; omega) | (show _ < 61; omega) | (show _ < 20; omega)) ⟨by first | exact Nat.le_of_ble_eq_true rfl | (simp only [ab_rm]; omega), by first | exact Nat.le_of_ble_eq_true rfl | (simp only [ab_rm]; omega)⟩ ⟨by first | exact Nat.le_of_ble_eq_true rfl | (simp only [ab_rm]; omega), by first | exact Nat.le_of_ble_eq_true rfl | (simp only [ab_rm]; omega)⟩ (Nat.le_of_ble_eq_true rfl) (fun u138 r138 h138 => ?_)
    obtain ⟨⟨z138, c138, g138⟩, rfl⟩ := h138
    have q138 := z138
    have P138 := P0.trans q138 (by decide)
    refine ab_goto X 440 d_MO_step_141 rfl ?_
    refine ab_iload_n X 3 d_MO_step_440 rfl rfl ?_
    refine ab_iconst (v := 1) X d_MO_step_441 (by decide) ?_
    refine ab_iadd X d_MO_step_442 ?_
    refine ab_top (nI_1 _) ?_
    exact ab_reti X hr0 hlk d_MO_step_443 (sR.yes P138 (show stp hh aa x r st sd = some (r, 1 :: st, sd) by simp [stp, hx, q1]) (g138.trans e6) (c138))
set_option maxRecDepth 100000 in
set_option maxHeartbeats 1000000 in
theorem z_MO_st5 (u : ab_S) (st sd : List Nat) (h : mR u.2.1) (C : rM u st sd) (hh aa : Int32) (x i : Nat) (r : List Nat) (hL : st.length < 127) (hS : sd.length < 63) (ex : u.1 18 9 i = nI x) (bx : x < 20000) (e6 : u.1 17 0 40 = 0) (Wr : wR u i r) (G : gd x r st) (hx : x / 1000 = 5) : ab_C false l D ca y_MO_step b_MO_step 7 (some FieldType.int) 3 ab_nQ u [ab_O 17 0, ab_I (nI i), ab_I hh, ab_I aa] (fun u' w => sR hh aa x r st sd i u u' w) := by
  refine ab_C.of (by decide) (Nat.le_of_ble_eq_true rfl) ?_
  intro p e s m args below meth c ad X hZ hr0 hlk
  have P0 : gP [35, 37, 40, 118, 119] u u := gP.rf h
  have hi := Wr.1
  cases st with
  | nil =>
    refine ab_aload_n X 0 d_MO_step_0 rfl rfl ?_
    refine ab_gR X fl_MO_57 d_MO_step_1 (by first | assumption | decide | (show _ < 124; omega) | (show _ < 61; omega) | (show _ < 20; omega)) (P0.1.mo15) ?_
    refine ab_iload_n X 1 d_MO_step_4 rfl rfl ?_
    refine ab_iald X (i) ⟨rfl, rfl⟩ d_MO_step_5 (by first | assumption | decide | (show _ < 124; omega) | (show _ < 61; omega) | (show _ < 20; omega)) (rfl) (show i < 7200 by omega) (ab_ln_lt _ _) ?_
    refine ab_top ex ?_
    refine ab_sipush (v := 1000) X d_MO_step_6 (by decide) ?_
    refine ab_idiv X d_MO_step_9 (by decide) ?_
    refine ab_top ((div_nI bx).trans (congrArg nI hx)) ?_
    refine ab_istore4 X 0 1 2 3 d_MO_step_10 (by decide) rfl rfl rfl rfl rfl rfl rfl rfl ?_
    refine ab_aload_n X 1 d_MO_step_12 rfl rfl ?_
    refine ab_gR X fl_MO_57 d_MO_step_13 (by first | assumption | decide | (show _ < 124; omega) | (show _ < 61; omega) | (show _ < 20; omega)) (P0.1.mo15) ?_
    refine ab_iload_n X 2 d_MO_step_16 rfl rfl ?_
    refine ab_iald X (i) ⟨rfl, rfl⟩ d_MO_step_17 (by first | assumption | decide | (show _ < 124; omega) | (show _ < 61; omega) | (show _ < 20; omega)) (rfl) (show i < 7200 by omega) (ab_ln_lt _ _) ?_
    refine ab_top ex ?_
    refine ab_sipush (v := 1000) X d_MO_step_18 (by decide) ?_
    refine ab_irem X d_MO_step_21 (by decide) ?_
    refine ab_top (rem_nI bx) ?_
    refine ab_istore5 X 0 1 2 3 4 d_MO_step_22 (by decide) rfl rfl rfl rfl rfl rfl rfl rfl rfl rfl ?_
    refine ab_iload X 1 d_MO_step_24 rfl ?_
    refine ab_iconst (v := 1) X d_MO_step_26 (by decide) ?_
    refine ab_icmp_ne X 73 d_MO_step_27 rfl (fun _ => ?_) (fun hb => absurd hb ((by decide)))
    refine ab_iload X 1 d_MO_step_73 rfl ?_
    refine ab_iconst (v := 2) X d_MO_step_75 (by decide) ?_
    refine ab_icmp_ne X 103 d_MO_step_76 rfl (fun _ => ?_) (fun hb => absurd hb ((by decide)))
    refine ab_iload X 1 d_MO_step_103 rfl ?_
    refine ab_iconst (v := 3) X d_MO_step_105 (by decide) ?_
    refine ab_icmp_eq X 115 d_MO_step_106 rfl (fun hb => absurd hb ((by decide))) (fun _ => ?_)
    refine ab_iload X 1 d_MO_step_109 rfl ?_
    refine ab_iconst (v := 4) X d_MO_step_111 (by decide) ?_
    refine ab_icmp_ne X 144 d_MO_step_112 rfl (fun _ => ?_) (fun hb => absurd hb ((by decide)))
    refine ab_iload X 1 d_MO_step_144 rfl ?_
    refine ab_iconst (v := 5) X d_MO_step_146 (by decide) ?_
    refine ab_icmp_ne X 165 d_MO_step_147 rfl (fun hb => absurd ((by decide)) hb) (fun _ => ?_)
    refine ab_aload_n X 2 d_MO_step_150 rfl rfl ?_
    refine ab_callV (as := []) X (fun h => by cases h) (z_MO_takeNumber u [] sd h C (by decide)) lk_MO_298 d_MO_step_151 rfl rfl (by first | assumption | decide | (show _ < 124; omega) | (show _ < 61; omega) | (show _ < 20; omega)) ⟨by first | exact Nat.le_of_ble_eq_true rfl | (simp only [ab_rm]; omega), by first | exact Nat.le_of_ble_eq_true rfl | (simp only [ab_rm]; omega)⟩ ⟨by first | exact Nat.le_of_ble_eq_true rfl | (simp only [ab_rm]; omega), by first | exact Nat.le_of_ble_eq_true rfl | (simp only [ab_rm]; omega)⟩ (Nat.le_of_ble_eq_true rfl) (fun u151 r151 h151 => ?_)
    obtain ⟨⟨z151, c151, g151⟩, rfl⟩ := h151
    have q151 := z151
    have P151 := P0.trans q151 (by decide)
    refine ab_if_ne X 440 d_MO_step_154 rfl (fun hb => absurd ((show nI ([] : List Nat).length = 0 from rfl)) hb) (fun _ => ?_)
    refine ab_aload_n X 2 d_MO_step_157 rfl rfl ?_
    refine ab_iconst (v := 1) X d_MO_step_158 (by decide) ?_
    refine ab_putI X fp_MO_132 d_MO_step_159 (by first | assumption | decide | (show _ < 124; omega) | (show _ < 61; omega) | (show _ < 20; omega)) rfl rfl ?_
    refine ab_gen (fun u159 e159 => ?_)
    have P159 : gP [35, 37, 40, 118, 119] u u159 := by rw [e159]; exact P151.ui rfl (by decide)
    refine ab_goto X 440 d_MO_step_162 rfl ?_
    refine ab_iload_n X 3 d_MO_step_440 rfl rfl ?_
    refine ab_iconst (v := 1) X d_MO_step_441 (by decide) ?_
    refine ab_iadd X d_MO_step_442 ?_
    refine ab_top (nI_1 _) ?_
    exact ab_reti X hr0 hlk d_MO_step_443 (sR.no P159 (show stp hh aa x r [] sd = none by simp [stp, hx]) (by rw [e159]; exact ui_s _))
  | cons w t =>
    have hL : t.length + 1 < 127 := hL
    have hd : w < 2000 := C.1.2.1.2
    by_cases q0 : w = 0
    ·
      refine ab_aload_n X 0 d_MO_step_0 rfl rfl ?_
      refine ab_gR X fl_MO_57 d_MO_step_1 (by first | assumption | decide | (show _ < 124; omega) | (show _ < 61; omega) | (show _ < 20; omega)) (P0.1.mo15) ?_
      refine ab_iload_n X 1 d_MO_step_4 rfl rfl ?_
      refine ab_iald X (i) ⟨rfl, rfl⟩ d_MO_step_5 (by first | assumption | decide | (show _ < 124; omega) | (show _ < 61; omega) | (show _ < 20; omega)) (rfl) (show i < 7200 by omega) (ab_ln_lt _ _) ?_
      refine ab_top ex ?_
      refine ab_sipush (v := 1000) X d_MO_step_6 (by decide) ?_
      refine ab_idiv X d_MO_step_9 (by decide) ?_
      refine ab_top ((div_nI bx).trans (congrArg nI hx)) ?_
      refine ab_istore4 X 0 1 2 3 d_MO_step_10 (by decide) rfl rfl rfl rfl rfl rfl rfl rfl ?_
      refine ab_aload_n X 1 d_MO_step_12 rfl rfl ?_
      refine ab_gR X fl_MO_57 d_MO_step_13 (by first | assumption | decide | (show _ < 124; omega) | (show _ < 61; omega) | (show _ < 20; omega)) (P0.1.mo15) ?_
      refine ab_iload_n X 2 d_MO_step_16 rfl rfl ?_
      refine ab_iald X (i) ⟨rfl, rfl⟩ d_MO_step_17 (by first | assumption | decide | (show _ < 124; omega) | (show _ < 61; omega) | (show _ < 20; omega)) (rfl) (show i < 7200 by omega) (ab_ln_lt _ _) ?_
      refine ab_top ex ?_
      refine ab_sipush (v := 1000) X d_MO_step_18 (by decide) ?_
      refine ab_irem X d_MO_step_21 (by decide) ?_
      refine ab_top (rem_nI bx) ?_
      refine ab_istore5 X 0 1 2 3 4 d_MO_step_22 (by decide) rfl rfl rfl rfl rfl rfl rfl rfl rfl rfl ?_
      refine ab_iload X 1 d_MO_step_24 rfl ?_
      refine ab_iconst (v := 1) X d_MO_step_26 (by decide) ?_
      refine ab_icmp_ne X 73 d_MO_step_27 rfl (fun _ => ?_) (fun hb => absurd hb ((by decide)))
      refine ab_iload X 1 d_MO_step_73 rfl ?_
      refine ab_iconst (v := 2) X d_MO_step_75 (by decide) ?_
      refine ab_icmp_ne X 103 d_MO_step_76 rfl (fun _ => ?_) (fun hb => absurd hb ((by decide)))
      refine ab_iload X 1 d_MO_step_103 rfl ?_
      refine ab_iconst (v := 3) X d_MO_step_105 (by decide) ?_
      refine ab_icmp_eq X 115 d_MO_step_106 rfl (fun hb => absurd hb ((by decide))) (fun _ => ?_)
      refine ab_iload X 1 d_MO_step_109 rfl ?_
      refine ab_iconst (v := 4) X d_MO_step_111 (by decide) ?_
      refine ab_icmp_ne X 144 d_MO_step_112 rfl (fun _ => ?_) (fun hb => absurd hb ((by decide)))
      refine ab_iload X 1 d_MO_step_144 rfl ?_
      refine ab_iconst (v := 5) X d_MO_step_146 (by decide) ?_
      refine ab_icmp_ne X 165 d_MO_step_147 rfl (fun hb => absurd ((by decide)) hb) (fun _ => ?_)
      refine ab_aload_n X 2 d_MO_step_150 rfl rfl ?_
      refine ab_callV (as := []) X (fun h => by cases h) (z_MO_takeNumber u (w :: t) sd h C (by show t.length + 1 ≤ 128; omega)) lk_MO_298 d_MO_step_151 rfl rfl (by first | assumption | decide | (show _ < 124; omega) | (show _ < 61; omega) | (show _ < 20; omega)) ⟨by first | exact Nat.le_of_ble_eq_true rfl | (simp only [ab_rm]; omega), by first | exact Nat.le_of_ble_eq_true rfl | (simp only [ab_rm]; omega)⟩ ⟨by first | exact Nat.le_of_ble_eq_true rfl | (simp only [ab_rm]; omega), by first | exact Nat.le_of_ble_eq_true rfl | (simp only [ab_rm]; omega)⟩ (Nat.le_of_ble_eq_true rfl) (fun u151 r151 h151 => ?_)
      obtain ⟨⟨z151, c151, g151⟩, rfl⟩ := h151
      have q151 := z151
      have P151 := P0.trans q151 (by decide)
      refine ab_if_ne X 440 d_MO_step_154 rfl (fun hb => absurd ((congrArg nI q0)) hb) (fun _ => ?_)
      refine ab_aload_n X 2 d_MO_step_157 rfl rfl ?_
      refine ab_iconst (v := 1) X d_MO_step_158 (by decide) ?_
      refine ab_putI X fp_MO_132 d_MO_step_159 (by first | assumption | decide | (show _ < 124; omega) | (show _ < 61; omega) | (show _ < 20; omega)) rfl rfl ?_
      refine ab_gen (fun u159 e159 => ?_)
      have P159 : gP [35, 37, 40, 118, 119] u u159 := by rw [e159]; exact P151.ui rfl (by decide)
      refine ab_goto X 440 d_MO_step_162 rfl ?_
      refine ab_iload_n X 3 d_MO_step_440 rfl rfl ?_
      refine ab_iconst (v := 1) X d_MO_step_441 (by decide) ?_
      refine ab_iadd X d_MO_step_442 ?_
      refine ab_top (nI_1 _) ?_
      exact ab_reti X hr0 hlk d_MO_step_443 (sR.no P159 (show stp hh aa x r (w :: t) sd = none by simp [stp, hx, q0]) (by rw [e159]; exact ui_s _))
    · by_cases q9 : 9 < w
      ·
        refine ab_aload_n X 0 d_MO_step_0 rfl rfl ?_
        refine ab_gR X fl_MO_57 d_MO_step_1 (by first | assumption | decide | (show _ < 124; omega) | (show _ < 61; omega) | (show _ < 20; omega)) (P0.1.mo15) ?_
        refine ab_iload_n X 1 d_MO_step_4 rfl rfl ?_
        refine ab_iald X (i) ⟨rfl, rfl⟩ d_MO_step_5 (by first | assumption | decide | (show _ < 124; omega) | (show _ < 61; omega) | (show _ < 20; omega)) (rfl) (show i < 7200 by omega) (ab_ln_lt _ _) ?_
        refine ab_top ex ?_
        refine ab_sipush (v := 1000) X d_MO_step_6 (by decide) ?_
        refine ab_idiv X d_MO_step_9 (by decide) ?_
        refine ab_top ((div_nI bx).trans (congrArg nI hx)) ?_
        refine ab_istore4 X 0 1 2 3 d_MO_step_10 (by decide) rfl rfl rfl rfl rfl rfl rfl rfl ?_
        refine ab_aload_n X 1 d_MO_step_12 rfl rfl ?_
        refine ab_gR X fl_MO_57 d_MO_step_13 (by first | assumption | decide | (show _ < 124; omega) | (show _ < 61; omega) | (show _ < 20; omega)) (P0.1.mo15) ?_
        refine ab_iload_n X 2 d_MO_step_16 rfl rfl ?_
        refine ab_iald X (i) ⟨rfl, rfl⟩ d_MO_step_17 (by first | assumption | decide | (show _ < 124; omega) | (show _ < 61; omega) | (show _ < 20; omega)) (rfl) (show i < 7200 by omega) (ab_ln_lt _ _) ?_
        refine ab_top ex ?_
        refine ab_sipush (v := 1000) X d_MO_step_18 (by decide) ?_
        refine ab_irem X d_MO_step_21 (by decide) ?_
        refine ab_top (rem_nI bx) ?_
        refine ab_istore5 X 0 1 2 3 4 d_MO_step_22 (by decide) rfl rfl rfl rfl rfl rfl rfl rfl rfl rfl ?_
        refine ab_iload X 1 d_MO_step_24 rfl ?_
        refine ab_iconst (v := 1) X d_MO_step_26 (by decide) ?_
        refine ab_icmp_ne X 73 d_MO_step_27 rfl (fun _ => ?_) (fun hb => absurd hb ((by decide)))
        refine ab_iload X 1 d_MO_step_73 rfl ?_
        refine ab_iconst (v := 2) X d_MO_step_75 (by decide) ?_
        refine ab_icmp_ne X 103 d_MO_step_76 rfl (fun _ => ?_) (fun hb => absurd hb ((by decide)))
        refine ab_iload X 1 d_MO_step_103 rfl ?_
        refine ab_iconst (v := 3) X d_MO_step_105 (by decide) ?_
        refine ab_icmp_eq X 115 d_MO_step_106 rfl (fun hb => absurd hb ((by decide))) (fun _ => ?_)
        refine ab_iload X 1 d_MO_step_109 rfl ?_
        refine ab_iconst (v := 4) X d_MO_step_111 (by decide) ?_
        refine ab_icmp_ne X 144 d_MO_step_112 rfl (fun _ => ?_) (fun hb => absurd hb ((by decide)))
        refine ab_iload X 1 d_MO_step_144 rfl ?_
        refine ab_iconst (v := 5) X d_MO_step_146 (by decide) ?_
        refine ab_icmp_ne X 165 d_MO_step_147 rfl (fun hb => absurd ((by decide)) hb) (fun _ => ?_)
        refine ab_aload_n X 2 d_MO_step_150 rfl rfl ?_
        refine ab_callV (as := []) X (fun h => by cases h) (z_MO_takeNumber u (w :: t) sd h C (by show t.length + 1 ≤ 128; omega)) lk_MO_298 d_MO_step_151 rfl rfl (by first | assumption | decide | (show _ < 124; omega) | (show _ < 61; omega) | (show _ < 20; omega)) ⟨by first | exact Nat.le_of_ble_eq_true rfl | (simp only [ab_rm]; omega), by first | exact Nat.le_of_ble_eq_true rfl | (simp only [ab_rm]; omega)⟩ ⟨by first | exact Nat.le_of_ble_eq_true rfl | (simp only [ab_rm]; omega), by first | exact Nat.le_of_ble_eq_true rfl | (simp only [ab_rm]; omega)⟩ (Nat.le_of_ble_eq_true rfl) (fun u151 r151 h151 => ?_)
        obtain ⟨⟨z151, c151, g151⟩, rfl⟩ := h151
        have q151 := z151
        have P151 := P0.trans q151 (by decide)
        refine ab_if_ne X 440 d_MO_step_154 rfl (fun _ => ?_) (fun hb => absurd hb ((nI_n0 (n := w) (by omega) q0)))
        refine ab_iload_n X 3 d_MO_step_440 rfl rfl ?_
        refine ab_iconst (v := 1) X d_MO_step_441 (by decide) ?_
        refine ab_iadd X d_MO_step_442 ?_
        refine ab_top (nI_1 _) ?_
        exact ab_reti X hr0 hlk d_MO_step_443 (sR.no P151 (show stp hh aa x r (w :: t) sd = none by simp [stp, hx, q9]) (g151.trans (tn_y q9)))
      · have q8 : w ≤ 9 := by omega
        refine ab_aload_n X 0 d_MO_step_0 rfl rfl ?_
        refine ab_gR X fl_MO_57 d_MO_step_1 (by first | assumption | decide | (show _ < 124; omega) | (show _ < 61; omega) | (show _ < 20; omega)) (P0.1.mo15) ?_
        refine ab_iload_n X 1 d_MO_step_4 rfl rfl ?_
        refine ab_iald X (i) ⟨rfl, rfl⟩ d_MO_step_5 (by first | assumption | decide | (show _ < 124; omega) | (show _ < 61; omega) | (show _ < 20; omega)) (rfl) (show i < 7200 by omega) (ab_ln_lt _ _) ?_
        refine ab_top ex ?_
        refine ab_sipush (v := 1000) X d_MO_step_6 (by decide) ?_
        refine ab_idiv X d_MO_step_9 (by decide) ?_
        refine ab_top ((div_nI bx).trans (congrArg nI hx)) ?_
        refine ab_istore4 X 0 1 2 3 d_MO_step_10 (by decide) rfl rfl rfl rfl rfl rfl rfl rfl ?_
        refine ab_aload_n X 1 d_MO_step_12 rfl rfl ?_
        refine ab_gR X fl_MO_57 d_MO_step_13 (by first | assumption | decide | (show _ < 124; omega) | (show _ < 61; omega) | (show _ < 20; omega)) (P0.1.mo15) ?_
        refine ab_iload_n X 2 d_MO_step_16 rfl rfl ?_
        refine ab_iald X (i) ⟨rfl, rfl⟩ d_MO_step_17 (by first | assumption | decide | (show _ < 124; omega) | (show _ < 61; omega) | (show _ < 20; omega)) (rfl) (show i < 7200 by omega) (ab_ln_lt _ _) ?_
        refine ab_top ex ?_
        refine ab_sipush (v := 1000) X d_MO_step_18 (by decide) ?_
        refine ab_irem X d_MO_step_21 (by decide) ?_
        refine ab_top (rem_nI bx) ?_
        refine ab_istore5 X 0 1 2 3 4 d_MO_step_22 (by decide) rfl rfl rfl rfl rfl rfl rfl rfl rfl rfl ?_
        refine ab_iload X 1 d_MO_step_24 rfl ?_
        refine ab_iconst (v := 1) X d_MO_step_26 (by decide) ?_
        refine ab_icmp_ne X 73 d_MO_step_27 rfl (fun _ => ?_) (fun hb => absurd hb ((by decide)))
        refine ab_iload X 1 d_MO_step_73 rfl ?_
        refine ab_iconst (v := 2) X d_MO_step_75 (by decide) ?_
        refine ab_icmp_ne X 103 d_MO_step_76 rfl (fun _ => ?_) (fun hb => absurd hb ((by decide)))
        refine ab_iload X 1 d_MO_step_103 rfl ?_
        refine ab_iconst (v := 3) X d_MO_step_105 (by decide) ?_
        refine ab_icmp_eq X 115 d_MO_step_106 rfl (fun hb => absurd hb ((by decide))) (fun _ => ?_)
        refine ab_iload X 1 d_MO_step_109 rfl ?_
        refine ab_iconst (v := 4) X d_MO_step_111 (by decide) ?_
        refine ab_icmp_ne X 144 d_MO_step_112 rfl (fun _ => ?_) (fun hb => absurd hb ((by decide)))
        refine ab_iload X 1 d_MO_step_144 rfl ?_
        refine ab_iconst (v := 5) X d_MO_step_146 (by decide) ?_
        refine ab_icmp_ne X 165 d_MO_step_147 rfl (fun hb => absurd ((by decide)) hb) (fun _ => ?_)
        refine ab_aload_n X 2 d_MO_step_150 rfl rfl ?_
        refine ab_callV (as := []) X (fun h => by cases h) (z_MO_takeNumber u (w :: t) sd h C (by show t.length + 1 ≤ 128; omega)) lk_MO_298 d_MO_step_151 rfl rfl (by first | assumption | decide | (show _ < 124; omega) | (show _ < 61; omega) | (show _ < 20; omega)) ⟨by first | exact Nat.le_of_ble_eq_true rfl | (simp only [ab_rm]; omega), by first | exact Nat.le_of_ble_eq_true rfl | (simp only [ab_rm]; omega)⟩ ⟨by first | exact Nat.le_of_ble_eq_true rfl | (simp only [ab_rm]; omega), by first | exact Nat.le_of_ble_eq_true rfl | (simp only [ab_rm]; omega)⟩ (Nat.le_of_ble_eq_true rfl) (fun u151 r151 h151 => ?_)
        obtain ⟨⟨z151, c151, g151⟩, rfl⟩ := h151
        have q151 := z151
        have P151 := P0.trans q151 (by decide)
        refine ab_if_ne X 440 d_MO_step_154 rfl (fun _ => ?_) (fun hb => absurd hb ((nI_n0 (n := w) (by omega) q0)))
        refine ab_iload_n X 3 d_MO_step_440 rfl rfl ?_
        refine ab_iconst (v := 1) X d_MO_step_441 (by decide) ?_
        refine ab_iadd X d_MO_step_442 ?_
        refine ab_top (nI_1 _) ?_
        exact ab_reti X hr0 hlk d_MO_step_443 (sR.yes P151 (show stp hh aa x r (w :: t) sd = some (r, t, sd) by simp [stp, hx, q9, q0]) (g151.trans ((tn_n q8).trans e6)) (c151))
set_option maxRecDepth 100000 in
set_option maxHeartbeats 1000000 in
theorem z_MO_st6 (u : ab_S) (st sd : List Nat) (h : mR u.2.1) (C : rM u st sd) (hh aa : Int32) (x i : Nat) (r : List Nat) (hL : st.length < 127) (hS : sd.length < 63) (ex : u.1 18 9 i = nI x) (bx : x < 20000) (e6 : u.1 17 0 40 = 0) (Wr : wR u i r) (G : gd x r st) (hx : x / 1000 = 6) : ab_C false l D ca y_MO_step b_MO_step 7 (some FieldType.int) 3 ab_nQ u [ab_O 17 0, ab_I (nI i), ab_I hh, ab_I aa] (fun u' w => sR hh aa x r st sd i u u' w) := by
  refine ab_C.of (by decide) (Nat.le_of_ble_eq_true rfl) ?_
  intro p e s m args below meth c ad X hZ hr0 hlk
  have P0 : gP [35, 37, 40, 118, 119] u u := gP.rf h
  have hi := Wr.1
  have key : ∀ u2, gP [35, 37, 40, 118, 119] u u2 → ((u2.1 17 0 40 = 1 ∧ (st.length < 2 ∨ 9 < st.headD 0 ∨ 9 < st.tail.headD 0)) ∨ ∃ a b t, st = a :: b :: t ∧ a ≤ 9 ∧ b ≤ 9 ∧ u2.1 17 0 40 = 0 ∧ rM u2 (jnd 6 a b :: t) sd) → sR hh aa x r st sd i u u2 (some (ab_I (nI (i + 1)))) := by
    intro u2 P2 hk
    rcases hk with ⟨f2, why⟩ | ⟨a, b, t, rfl, a9, b9, f2, c2⟩
    · exact sR.no P2 (stp_j0 (by omega) why) f2
    · exact sR.yes P2 (by rw [stp_j (by omega) a9 b9, hx]) f2 c2
  refine ab_aload_n X 0 d_MO_step_0 rfl rfl ?_
  refine ab_gR X fl_MO_57 d_MO_step_1 (by first | assumption | decide | (show _ < 124; omega) | (show _ < 61; omega) | (show _ < 20; omega)) (P0.1.mo15) ?_
  refine ab_iload_n X 1 d_MO_step_4 rfl rfl ?_
  refine ab_iald X (i) ⟨rfl, rfl⟩ d_MO_step_5 (by first | assumption | decide | (show _ < 124; omega) | (show _ < 61; omega) | (show _ < 20; omega)) (rfl) (show i < 7200 by omega) (ab_ln_lt _ _) ?_
  refine ab_top ex ?_
  refine ab_sipush (v := 1000) X d_MO_step_6 (by decide) ?_
  refine ab_idiv X d_MO_step_9 (by decide) ?_
  refine ab_top ((div_nI bx).trans (congrArg nI hx)) ?_
  refine ab_istore4 X 0 1 2 3 d_MO_step_10 (by decide) rfl rfl rfl rfl rfl rfl rfl rfl ?_
  refine ab_aload_n X 1 d_MO_step_12 rfl rfl ?_
  refine ab_gR X fl_MO_57 d_MO_step_13 (by first | assumption | decide | (show _ < 124; omega) | (show _ < 61; omega) | (show _ < 20; omega)) (P0.1.mo15) ?_
  refine ab_iload_n X 2 d_MO_step_16 rfl rfl ?_
  refine ab_iald X (i) ⟨rfl, rfl⟩ d_MO_step_17 (by first | assumption | decide | (show _ < 124; omega) | (show _ < 61; omega) | (show _ < 20; omega)) (rfl) (show i < 7200 by omega) (ab_ln_lt _ _) ?_
  refine ab_top ex ?_
  refine ab_sipush (v := 1000) X d_MO_step_18 (by decide) ?_
  refine ab_irem X d_MO_step_21 (by decide) ?_
  refine ab_top (rem_nI bx) ?_
  refine ab_istore5 X 0 1 2 3 4 d_MO_step_22 (by decide) rfl rfl rfl rfl rfl rfl rfl rfl rfl rfl ?_
  refine ab_iload X 1 d_MO_step_24 rfl ?_
  refine ab_iconst (v := 1) X d_MO_step_26 (by decide) ?_
  refine ab_icmp_ne X 73 d_MO_step_27 rfl (fun _ => ?_) (fun hb => absurd hb ((by decide)))
  refine ab_iload X 1 d_MO_step_73 rfl ?_
  refine ab_iconst (v := 2) X d_MO_step_75 (by decide) ?_
  refine ab_icmp_ne X 103 d_MO_step_76 rfl (fun _ => ?_) (fun hb => absurd hb ((by decide)))
  refine ab_iload X 1 d_MO_step_103 rfl ?_
  refine ab_iconst (v := 3) X d_MO_step_105 (by decide) ?_
  refine ab_icmp_eq X 115 d_MO_step_106 rfl (fun hb => absurd hb ((by decide))) (fun _ => ?_)
  refine ab_iload X 1 d_MO_step_109 rfl ?_
  refine ab_iconst (v := 4) X d_MO_step_111 (by decide) ?_
  refine ab_icmp_ne X 144 d_MO_step_112 rfl (fun _ => ?_) (fun hb => absurd hb ((by decide)))
  refine ab_iload X 1 d_MO_step_144 rfl ?_
  refine ab_iconst (v := 5) X d_MO_step_146 (by decide) ?_
  refine ab_icmp_ne X 165 d_MO_step_147 rfl (fun _ => ?_) (fun hb => absurd hb ((by decide)))
  refine ab_iload X 1 d_MO_step_165 rfl ?_
  refine ab_bipush (v := 9) X d_MO_step_167 (by decide) ?_
  refine ab_icmp_ge X 181 d_MO_step_169 rfl (fun hb => absurd hb ((by decide))) (fun _ => ?_)
  refine ab_aload_n X 2 d_MO_step_172 rfl rfl ?_
  refine ab_iload X 1 d_MO_step_173 rfl ?_
  refine ab_callV (as := [ab_I (nI 6)]) X (fun h => by cases h) (z_MO_join6 u st sd h C hL e6) lk_MO_304 d_MO_step_175 rfl rfl (by first | assumption | decide | (show _ < 124; omega) | (show _ < 61; omega) | (show _ < 20; omega)) ⟨by first | exact Nat.le_of_ble_eq_true rfl | (simp only [ab_rm]; omega), by first | exact Nat.le_of_ble_eq_true rfl | (simp only [ab_rm]; omega)⟩ ⟨by first | exact Nat.le_of_ble_eq_true rfl | (simp only [ab_rm]; omega), by first | exact Nat.le_of_ble_eq_true rfl | (simp only [ab_rm]; omega)⟩ (Nat.le_of_ble_eq_true rfl) (fun u175 r175 h175 => ?_)
  obtain ⟨⟨q175, k175⟩, rfl⟩ := h175
  have P175 := P0.trans q175 (by decide)
  refine ab_goto X 440 d_MO_step_178 rfl ?_
  refine ab_iload_n X 3 d_MO_step_440 rfl rfl ?_
  refine ab_iconst (v := 1) X d_MO_step_441 (by decide) ?_
  refine ab_iadd X d_MO_step_442 ?_
  refine ab_top (nI_1 _) ?_
  exact ab_reti X hr0 hlk d_MO_step_443 (key _ q175 k175)
set_option maxRecDepth 100000 in
set_option maxHeartbeats 1000000 in
theorem z_MO_st7 (u : ab_S) (st sd : List Nat) (h : mR u.2.1) (C : rM u st sd) (hh aa : Int32) (x i : Nat) (r : List Nat) (hL : st.length < 127) (hS : sd.length < 63) (ex : u.1 18 9 i = nI x) (bx : x < 20000) (e6 : u.1 17 0 40 = 0) (Wr : wR u i r) (G : gd x r st) (hx : x / 1000 = 7) : ab_C false l D ca y_MO_step b_MO_step 7 (some FieldType.int) 3 ab_nQ u [ab_O 17 0, ab_I (nI i), ab_I hh, ab_I aa] (fun u' w => sR hh aa x r st sd i u u' w) := by
  refine ab_C.of (by decide) (Nat.le_of_ble_eq_true rfl) ?_
  intro p e s m args below meth c ad X hZ hr0 hlk
  have P0 : gP [35, 37, 40, 118, 119] u u := gP.rf h
  have hi := Wr.1
  have key : ∀ u2, gP [35, 37, 40, 118, 119] u u2 → ((u2.1 17 0 40 = 1 ∧ (st.length < 2 ∨ 9 < st.headD 0 ∨ 9 < st.tail.headD 0)) ∨ ∃ a b t, st = a :: b :: t ∧ a ≤ 9 ∧ b ≤ 9 ∧ u2.1 17 0 40 = 0 ∧ rM u2 (jnd 7 a b :: t) sd) → sR hh aa x r st sd i u u2 (some (ab_I (nI (i + 1)))) := by
    intro u2 P2 hk
    rcases hk with ⟨f2, why⟩ | ⟨a, b, t, rfl, a9, b9, f2, c2⟩
    · exact sR.no P2 (stp_j0 (by omega) why) f2
    · exact sR.yes P2 (by rw [stp_j (by omega) a9 b9, hx]) f2 c2
  refine ab_aload_n X 0 d_MO_step_0 rfl rfl ?_
  refine ab_gR X fl_MO_57 d_MO_step_1 (by first | assumption | decide | (show _ < 124; omega) | (show _ < 61; omega) | (show _ < 20; omega)) (P0.1.mo15) ?_
  refine ab_iload_n X 1 d_MO_step_4 rfl rfl ?_
  refine ab_iald X (i) ⟨rfl, rfl⟩ d_MO_step_5 (by first | assumption | decide | (show _ < 124; omega) | (show _ < 61; omega) | (show _ < 20; omega)) (rfl) (show i < 7200 by omega) (ab_ln_lt _ _) ?_
  refine ab_top ex ?_
  refine ab_sipush (v := 1000) X d_MO_step_6 (by decide) ?_
  refine ab_idiv X d_MO_step_9 (by decide) ?_
  refine ab_top ((div_nI bx).trans (congrArg nI hx)) ?_
  refine ab_istore4 X 0 1 2 3 d_MO_step_10 (by decide) rfl rfl rfl rfl rfl rfl rfl rfl ?_
  refine ab_aload_n X 1 d_MO_step_12 rfl rfl ?_
  refine ab_gR X fl_MO_57 d_MO_step_13 (by first | assumption | decide | (show _ < 124; omega) | (show _ < 61; omega) | (show _ < 20; omega)) (P0.1.mo15) ?_
  refine ab_iload_n X 2 d_MO_step_16 rfl rfl ?_
  refine ab_iald X (i) ⟨rfl, rfl⟩ d_MO_step_17 (by first | assumption | decide | (show _ < 124; omega) | (show _ < 61; omega) | (show _ < 20; omega)) (rfl) (show i < 7200 by omega) (ab_ln_lt _ _) ?_
  refine ab_top ex ?_
  refine ab_sipush (v := 1000) X d_MO_step_18 (by decide) ?_
  refine ab_irem X d_MO_step_21 (by decide) ?_
  refine ab_top (rem_nI bx) ?_
  refine ab_istore5 X 0 1 2 3 4 d_MO_step_22 (by decide) rfl rfl rfl rfl rfl rfl rfl rfl rfl rfl ?_
  refine ab_iload X 1 d_MO_step_24 rfl ?_
  refine ab_iconst (v := 1) X d_MO_step_26 (by decide) ?_
  refine ab_icmp_ne X 73 d_MO_step_27 rfl (fun _ => ?_) (fun hb => absurd hb ((by decide)))
  refine ab_iload X 1 d_MO_step_73 rfl ?_
  refine ab_iconst (v := 2) X d_MO_step_75 (by decide) ?_
  refine ab_icmp_ne X 103 d_MO_step_76 rfl (fun _ => ?_) (fun hb => absurd hb ((by decide)))
  refine ab_iload X 1 d_MO_step_103 rfl ?_
  refine ab_iconst (v := 3) X d_MO_step_105 (by decide) ?_
  refine ab_icmp_eq X 115 d_MO_step_106 rfl (fun hb => absurd hb ((by decide))) (fun _ => ?_)
  refine ab_iload X 1 d_MO_step_109 rfl ?_
  refine ab_iconst (v := 4) X d_MO_step_111 (by decide) ?_
  refine ab_icmp_ne X 144 d_MO_step_112 rfl (fun _ => ?_) (fun hb => absurd hb ((by decide)))
  refine ab_iload X 1 d_MO_step_144 rfl ?_
  refine ab_iconst (v := 5) X d_MO_step_146 (by decide) ?_
  refine ab_icmp_ne X 165 d_MO_step_147 rfl (fun _ => ?_) (fun hb => absurd hb ((by decide)))
  refine ab_iload X 1 d_MO_step_165 rfl ?_
  refine ab_bipush (v := 9) X d_MO_step_167 (by decide) ?_
  refine ab_icmp_ge X 181 d_MO_step_169 rfl (fun hb => absurd hb ((by decide))) (fun _ => ?_)
  refine ab_aload_n X 2 d_MO_step_172 rfl rfl ?_
  refine ab_iload X 1 d_MO_step_173 rfl ?_
  refine ab_callV (as := [ab_I (nI 7)]) X (fun h => by cases h) (z_MO_join7 u st sd h C hL e6) lk_MO_304 d_MO_step_175 rfl rfl (by first | assumption | decide | (show _ < 124; omega) | (show _ < 61; omega) | (show _ < 20; omega)) ⟨by first | exact Nat.le_of_ble_eq_true rfl | (simp only [ab_rm]; omega), by first | exact Nat.le_of_ble_eq_true rfl | (simp only [ab_rm]; omega)⟩ ⟨by first | exact Nat.le_of_ble_eq_true rfl | (simp only [ab_rm]; omega), by first | exact Nat.le_of_ble_eq_true rfl | (simp only [ab_rm]; omega)⟩ (Nat.le_of_ble_eq_true rfl) (fun u175 r175 h175 => ?_)
  obtain ⟨⟨q175, k175⟩, rfl⟩ := h175
  have P175 := P0.trans q175 (by decide)
  refine ab_goto X 440 d_MO_step_178 rfl ?_
  refine ab_iload_n X 3 d_MO_step_440 rfl rfl ?_
  refine ab_iconst (v := 1) X d_MO_step_441 (by decide) ?_
  refine ab_iadd X d_MO_step_442 ?_
  refine ab_top (nI_1 _) ?_
  exact ab_reti X hr0 hlk d_MO_step_443 (key _ q175 k175)
set_option maxRecDepth 100000 in
set_option maxHeartbeats 1000000 in
theorem z_MO_st8 (u : ab_S) (st sd : List Nat) (h : mR u.2.1) (C : rM u st sd) (hh aa : Int32) (x i : Nat) (r : List Nat) (hL : st.length < 127) (hS : sd.length < 63) (ex : u.1 18 9 i = nI x) (bx : x < 20000) (e6 : u.1 17 0 40 = 0) (Wr : wR u i r) (G : gd x r st) (hx : x / 1000 = 8) : ab_C false l D ca y_MO_step b_MO_step 7 (some FieldType.int) 3 ab_nQ u [ab_O 17 0, ab_I (nI i), ab_I hh, ab_I aa] (fun u' w => sR hh aa x r st sd i u u' w) := by
  refine ab_C.of (by decide) (Nat.le_of_ble_eq_true rfl) ?_
  intro p e s m args below meth c ad X hZ hr0 hlk
  have P0 : gP [35, 37, 40, 118, 119] u u := gP.rf h
  have hi := Wr.1
  have key : ∀ u2, gP [35, 37, 40, 118, 119] u u2 → ((u2.1 17 0 40 = 1 ∧ (st.length < 2 ∨ 9 < st.headD 0 ∨ 9 < st.tail.headD 0)) ∨ ∃ a b t, st = a :: b :: t ∧ a ≤ 9 ∧ b ≤ 9 ∧ u2.1 17 0 40 = 0 ∧ rM u2 (jnd 8 a b :: t) sd) → sR hh aa x r st sd i u u2 (some (ab_I (nI (i + 1)))) := by
    intro u2 P2 hk
    rcases hk with ⟨f2, why⟩ | ⟨a, b, t, rfl, a9, b9, f2, c2⟩
    · exact sR.no P2 (stp_j0 (by omega) why) f2
    · exact sR.yes P2 (by rw [stp_j (by omega) a9 b9, hx]) f2 c2
  refine ab_aload_n X 0 d_MO_step_0 rfl rfl ?_
  refine ab_gR X fl_MO_57 d_MO_step_1 (by first | assumption | decide | (show _ < 124; omega) | (show _ < 61; omega) | (show _ < 20; omega)) (P0.1.mo15) ?_
  refine ab_iload_n X 1 d_MO_step_4 rfl rfl ?_
  refine ab_iald X (i) ⟨rfl, rfl⟩ d_MO_step_5 (by first | assumption | decide | (show _ < 124; omega) | (show _ < 61; omega) | (show _ < 20; omega)) (rfl) (show i < 7200 by omega) (ab_ln_lt _ _) ?_
  refine ab_top ex ?_
  refine ab_sipush (v := 1000) X d_MO_step_6 (by decide) ?_
  refine ab_idiv X d_MO_step_9 (by decide) ?_
  refine ab_top ((div_nI bx).trans (congrArg nI hx)) ?_
  refine ab_istore4 X 0 1 2 3 d_MO_step_10 (by decide) rfl rfl rfl rfl rfl rfl rfl rfl ?_
  refine ab_aload_n X 1 d_MO_step_12 rfl rfl ?_
  refine ab_gR X fl_MO_57 d_MO_step_13 (by first | assumption | decide | (show _ < 124; omega) | (show _ < 61; omega) | (show _ < 20; omega)) (P0.1.mo15) ?_
  refine ab_iload_n X 2 d_MO_step_16 rfl rfl ?_
  refine ab_iald X (i) ⟨rfl, rfl⟩ d_MO_step_17 (by first | assumption | decide | (show _ < 124; omega) | (show _ < 61; omega) | (show _ < 20; omega)) (rfl) (show i < 7200 by omega) (ab_ln_lt _ _) ?_
  refine ab_top ex ?_
  refine ab_sipush (v := 1000) X d_MO_step_18 (by decide) ?_
  refine ab_irem X d_MO_step_21 (by decide) ?_
  refine ab_top (rem_nI bx) ?_
  refine ab_istore5 X 0 1 2 3 4 d_MO_step_22 (by decide) rfl rfl rfl rfl rfl rfl rfl rfl rfl rfl ?_
  refine ab_iload X 1 d_MO_step_24 rfl ?_
  refine ab_iconst (v := 1) X d_MO_step_26 (by decide) ?_
  refine ab_icmp_ne X 73 d_MO_step_27 rfl (fun _ => ?_) (fun hb => absurd hb ((by decide)))
  refine ab_iload X 1 d_MO_step_73 rfl ?_
  refine ab_iconst (v := 2) X d_MO_step_75 (by decide) ?_
  refine ab_icmp_ne X 103 d_MO_step_76 rfl (fun _ => ?_) (fun hb => absurd hb ((by decide)))
  refine ab_iload X 1 d_MO_step_103 rfl ?_
  refine ab_iconst (v := 3) X d_MO_step_105 (by decide) ?_
  refine ab_icmp_eq X 115 d_MO_step_106 rfl (fun hb => absurd hb ((by decide))) (fun _ => ?_)
  refine ab_iload X 1 d_MO_step_109 rfl ?_
  refine ab_iconst (v := 4) X d_MO_step_111 (by decide) ?_
  refine ab_icmp_ne X 144 d_MO_step_112 rfl (fun _ => ?_) (fun hb => absurd hb ((by decide)))
  refine ab_iload X 1 d_MO_step_144 rfl ?_
  refine ab_iconst (v := 5) X d_MO_step_146 (by decide) ?_
  refine ab_icmp_ne X 165 d_MO_step_147 rfl (fun _ => ?_) (fun hb => absurd hb ((by decide)))
  refine ab_iload X 1 d_MO_step_165 rfl ?_
  refine ab_bipush (v := 9) X d_MO_step_167 (by decide) ?_
  refine ab_icmp_ge X 181 d_MO_step_169 rfl (fun hb => absurd hb ((by decide))) (fun _ => ?_)
  refine ab_aload_n X 2 d_MO_step_172 rfl rfl ?_
  refine ab_iload X 1 d_MO_step_173 rfl ?_
  refine ab_callV (as := [ab_I (nI 8)]) X (fun h => by cases h) (z_MO_join8 u st sd h C hL e6) lk_MO_304 d_MO_step_175 rfl rfl (by first | assumption | decide | (show _ < 124; omega) | (show _ < 61; omega) | (show _ < 20; omega)) ⟨by first | exact Nat.le_of_ble_eq_true rfl | (simp only [ab_rm]; omega), by first | exact Nat.le_of_ble_eq_true rfl | (simp only [ab_rm]; omega)⟩ ⟨by first | exact Nat.le_of_ble_eq_true rfl | (simp only [ab_rm]; omega), by first | exact Nat.le_of_ble_eq_true rfl | (simp only [ab_rm]; omega)⟩ (Nat.le_of_ble_eq_true rfl) (fun u175 r175 h175 => ?_)
  obtain ⟨⟨q175, k175⟩, rfl⟩ := h175
  have P175 := P0.trans q175 (by decide)
  refine ab_goto X 440 d_MO_step_178 rfl ?_
  refine ab_iload_n X 3 d_MO_step_440 rfl rfl ?_
  refine ab_iconst (v := 1) X d_MO_step_441 (by decide) ?_
  refine ab_iadd X d_MO_step_442 ?_
  refine ab_top (nI_1 _) ?_
  exact ab_reti X hr0 hlk d_MO_step_443 (key _ q175 k175)
set_option maxRecDepth 100000 in
set_option maxHeartbeats 1000000 in
theorem z_MO_st9 (u : ab_S) (st sd : List Nat) (h : mR u.2.1) (C : rM u st sd) (hh aa : Int32) (x i : Nat) (r : List Nat) (hL : st.length < 127) (hS : sd.length < 63) (ex : u.1 18 9 i = nI x) (bx : x < 20000) (e6 : u.1 17 0 40 = 0) (Wr : wR u i r) (G : gd x r st) (hx : x / 1000 = 9) : ab_C false l D ca y_MO_step b_MO_step 7 (some FieldType.int) 3 ab_nQ u [ab_O 17 0, ab_I (nI i), ab_I hh, ab_I aa] (fun u' w => sR hh aa x r st sd i u u' w) := by
  refine ab_C.of (by decide) (Nat.le_of_ble_eq_true rfl) ?_
  intro p e s m args below meth c ad X hZ hr0 hlk
  have P0 : gP [35, 37, 40, 118, 119] u u := gP.rf h
  have hi := Wr.1
  cases st with
  | nil =>
    by_cases q1 : 0 = x % 1000
    ·
      refine ab_aload_n X 0 d_MO_step_0 rfl rfl ?_
      refine ab_gR X fl_MO_57 d_MO_step_1 (by first | assumption | decide | (show _ < 124; omega) | (show _ < 61; omega) | (show _ < 20; omega)) (P0.1.mo15) ?_
      refine ab_iload_n X 1 d_MO_step_4 rfl rfl ?_
      refine ab_iald X (i) ⟨rfl, rfl⟩ d_MO_step_5 (by first | assumption | decide | (show _ < 124; omega) | (show _ < 61; omega) | (show _ < 20; omega)) (rfl) (show i < 7200 by omega) (ab_ln_lt _ _) ?_
      refine ab_top ex ?_
      refine ab_sipush (v := 1000) X d_MO_step_6 (by decide) ?_
      refine ab_idiv X d_MO_step_9 (by decide) ?_
      refine ab_top ((div_nI bx).trans (congrArg nI hx)) ?_
      refine ab_istore4 X 0 1 2 3 d_MO_step_10 (by decide) rfl rfl rfl rfl rfl rfl rfl rfl ?_
      refine ab_aload_n X 1 d_MO_step_12 rfl rfl ?_
      refine ab_gR X fl_MO_57 d_MO_step_13 (by first | assumption | decide | (show _ < 124; omega) | (show _ < 61; omega) | (show _ < 20; omega)) (P0.1.mo15) ?_
      refine ab_iload_n X 2 d_MO_step_16 rfl rfl ?_
      refine ab_iald X (i) ⟨rfl, rfl⟩ d_MO_step_17 (by first | assumption | decide | (show _ < 124; omega) | (show _ < 61; omega) | (show _ < 20; omega)) (rfl) (show i < 7200 by omega) (ab_ln_lt _ _) ?_
      refine ab_top ex ?_
      refine ab_sipush (v := 1000) X d_MO_step_18 (by decide) ?_
      refine ab_irem X d_MO_step_21 (by decide) ?_
      refine ab_top (rem_nI bx) ?_
      refine ab_istore5 X 0 1 2 3 4 d_MO_step_22 (by decide) rfl rfl rfl rfl rfl rfl rfl rfl rfl rfl ?_
      refine ab_iload X 1 d_MO_step_24 rfl ?_
      refine ab_iconst (v := 1) X d_MO_step_26 (by decide) ?_
      refine ab_icmp_ne X 73 d_MO_step_27 rfl (fun _ => ?_) (fun hb => absurd hb ((by decide)))
      refine ab_iload X 1 d_MO_step_73 rfl ?_
      refine ab_iconst (v := 2) X d_MO_step_75 (by decide) ?_
      refine ab_icmp_ne X 103 d_MO_step_76 rfl (fun _ => ?_) (fun hb => absurd hb ((by decide)))
      refine ab_iload X 1 d_MO_step_103 rfl ?_
      refine ab_iconst (v := 3) X d_MO_step_105 (by decide) ?_
      refine ab_icmp_eq X 115 d_MO_step_106 rfl (fun hb => absurd hb ((by decide))) (fun _ => ?_)
      refine ab_iload X 1 d_MO_step_109 rfl ?_
      refine ab_iconst (v := 4) X d_MO_step_111 (by decide) ?_
      refine ab_icmp_ne X 144 d_MO_step_112 rfl (fun _ => ?_) (fun hb => absurd hb ((by decide)))
      refine ab_iload X 1 d_MO_step_144 rfl ?_
      refine ab_iconst (v := 5) X d_MO_step_146 (by decide) ?_
      refine ab_icmp_ne X 165 d_MO_step_147 rfl (fun _ => ?_) (fun hb => absurd hb ((by decide)))
      refine ab_iload X 1 d_MO_step_165 rfl ?_
      refine ab_bipush (v := 9) X d_MO_step_167 (by decide) ?_
      refine ab_icmp_ge X 181 d_MO_step_169 rfl (fun _ => ?_) (fun hb => absurd ((by decide)) hb)
      refine ab_iload X 1 d_MO_step_181 rfl ?_
      refine ab_bipush (v := 9) X d_MO_step_183 (by decide) ?_
      refine ab_icmp_ne X 209 d_MO_step_185 rfl (fun hb => absurd ((by decide)) hb) (fun _ => ?_)
      refine ab_aload_n X 2 d_MO_step_188 rfl rfl ?_
      refine ab_aload_n X 2 d_MO_step_189 rfl rfl ?_
      refine ab_callV (as := []) X (fun h => by cases h) (z_MO_takeNumber u [] sd h C (by decide)) lk_MO_298 d_MO_step_190 rfl rfl (by first | assumption | decide | (show _ < 124; omega) | (show _ < 61; omega) | (show _ < 20; omega)) ⟨by first | exact Nat.le_of_ble_eq_true rfl | (simp only [ab_rm]; omega), by first | exact Nat.le_of_ble_eq_true rfl | (simp only [ab_rm]; omega)⟩ ⟨by first | exact Nat.le_of_ble_eq_true rfl | (simp only [ab_rm]; omega), by first | exact Nat.le_of_ble_eq_true rfl | (simp only [ab_rm]; omega)⟩ (Nat.le_of_ble_eq_true rfl) (fun u190 r190 h190 => ?_)
      obtain ⟨⟨z190, c190, g190⟩, rfl⟩ := h190
      have q190 := z190
      have P190 := P0.trans q190 (by decide)
      refine ab_iload X 0 d_MO_step_193 rfl ?_
      refine ab_icmp_ne X 202 d_MO_step_195 rfl (fun hb => absurd ((congrArg nI q1)) hb) (fun _ => ?_)
      refine ab_iconst (v := 1) X d_MO_step_198 (by decide) ?_
      refine ab_goto X 203 d_MO_step_199 rfl ?_
      refine ab_callV (as := [ab_I (nI 1)]) X (fun h => by cases h) (z_MO_putOn u190 1 [] sd P190.1 c190 (by decide) (by decide)) lk_MO_301 d_MO_step_203 rfl rfl (by first | assumption | decide | (show _ < 124; omega) | (show _ < 61; omega) | (show _ < 20; omega)) ⟨by first | exact Nat.le_of_ble_eq_true rfl | (simp only [ab_rm]; omega), by first | exact Nat.le_of_ble_eq_true rfl | (simp only [ab_rm]; omega)⟩ ⟨by first | exact Nat.le_of_ble_eq_true rfl | (simp only [ab_rm]; omega), by first | exact Nat.le_of_ble_eq_true rfl | (simp only [ab_rm]; omega)⟩ (Nat.le_of_ble_eq_true rfl) (fun u203 r203 h203 => ?_)
      obtain ⟨⟨z203, c203, g203⟩, rfl⟩ := h203
      have q203 := z203
      have P203 := P190.trans q203 (by decide)
      refine ab_goto X 440 d_MO_step_206 rfl ?_
      refine ab_iload_n X 3 d_MO_step_440 rfl rfl ?_
      refine ab_iconst (v := 1) X d_MO_step_441 (by decide) ?_
      refine ab_iadd X d_MO_step_442 ?_
      refine ab_top (nI_1 _) ?_
      exact ab_reti X hr0 hlk d_MO_step_443 (sR.no P203 (show stp hh aa x r [] sd = none by simp [stp, hx]) (g203.trans (g190.trans tn_0)))
    ·
      refine ab_aload_n X 0 d_MO_step_0 rfl rfl ?_
      refine ab_gR X fl_MO_57 d_MO_step_1 (by first | assumption | decide | (show _ < 124; omega) | (show _ < 61; omega) | (show _ < 20; omega)) (P0.1.mo15) ?_
      refine ab_iload_n X 1 d_MO_step_4 rfl rfl ?_
      refine ab_iald X (i) ⟨rfl, rfl⟩ d_MO_step_5 (by first | assumption | decide | (show _ < 124; omega) | (show _ < 61; omega) | (show _ < 20; omega)) (rfl) (show i < 7200 by omega) (ab_ln_lt _ _) ?_
      refine ab_top ex ?_
      refine ab_sipush (v := 1000) X d_MO_step_6 (by decide) ?_
      refine ab_idiv X d_MO_step_9 (by decide) ?_
      refine ab_top ((div_nI bx).trans (congrArg nI hx)) ?_
      refine ab_istore4 X 0 1 2 3 d_MO_step_10 (by decide) rfl rfl rfl rfl rfl rfl rfl rfl ?_
      refine ab_aload_n X 1 d_MO_step_12 rfl rfl ?_
      refine ab_gR X fl_MO_57 d_MO_step_13 (by first | assumption | decide | (show _ < 124; omega) | (show _ < 61; omega) | (show _ < 20; omega)) (P0.1.mo15) ?_
      refine ab_iload_n X 2 d_MO_step_16 rfl rfl ?_
      refine ab_iald X (i) ⟨rfl, rfl⟩ d_MO_step_17 (by first | assumption | decide | (show _ < 124; omega) | (show _ < 61; omega) | (show _ < 20; omega)) (rfl) (show i < 7200 by omega) (ab_ln_lt _ _) ?_
      refine ab_top ex ?_
      refine ab_sipush (v := 1000) X d_MO_step_18 (by decide) ?_
      refine ab_irem X d_MO_step_21 (by decide) ?_
      refine ab_top (rem_nI bx) ?_
      refine ab_istore5 X 0 1 2 3 4 d_MO_step_22 (by decide) rfl rfl rfl rfl rfl rfl rfl rfl rfl rfl ?_
      refine ab_iload X 1 d_MO_step_24 rfl ?_
      refine ab_iconst (v := 1) X d_MO_step_26 (by decide) ?_
      refine ab_icmp_ne X 73 d_MO_step_27 rfl (fun _ => ?_) (fun hb => absurd hb ((by decide)))
      refine ab_iload X 1 d_MO_step_73 rfl ?_
      refine ab_iconst (v := 2) X d_MO_step_75 (by decide) ?_
      refine ab_icmp_ne X 103 d_MO_step_76 rfl (fun _ => ?_) (fun hb => absurd hb ((by decide)))
      refine ab_iload X 1 d_MO_step_103 rfl ?_
      refine ab_iconst (v := 3) X d_MO_step_105 (by decide) ?_
      refine ab_icmp_eq X 115 d_MO_step_106 rfl (fun hb => absurd hb ((by decide))) (fun _ => ?_)
      refine ab_iload X 1 d_MO_step_109 rfl ?_
      refine ab_iconst (v := 4) X d_MO_step_111 (by decide) ?_
      refine ab_icmp_ne X 144 d_MO_step_112 rfl (fun _ => ?_) (fun hb => absurd hb ((by decide)))
      refine ab_iload X 1 d_MO_step_144 rfl ?_
      refine ab_iconst (v := 5) X d_MO_step_146 (by decide) ?_
      refine ab_icmp_ne X 165 d_MO_step_147 rfl (fun _ => ?_) (fun hb => absurd hb ((by decide)))
      refine ab_iload X 1 d_MO_step_165 rfl ?_
      refine ab_bipush (v := 9) X d_MO_step_167 (by decide) ?_
      refine ab_icmp_ge X 181 d_MO_step_169 rfl (fun _ => ?_) (fun hb => absurd ((by decide)) hb)
      refine ab_iload X 1 d_MO_step_181 rfl ?_
      refine ab_bipush (v := 9) X d_MO_step_183 (by decide) ?_
      refine ab_icmp_ne X 209 d_MO_step_185 rfl (fun hb => absurd ((by decide)) hb) (fun _ => ?_)
      refine ab_aload_n X 2 d_MO_step_188 rfl rfl ?_
      refine ab_aload_n X 2 d_MO_step_189 rfl rfl ?_
      refine ab_callV (as := []) X (fun h => by cases h) (z_MO_takeNumber u [] sd h C (by decide)) lk_MO_298 d_MO_step_190 rfl rfl (by first | assumption | decide | (show _ < 124; omega) | (show _ < 61; omega) | (show _ < 20; omega)) ⟨by first | exact Nat.le_of_ble_eq_true rfl | (simp only [ab_rm]; omega), by first | exact Nat.le_of_ble_eq_true rfl | (simp only [ab_rm]; omega)⟩ ⟨by first | exact Nat.le_of_ble_eq_true rfl | (simp only [ab_rm]; omega), by first | exact Nat.le_of_ble_eq_true rfl | (simp only [ab_rm]; omega)⟩ (Nat.le_of_ble_eq_true rfl) (fun u190 r190 h190 => ?_)
      obtain ⟨⟨z190, c190, g190⟩, rfl⟩ := h190
      have q190 := z190
      have P190 := P0.trans q190 (by decide)
      refine ab_iload X 0 d_MO_step_193 rfl ?_
      refine ab_icmp_ne X 202 d_MO_step_195 rfl (fun _ => ?_) (fun hb => absurd hb ((nI_ne (a := 0) (by decide) (by omega) q1)))
      refine ab_iconst (v := 0) X d_MO_step_202 (by decide) ?_
      refine ab_callV (as := [ab_I (nI 0)]) X (fun h => by cases h) (z_MO_putOn u190 0 [] sd P190.1 c190 (by decide) (by decide)) lk_MO_301 d_MO_step_203 rfl rfl (by first | assumption | decide | (show _ < 124; omega) | (show _ < 61; omega) | (show _ < 20; omega)) ⟨by first | exact Nat.le_of_ble_eq_true rfl | (simp only [ab_rm]; omega), by first | exact Nat.le_of_ble_eq_true rfl | (simp only [ab_rm]; omega)⟩ ⟨by first | exact Nat.le_of_ble_eq_true rfl | (simp only [ab_rm]; omega), by first | exact Nat.le_of_ble_eq_true rfl | (simp only [ab_rm]; omega)⟩ (Nat.le_of_ble_eq_true rfl) (fun u203 r203 h203 => ?_)
      obtain ⟨⟨z203, c203, g203⟩, rfl⟩ := h203
      have q203 := z203
      have P203 := P190.trans q203 (by decide)
      refine ab_goto X 440 d_MO_step_206 rfl ?_
      refine ab_iload_n X 3 d_MO_step_440 rfl rfl ?_
      refine ab_iconst (v := 1) X d_MO_step_441 (by decide) ?_
      refine ab_iadd X d_MO_step_442 ?_
      refine ab_top (nI_1 _) ?_
      exact ab_reti X hr0 hlk d_MO_step_443 (sR.no P203 (show stp hh aa x r [] sd = none by simp [stp, hx]) (g203.trans (g190.trans tn_0)))
  | cons w t =>
    have hL : t.length + 1 < 127 := hL
    have hd : w < 2000 := C.1.2.1.2
    by_cases q9 : 9 < w
    · by_cases q1 : w = x % 1000
      ·
        refine ab_aload_n X 0 d_MO_step_0 rfl rfl ?_
        refine ab_gR X fl_MO_57 d_MO_step_1 (by first | assumption | decide | (show _ < 124; omega) | (show _ < 61; omega) | (show _ < 20; omega)) (P0.1.mo15) ?_
        refine ab_iload_n X 1 d_MO_step_4 rfl rfl ?_
        refine ab_iald X (i) ⟨rfl, rfl⟩ d_MO_step_5 (by first | assumption | decide | (show _ < 124; omega) | (show _ < 61; omega) | (show _ < 20; omega)) (rfl) (show i < 7200 by omega) (ab_ln_lt _ _) ?_
        refine ab_top ex ?_
        refine ab_sipush (v := 1000) X d_MO_step_6 (by decide) ?_
        refine ab_idiv X d_MO_step_9 (by decide) ?_
        refine ab_top ((div_nI bx).trans (congrArg nI hx)) ?_
        refine ab_istore4 X 0 1 2 3 d_MO_step_10 (by decide) rfl rfl rfl rfl rfl rfl rfl rfl ?_
        refine ab_aload_n X 1 d_MO_step_12 rfl rfl ?_
        refine ab_gR X fl_MO_57 d_MO_step_13 (by first | assumption | decide | (show _ < 124; omega) | (show _ < 61; omega) | (show _ < 20; omega)) (P0.1.mo15) ?_
        refine ab_iload_n X 2 d_MO_step_16 rfl rfl ?_
        refine ab_iald X (i) ⟨rfl, rfl⟩ d_MO_step_17 (by first | assumption | decide | (show _ < 124; omega) | (show _ < 61; omega) | (show _ < 20; omega)) (rfl) (show i < 7200 by omega) (ab_ln_lt _ _) ?_
        refine ab_top ex ?_
        refine ab_sipush (v := 1000) X d_MO_step_18 (by decide) ?_
        refine ab_irem X d_MO_step_21 (by decide) ?_
        refine ab_top (rem_nI bx) ?_
        refine ab_istore5 X 0 1 2 3 4 d_MO_step_22 (by decide) rfl rfl rfl rfl rfl rfl rfl rfl rfl rfl ?_
        refine ab_iload X 1 d_MO_step_24 rfl ?_
        refine ab_iconst (v := 1) X d_MO_step_26 (by decide) ?_
        refine ab_icmp_ne X 73 d_MO_step_27 rfl (fun _ => ?_) (fun hb => absurd hb ((by decide)))
        refine ab_iload X 1 d_MO_step_73 rfl ?_
        refine ab_iconst (v := 2) X d_MO_step_75 (by decide) ?_
        refine ab_icmp_ne X 103 d_MO_step_76 rfl (fun _ => ?_) (fun hb => absurd hb ((by decide)))
        refine ab_iload X 1 d_MO_step_103 rfl ?_
        refine ab_iconst (v := 3) X d_MO_step_105 (by decide) ?_
        refine ab_icmp_eq X 115 d_MO_step_106 rfl (fun hb => absurd hb ((by decide))) (fun _ => ?_)
        refine ab_iload X 1 d_MO_step_109 rfl ?_
        refine ab_iconst (v := 4) X d_MO_step_111 (by decide) ?_
        refine ab_icmp_ne X 144 d_MO_step_112 rfl (fun _ => ?_) (fun hb => absurd hb ((by decide)))
        refine ab_iload X 1 d_MO_step_144 rfl ?_
        refine ab_iconst (v := 5) X d_MO_step_146 (by decide) ?_
        refine ab_icmp_ne X 165 d_MO_step_147 rfl (fun _ => ?_) (fun hb => absurd hb ((by decide)))
        refine ab_iload X 1 d_MO_step_165 rfl ?_
        refine ab_bipush (v := 9) X d_MO_step_167 (by decide) ?_
        refine ab_icmp_ge X 181 d_MO_step_169 rfl (fun _ => ?_) (fun hb => absurd ((by decide)) hb)
        refine ab_iload X 1 d_MO_step_181 rfl ?_
        refine ab_bipush (v := 9) X d_MO_step_183 (by decide) ?_
        refine ab_icmp_ne X 209 d_MO_step_185 rfl (fun hb => absurd ((by decide)) hb) (fun _ => ?_)
        refine ab_aload_n X 2 d_MO_step_188 rfl rfl ?_
        refine ab_aload_n X 2 d_MO_step_189 rfl rfl ?_
        refine ab_callV (as := []) X (fun h => by cases h) (z_MO_takeNumber u (w :: t) sd h C (by show t.length + 1 ≤ 128; omega)) lk_MO_298 d_MO_step_190 rfl rfl (by first | assumption | decide | (show _ < 124; omega) | (show _ < 61; omega) | (show _ < 20; omega)) ⟨by first | exact Nat.le_of_ble_eq_true rfl | (simp only [ab_rm]; omega), by first | exact Nat.le_of_ble_eq_true rfl | (simp only [ab_rm]; omega)⟩ ⟨by first | exact Nat.le_of_ble_eq_true rfl | (simp only [ab_rm]; omega), by first | exact Nat.le_of_ble_eq_true rfl | (simp only [ab_rm]; omega)⟩ (Nat.le_of_ble_eq_true rfl) (fun u190 r190 h190 => ?_)
        obtain ⟨⟨z190, c190, g190⟩, rfl⟩ := h190
        have q190 := z190
        have P190 := P0.trans q190 (by decide)
        refine ab_iload X 0 d_MO_step_193 rfl ?_
        refine ab_icmp_ne X 202 d_MO_step_195 rfl (fun hb => absurd ((congrArg nI q1)) hb) (fun _ => ?_)
        refine ab_iconst (v := 1) X d_MO_step_198 (by decide) ?_
        refine ab_goto X 203 d_MO_step_199 rfl ?_
        refine ab_callV (as := [ab_I (nI 1)]) X (fun h => by cases h) (z_MO_putOn u190 1 t sd P190.1 c190 (by decide) (by omega)) lk_MO_301 d_MO_step_203 rfl rfl (by first | assumption | decide | (show _ < 124; omega) | (show _ < 61; omega) | (show _ < 20; omega)) ⟨by first | exact Nat.le_of_ble_eq_true rfl | (simp only [ab_rm]; omega), by first | exact Nat.le_of_ble_eq_true rfl | (simp only [ab_rm]; omega)⟩ ⟨by first | exact Nat.le_of_ble_eq_true rfl | (simp only [ab_rm]; omega), by first | exact Nat.le_of_ble_eq_true rfl | (simp only [ab_rm]; omega)⟩ (Nat.le_of_ble_eq_true rfl) (fun u203 r203 h203 => ?_)
        obtain ⟨⟨z203, c203, g203⟩, rfl⟩ := h203
        have q203 := z203
        have P203 := P190.trans q203 (by decide)
        refine ab_goto X 440 d_MO_step_206 rfl ?_
        refine ab_iload_n X 3 d_MO_step_440 rfl rfl ?_
        refine ab_iconst (v := 1) X d_MO_step_441 (by decide) ?_
        refine ab_iadd X d_MO_step_442 ?_
        refine ab_top (nI_1 _) ?_
        exact ab_reti X hr0 hlk d_MO_step_443 (sR.no P203 (show stp hh aa x r (w :: t) sd = none by simp [stp, hx, q9]) (g203.trans (g190.trans (tn_y q9))))
      ·
        refine ab_aload_n X 0 d_MO_step_0 rfl rfl ?_
        refine ab_gR X fl_MO_57 d_MO_step_1 (by first | assumption | decide | (show _ < 124; omega) | (show _ < 61; omega) | (show _ < 20; omega)) (P0.1.mo15) ?_
        refine ab_iload_n X 1 d_MO_step_4 rfl rfl ?_
        refine ab_iald X (i) ⟨rfl, rfl⟩ d_MO_step_5 (by first | assumption | decide | (show _ < 124; omega) | (show _ < 61; omega) | (show _ < 20; omega)) (rfl) (show i < 7200 by omega) (ab_ln_lt _ _) ?_
        refine ab_top ex ?_
        refine ab_sipush (v := 1000) X d_MO_step_6 (by decide) ?_
        refine ab_idiv X d_MO_step_9 (by decide) ?_
        refine ab_top ((div_nI bx).trans (congrArg nI hx)) ?_
        refine ab_istore4 X 0 1 2 3 d_MO_step_10 (by decide) rfl rfl rfl rfl rfl rfl rfl rfl ?_
        refine ab_aload_n X 1 d_MO_step_12 rfl rfl ?_
        refine ab_gR X fl_MO_57 d_MO_step_13 (by first | assumption | decide | (show _ < 124; omega) | (show _ < 61; omega) | (show _ < 20; omega)) (P0.1.mo15) ?_
        refine ab_iload_n X 2 d_MO_step_16 rfl rfl ?_
        refine ab_iald X (i) ⟨rfl, rfl⟩ d_MO_step_17 (by first | assumption | decide | (show _ < 124; omega) | (show _ < 61; omega) | (show _ < 20; omega)) (rfl) (show i < 7200 by omega) (ab_ln_lt _ _) ?_
        refine ab_top ex ?_
        refine ab_sipush (v := 1000) X d_MO_step_18 (by decide) ?_
        refine ab_irem X d_MO_step_21 (by decide) ?_
        refine ab_top (rem_nI bx) ?_
        refine ab_istore5 X 0 1 2 3 4 d_MO_step_22 (by decide) rfl rfl rfl rfl rfl rfl rfl rfl rfl rfl ?_
        refine ab_iload X 1 d_MO_step_24 rfl ?_
        refine ab_iconst (v := 1) X d_MO_step_26 (by decide) ?_
        refine ab_icmp_ne X 73 d_MO_step_27 rfl (fun _ => ?_) (fun hb => absurd hb ((by decide)))
        refine ab_iload X 1 d_MO_step_73 rfl ?_
        refine ab_iconst (v := 2) X d_MO_step_75 (by decide) ?_
        refine ab_icmp_ne X 103 d_MO_step_76 rfl (fun _ => ?_) (fun hb => absurd hb ((by decide)))
        refine ab_iload X 1 d_MO_step_103 rfl ?_
        refine ab_iconst (v := 3) X d_MO_step_105 (by decide) ?_
        refine ab_icmp_eq X 115 d_MO_step_106 rfl (fun hb => absurd hb ((by decide))) (fun _ => ?_)
        refine ab_iload X 1 d_MO_step_109 rfl ?_
        refine ab_iconst (v := 4) X d_MO_step_111 (by decide) ?_
        refine ab_icmp_ne X 144 d_MO_step_112 rfl (fun _ => ?_) (fun hb => absurd hb ((by decide)))
        refine ab_iload X 1 d_MO_step_144 rfl ?_
        refine ab_iconst (v := 5) X d_MO_step_146 (by decide) ?_
        refine ab_icmp_ne X 165 d_MO_step_147 rfl (fun _ => ?_) (fun hb => absurd hb ((by decide)))
        refine ab_iload X 1 d_MO_step_165 rfl ?_
        refine ab_bipush (v := 9) X d_MO_step_167 (by decide) ?_
        refine ab_icmp_ge X 181 d_MO_step_169 rfl (fun _ => ?_) (fun hb => absurd ((by decide)) hb)
        refine ab_iload X 1 d_MO_step_181 rfl ?_
        refine ab_bipush (v := 9) X d_MO_step_183 (by decide) ?_
        refine ab_icmp_ne X 209 d_MO_step_185 rfl (fun hb => absurd ((by decide)) hb) (fun _ => ?_)
        refine ab_aload_n X 2 d_MO_step_188 rfl rfl ?_
        refine ab_aload_n X 2 d_MO_step_189 rfl rfl ?_
        refine ab_callV (as := []) X (fun h => by cases h) (z_MO_takeNumber u (w :: t) sd h C (by show t.length + 1 ≤ 128; omega)) lk_MO_298 d_MO_step_190 rfl rfl (by first | assumption | decide | (show _ < 124; omega) | (show _ < 61; omega) | (show _ < 20; omega)) ⟨by first | exact Nat.le_of_ble_eq_true rfl | (simp only [ab_rm]; omega), by first | exact Nat.le_of_ble_eq_true rfl | (simp only [ab_rm]; omega)⟩ ⟨by first | exact Nat.le_of_ble_eq_true rfl | (simp only [ab_rm]; omega), by first | exact Nat.le_of_ble_eq_true rfl | (simp only [ab_rm]; omega)⟩ (Nat.le_of_ble_eq_true rfl) (fun u190 r190 h190 => ?_)
        obtain ⟨⟨z190, c190, g190⟩, rfl⟩ := h190
        have q190 := z190
        have P190 := P0.trans q190 (by decide)
        refine ab_iload X 0 d_MO_step_193 rfl ?_
        refine ab_icmp_ne X 202 d_MO_step_195 rfl (fun _ => ?_) (fun hb => absurd hb ((nI_ne (a := w) (by omega) (by omega) q1)))
        refine ab_iconst (v := 0) X d_MO_step_202 (by decide) ?_
        refine ab_callV (as := [ab_I (nI 0)]) X (fun h => by cases h) (z_MO_putOn u190 0 t sd P190.1 c190 (by decide) (by omega)) lk_MO_301 d_MO_step_203 rfl rfl (by first | assumption | decide | (show _ < 124; omega) | (show _ < 61; omega) | (show _ < 20; omega)) ⟨by first | exact Nat.le_of_ble_eq_true rfl | (simp only [ab_rm]; omega), by first | exact Nat.le_of_ble_eq_true rfl | (simp only [ab_rm]; omega)⟩ ⟨by first | exact Nat.le_of_ble_eq_true rfl | (simp only [ab_rm]; omega), by first | exact Nat.le_of_ble_eq_true rfl | (simp only [ab_rm]; omega)⟩ (Nat.le_of_ble_eq_true rfl) (fun u203 r203 h203 => ?_)
        obtain ⟨⟨z203, c203, g203⟩, rfl⟩ := h203
        have q203 := z203
        have P203 := P190.trans q203 (by decide)
        refine ab_goto X 440 d_MO_step_206 rfl ?_
        refine ab_iload_n X 3 d_MO_step_440 rfl rfl ?_
        refine ab_iconst (v := 1) X d_MO_step_441 (by decide) ?_
        refine ab_iadd X d_MO_step_442 ?_
        refine ab_top (nI_1 _) ?_
        exact ab_reti X hr0 hlk d_MO_step_443 (sR.no P203 (show stp hh aa x r (w :: t) sd = none by simp [stp, hx, q9]) (g203.trans (g190.trans (tn_y q9))))
    · have w9 : w ≤ 9 := by omega
      by_cases q1 : w = x % 1000
      ·
        refine ab_aload_n X 0 d_MO_step_0 rfl rfl ?_
        refine ab_gR X fl_MO_57 d_MO_step_1 (by first | assumption | decide | (show _ < 124; omega) | (show _ < 61; omega) | (show _ < 20; omega)) (P0.1.mo15) ?_
        refine ab_iload_n X 1 d_MO_step_4 rfl rfl ?_
        refine ab_iald X (i) ⟨rfl, rfl⟩ d_MO_step_5 (by first | assumption | decide | (show _ < 124; omega) | (show _ < 61; omega) | (show _ < 20; omega)) (rfl) (show i < 7200 by omega) (ab_ln_lt _ _) ?_
        refine ab_top ex ?_
        refine ab_sipush (v := 1000) X d_MO_step_6 (by decide) ?_
        refine ab_idiv X d_MO_step_9 (by decide) ?_
        refine ab_top ((div_nI bx).trans (congrArg nI hx)) ?_
        refine ab_istore4 X 0 1 2 3 d_MO_step_10 (by decide) rfl rfl rfl rfl rfl rfl rfl rfl ?_
        refine ab_aload_n X 1 d_MO_step_12 rfl rfl ?_
        refine ab_gR X fl_MO_57 d_MO_step_13 (by first | assumption | decide | (show _ < 124; omega) | (show _ < 61; omega) | (show _ < 20; omega)) (P0.1.mo15) ?_
        refine ab_iload_n X 2 d_MO_step_16 rfl rfl ?_
        refine ab_iald X (i) ⟨rfl, rfl⟩ d_MO_step_17 (by first | assumption | decide | (show _ < 124; omega) | (show _ < 61; omega) | (show _ < 20; omega)) (rfl) (show i < 7200 by omega) (ab_ln_lt _ _) ?_
        refine ab_top ex ?_
        refine ab_sipush (v := 1000) X d_MO_step_18 (by decide) ?_
        refine ab_irem X d_MO_step_21 (by decide) ?_
        refine ab_top (rem_nI bx) ?_
        refine ab_istore5 X 0 1 2 3 4 d_MO_step_22 (by decide) rfl rfl rfl rfl rfl rfl rfl rfl rfl rfl ?_
        refine ab_iload X 1 d_MO_step_24 rfl ?_
        refine ab_iconst (v := 1) X d_MO_step_26 (by decide) ?_
        refine ab_icmp_ne X 73 d_MO_step_27 rfl (fun _ => ?_) (fun hb => absurd hb ((by decide)))
        refine ab_iload X 1 d_MO_step_73 rfl ?_
        refine ab_iconst (v := 2) X d_MO_step_75 (by decide) ?_
        refine ab_icmp_ne X 103 d_MO_step_76 rfl (fun _ => ?_) (fun hb => absurd hb ((by decide)))
        refine ab_iload X 1 d_MO_step_103 rfl ?_
        refine ab_iconst (v := 3) X d_MO_step_105 (by decide) ?_
        refine ab_icmp_eq X 115 d_MO_step_106 rfl (fun hb => absurd hb ((by decide))) (fun _ => ?_)
        refine ab_iload X 1 d_MO_step_109 rfl ?_
        refine ab_iconst (v := 4) X d_MO_step_111 (by decide) ?_
        refine ab_icmp_ne X 144 d_MO_step_112 rfl (fun _ => ?_) (fun hb => absurd hb ((by decide)))
        refine ab_iload X 1 d_MO_step_144 rfl ?_
        refine ab_iconst (v := 5) X d_MO_step_146 (by decide) ?_
        refine ab_icmp_ne X 165 d_MO_step_147 rfl (fun _ => ?_) (fun hb => absurd hb ((by decide)))
        refine ab_iload X 1 d_MO_step_165 rfl ?_
        refine ab_bipush (v := 9) X d_MO_step_167 (by decide) ?_
        refine ab_icmp_ge X 181 d_MO_step_169 rfl (fun _ => ?_) (fun hb => absurd ((by decide)) hb)
        refine ab_iload X 1 d_MO_step_181 rfl ?_
        refine ab_bipush (v := 9) X d_MO_step_183 (by decide) ?_
        refine ab_icmp_ne X 209 d_MO_step_185 rfl (fun hb => absurd ((by decide)) hb) (fun _ => ?_)
        refine ab_aload_n X 2 d_MO_step_188 rfl rfl ?_
        refine ab_aload_n X 2 d_MO_step_189 rfl rfl ?_
        refine ab_callV (as := []) X (fun h => by cases h) (z_MO_takeNumber u (w :: t) sd h C (by show t.length + 1 ≤ 128; omega)) lk_MO_298 d_MO_step_190 rfl rfl (by first | assumption | decide | (show _ < 124; omega) | (show _ < 61; omega) | (show _ < 20; omega)) ⟨by first | exact Nat.le_of_ble_eq_true rfl | (simp only [ab_rm]; omega), by first | exact Nat.le_of_ble_eq_true rfl | (simp only [ab_rm]; omega)⟩ ⟨by first | exact Nat.le_of_ble_eq_true rfl | (simp only [ab_rm]; omega), by first | exact Nat.le_of_ble_eq_true rfl | (simp only [ab_rm]; omega)⟩ (Nat.le_of_ble_eq_true rfl) (fun u190 r190 h190 => ?_)
        obtain ⟨⟨z190, c190, g190⟩, rfl⟩ := h190
        have q190 := z190
        have P190 := P0.trans q190 (by decide)
        refine ab_iload X 0 d_MO_step_193 rfl ?_
        refine ab_icmp_ne X 202 d_MO_step_195 rfl (fun hb => absurd ((congrArg nI q1)) hb) (fun _ => ?_)
        refine ab_iconst (v := 1) X d_MO_step_198 (by decide) ?_
        refine ab_goto X 203 d_MO_step_199 rfl ?_
        refine ab_callV (as := [ab_I (nI 1)]) X (fun h => by cases h) (z_MO_putOn u190 1 t sd P190.1 c190 (by decide) (by omega)) lk_MO_301 d_MO_step_203 rfl rfl (by first | assumption | decide | (show _ < 124; omega) | (show _ < 61; omega) | (show _ < 20; omega)) ⟨by first | exact Nat.le_of_ble_eq_true rfl | (simp only [ab_rm]; omega), by first | exact Nat.le_of_ble_eq_true rfl | (simp only [ab_rm]; omega)⟩ ⟨by first | exact Nat.le_of_ble_eq_true rfl | (simp only [ab_rm]; omega), by first | exact Nat.le_of_ble_eq_true rfl | (simp only [ab_rm]; omega)⟩ (Nat.le_of_ble_eq_true rfl) (fun u203 r203 h203 => ?_)
        obtain ⟨⟨z203, c203, g203⟩, rfl⟩ := h203
        have q203 := z203
        have P203 := P190.trans q203 (by decide)
        refine ab_goto X 440 d_MO_step_206 rfl ?_
        refine ab_iload_n X 3 d_MO_step_440 rfl rfl ?_
        refine ab_iconst (v := 1) X d_MO_step_441 (by decide) ?_
        refine ab_iadd X d_MO_step_442 ?_
        refine ab_top (nI_1 _) ?_
        exact ab_reti X hr0 hlk d_MO_step_443 (sR.yes P203 (show stp hh aa x r (w :: t) sd = some (r, 1 :: t, sd) by rw [stp_9 hx w9, if_pos q1]) (g203.trans (g190.trans ((tn_n w9).trans e6))) c203)
      ·
        refine ab_aload_n X 0 d_MO_step_0 rfl rfl ?_
        refine ab_gR X fl_MO_57 d_MO_step_1 (by first | assumption | decide | (show _ < 124; omega) | (show _ < 61; omega) | (show _ < 20; omega)) (P0.1.mo15) ?_
        refine ab_iload_n X 1 d_MO_step_4 rfl rfl ?_
        refine ab_iald X (i) ⟨rfl, rfl⟩ d_MO_step_5 (by first | assumption | decide | (show _ < 124; omega) | (show _ < 61; omega) | (show _ < 20; omega)) (rfl) (show i < 7200 by omega) (ab_ln_lt _ _) ?_
        refine ab_top ex ?_
        refine ab_sipush (v := 1000) X d_MO_step_6 (by decide) ?_
        refine ab_idiv X d_MO_step_9 (by decide) ?_
        refine ab_top ((div_nI bx).trans (congrArg nI hx)) ?_
        refine ab_istore4 X 0 1 2 3 d_MO_step_10 (by decide) rfl rfl rfl rfl rfl rfl rfl rfl ?_
        refine ab_aload_n X 1 d_MO_step_12 rfl rfl ?_
        refine ab_gR X fl_MO_57 d_MO_step_13 (by first | assumption | decide | (show _ < 124; omega) | (show _ < 61; omega) | (show _ < 20; omega)) (P0.1.mo15) ?_
        refine ab_iload_n X 2 d_MO_step_16 rfl rfl ?_
        refine ab_iald X (i) ⟨rfl, rfl⟩ d_MO_step_17 (by first | assumption | decide | (show _ < 124; omega) | (show _ < 61; omega) | (show _ < 20; omega)) (rfl) (show i < 7200 by omega) (ab_ln_lt _ _) ?_
        refine ab_top ex ?_
        refine ab_sipush (v := 1000) X d_MO_step_18 (by decide) ?_
        refine ab_irem X d_MO_step_21 (by decide) ?_
        refine ab_top (rem_nI bx) ?_
        refine ab_istore5 X 0 1 2 3 4 d_MO_step_22 (by decide) rfl rfl rfl rfl rfl rfl rfl rfl rfl rfl ?_
        refine ab_iload X 1 d_MO_step_24 rfl ?_
        refine ab_iconst (v := 1) X d_MO_step_26 (by decide) ?_
        refine ab_icmp_ne X 73 d_MO_step_27 rfl (fun _ => ?_) (fun hb => absurd hb ((by decide)))
        refine ab_iload X 1 d_MO_step_73 rfl ?_
        refine ab_iconst (v := 2) X d_MO_step_75 (by decide) ?_
        refine ab_icmp_ne X 103 d_MO_step_76 rfl (fun _ => ?_) (fun hb => absurd hb ((by decide)))
        refine ab_iload X 1 d_MO_step_103 rfl ?_
        refine ab_iconst (v := 3) X d_MO_step_105 (by decide) ?_
        refine ab_icmp_eq X 115 d_MO_step_106 rfl (fun hb => absurd hb ((by decide))) (fun _ => ?_)
        refine ab_iload X 1 d_MO_step_109 rfl ?_
        refine ab_iconst (v := 4) X d_MO_step_111 (by decide) ?_
        refine ab_icmp_ne X 144 d_MO_step_112 rfl (fun _ => ?_) (fun hb => absurd hb ((by decide)))
        refine ab_iload X 1 d_MO_step_144 rfl ?_
        refine ab_iconst (v := 5) X d_MO_step_146 (by decide) ?_
        refine ab_icmp_ne X 165 d_MO_step_147 rfl (fun _ => ?_) (fun hb => absurd hb ((by decide)))
        refine ab_iload X 1 d_MO_step_165 rfl ?_
        refine ab_bipush (v := 9) X d_MO_step_167 (by decide) ?_
        refine ab_icmp_ge X 181 d_MO_step_169 rfl (fun _ => ?_) (fun hb => absurd ((by decide)) hb)
        refine ab_iload X 1 d_MO_step_181 rfl ?_
        refine ab_bipush (v := 9) X d_MO_step_183 (by decide) ?_
        refine ab_icmp_ne X 209 d_MO_step_185 rfl (fun hb => absurd ((by decide)) hb) (fun _ => ?_)
        refine ab_aload_n X 2 d_MO_step_188 rfl rfl ?_
        refine ab_aload_n X 2 d_MO_step_189 rfl rfl ?_
        refine ab_callV (as := []) X (fun h => by cases h) (z_MO_takeNumber u (w :: t) sd h C (by show t.length + 1 ≤ 128; omega)) lk_MO_298 d_MO_step_190 rfl rfl (by first | assumption | decide | (show _ < 124; omega) | (show _ < 61; omega) | (show _ < 20; omega)) ⟨by first | exact Nat.le_of_ble_eq_true rfl | (simp only [ab_rm]; omega), by first | exact Nat.le_of_ble_eq_true rfl | (simp only [ab_rm]; omega)⟩ ⟨by first | exact Nat.le_of_ble_eq_true rfl | (simp only [ab_rm]; omega), by first | exact Nat.le_of_ble_eq_true rfl | (simp only [ab_rm]; omega)⟩ (Nat.le_of_ble_eq_true rfl) (fun u190 r190 h190 => ?_)
        obtain ⟨⟨z190, c190, g190⟩, rfl⟩ := h190
        have q190 := z190
        have P190 := P0.trans q190 (by decide)
        refine ab_iload X 0 d_MO_step_193 rfl ?_
        refine ab_icmp_ne X 202 d_MO_step_195 rfl (fun _ => ?_) (fun hb => absurd hb ((nI_ne (a := w) (by omega) (by omega) q1)))
        refine ab_iconst (v := 0) X d_MO_step_202 (by decide) ?_
        refine ab_callV (as := [ab_I (nI 0)]) X (fun h => by cases h) (z_MO_putOn u190 0 t sd P190.1 c190 (by decide) (by omega)) lk_MO_301 d_MO_step_203 rfl rfl (by first | assumption | decide | (show _ < 124; omega) | (show _ < 61; omega) | (show _ < 20; omega)) ⟨by first | exact Nat.le_of_ble_eq_true rfl | (simp only [ab_rm]; omega), by first | exact Nat.le_of_ble_eq_true rfl | (simp only [ab_rm]; omega)⟩ ⟨by first | exact Nat.le_of_ble_eq_true rfl | (simp only [ab_rm]; omega), by first | exact Nat.le_of_ble_eq_true rfl | (simp only [ab_rm]; omega)⟩ (Nat.le_of_ble_eq_true rfl) (fun u203 r203 h203 => ?_)
        obtain ⟨⟨z203, c203, g203⟩, rfl⟩ := h203
        have q203 := z203
        have P203 := P190.trans q203 (by decide)
        refine ab_goto X 440 d_MO_step_206 rfl ?_
        refine ab_iload_n X 3 d_MO_step_440 rfl rfl ?_
        refine ab_iconst (v := 1) X d_MO_step_441 (by decide) ?_
        refine ab_iadd X d_MO_step_442 ?_
        refine ab_top (nI_1 _) ?_
        exact ab_reti X hr0 hlk d_MO_step_443 (sR.yes P203 (show stp hh aa x r (w :: t) sd = some (r, 0 :: t, sd) by rw [stp_9 hx w9, if_neg q1]) (g203.trans (g190.trans ((tn_n w9).trans e6))) c203)
set_option maxRecDepth 100000 in
set_option maxHeartbeats 1000000 in
theorem z_MO_st10 (u : ab_S) (st sd : List Nat) (h : mR u.2.1) (C : rM u st sd) (hh aa : Int32) (x i : Nat) (r : List Nat) (hL : st.length < 127) (hS : sd.length < 63) (ex : u.1 18 9 i = nI x) (bx : x < 20000) (e6 : u.1 17 0 40 = 0) (Wr : wR u i r) (G : gd x r st) (hx : x / 1000 = 10) : ab_C false l D ca y_MO_step b_MO_step 7 (some FieldType.int) 3 ab_nQ u [ab_O 17 0, ab_I (nI i), ab_I hh, ab_I aa] (fun u' w => sR hh aa x r st sd i u u' w) := by
  refine ab_C.of (by decide) (Nat.le_of_ble_eq_true rfl) ?_
  intro p e s m args below meth c ad X hZ hr0 hlk
  have P0 : gP [35, 37, 40, 118, 119] u u := gP.rf h
  have hi := Wr.1
  cases st with
  | nil =>
    refine ab_aload_n X 0 d_MO_step_0 rfl rfl ?_
    refine ab_gR X fl_MO_57 d_MO_step_1 (by first | assumption | decide | (show _ < 124; omega) | (show _ < 61; omega) | (show _ < 20; omega)) (P0.1.mo15) ?_
    refine ab_iload_n X 1 d_MO_step_4 rfl rfl ?_
    refine ab_iald X (i) ⟨rfl, rfl⟩ d_MO_step_5 (by first | assumption | decide | (show _ < 124; omega) | (show _ < 61; omega) | (show _ < 20; omega)) (rfl) (show i < 7200 by omega) (ab_ln_lt _ _) ?_
    refine ab_top ex ?_
    refine ab_sipush (v := 1000) X d_MO_step_6 (by decide) ?_
    refine ab_idiv X d_MO_step_9 (by decide) ?_
    refine ab_top ((div_nI bx).trans (congrArg nI hx)) ?_
    refine ab_istore4 X 0 1 2 3 d_MO_step_10 (by decide) rfl rfl rfl rfl rfl rfl rfl rfl ?_
    refine ab_aload_n X 1 d_MO_step_12 rfl rfl ?_
    refine ab_gR X fl_MO_57 d_MO_step_13 (by first | assumption | decide | (show _ < 124; omega) | (show _ < 61; omega) | (show _ < 20; omega)) (P0.1.mo15) ?_
    refine ab_iload_n X 2 d_MO_step_16 rfl rfl ?_
    refine ab_iald X (i) ⟨rfl, rfl⟩ d_MO_step_17 (by first | assumption | decide | (show _ < 124; omega) | (show _ < 61; omega) | (show _ < 20; omega)) (rfl) (show i < 7200 by omega) (ab_ln_lt _ _) ?_
    refine ab_top ex ?_
    refine ab_sipush (v := 1000) X d_MO_step_18 (by decide) ?_
    refine ab_irem X d_MO_step_21 (by decide) ?_
    refine ab_top (rem_nI bx) ?_
    refine ab_istore5 X 0 1 2 3 4 d_MO_step_22 (by decide) rfl rfl rfl rfl rfl rfl rfl rfl rfl rfl ?_
    refine ab_iload X 1 d_MO_step_24 rfl ?_
    refine ab_iconst (v := 1) X d_MO_step_26 (by decide) ?_
    refine ab_icmp_ne X 73 d_MO_step_27 rfl (fun _ => ?_) (fun hb => absurd hb ((by decide)))
    refine ab_iload X 1 d_MO_step_73 rfl ?_
    refine ab_iconst (v := 2) X d_MO_step_75 (by decide) ?_
    refine ab_icmp_ne X 103 d_MO_step_76 rfl (fun _ => ?_) (fun hb => absurd hb ((by decide)))
    refine ab_iload X 1 d_MO_step_103 rfl ?_
    refine ab_iconst (v := 3) X d_MO_step_105 (by decide) ?_
    refine ab_icmp_eq X 115 d_MO_step_106 rfl (fun hb => absurd hb ((by decide))) (fun _ => ?_)
    refine ab_iload X 1 d_MO_step_109 rfl ?_
    refine ab_iconst (v := 4) X d_MO_step_111 (by decide) ?_
    refine ab_icmp_ne X 144 d_MO_step_112 rfl (fun _ => ?_) (fun hb => absurd hb ((by decide)))
    refine ab_iload X 1 d_MO_step_144 rfl ?_
    refine ab_iconst (v := 5) X d_MO_step_146 (by decide) ?_
    refine ab_icmp_ne X 165 d_MO_step_147 rfl (fun _ => ?_) (fun hb => absurd hb ((by decide)))
    refine ab_iload X 1 d_MO_step_165 rfl ?_
    refine ab_bipush (v := 9) X d_MO_step_167 (by decide) ?_
    refine ab_icmp_ge X 181 d_MO_step_169 rfl (fun _ => ?_) (fun hb => absurd ((by decide)) hb)
    refine ab_iload X 1 d_MO_step_181 rfl ?_
    refine ab_bipush (v := 9) X d_MO_step_183 (by decide) ?_
    refine ab_icmp_ne X 209 d_MO_step_185 rfl (fun _ => ?_) (fun hb => absurd hb ((by decide)))
    refine ab_iload X 1 d_MO_step_209 rfl ?_
    refine ab_bipush (v := 10) X d_MO_step_211 (by decide) ?_
    refine ab_icmp_ne X 242 d_MO_step_213 rfl (fun hb => absurd ((by decide)) hb) (fun _ => ?_)
    refine ab_aload_n X 2 d_MO_step_216 rfl rfl ?_
    refine ab_gR X fl_MO_120 d_MO_step_217 (by first | assumption | decide | (show _ < 124; omega) | (show _ < 61; omega) | (show _ < 20; omega)) (P0.1.mo36) ?_
    refine ab_aload_n X 2 d_MO_step_220 rfl rfl ?_
    refine ab_gI X fl_MO_123 d_MO_step_221 (by first | assumption | decide | (show _ < 124; omega) | (show _ < 61; omega) | (show _ < 20; omega)) (C.2.1) ?_
    refine ab_aload_n X 2 d_MO_step_224 rfl rfl ?_
    refine ab_callV (as := []) X (fun h => by cases h) (z_MO_take u [] sd h C (by decide)) lk_MO_294 d_MO_step_225 rfl rfl (by first | assumption | decide | (show _ < 124; omega) | (show _ < 61; omega) | (show _ < 20; omega)) ⟨by first | exact Nat.le_of_ble_eq_true rfl | (simp only [ab_rm]; omega), by first | exact Nat.le_of_ble_eq_true rfl | (simp only [ab_rm]; omega)⟩ ⟨by first | exact Nat.le_of_ble_eq_true rfl | (simp only [ab_rm]; omega), by first | exact Nat.le_of_ble_eq_true rfl | (simp only [ab_rm]; omega)⟩ (Nat.le_of_ble_eq_true rfl) (fun u225 r225 h225 => ?_)
    obtain ⟨⟨z225, c225, g225⟩, rfl⟩ := h225
    have q225 := z225
    have P225 := P0.trans q225 (by decide)
    refine ab_iast X (sd.length) ⟨rfl, rfl⟩ d_MO_step_228 (by first | assumption | decide | (show _ < 124; omega) | (show _ < 61; omega) | (show _ < 20; omega)) (rfl) (show sd.length < 64 by omega) (ab_ln_lt _ _) ?_
    refine ab_gen (fun u228 e228 => ?_)
    have P228 : gP [35, 37, 40, 118, 119] u u228 := by rw [e228]; exact P225.ui rfl (by decide)
    refine ab_aload_n X 2 d_MO_step_229 rfl rfl ?_
    refine ab_dup X d_MO_step_230 rfl ?_
    refine ab_gI X fl_MO_123 d_MO_step_231 (by first | assumption | decide | (show _ < 124; omega) | (show _ < 61; omega) | (show _ < 20; omega)) ((show _ = nI sd.length by rw [e228]; exact (ui_n _ (by omega)).trans c225.2.1)) ?_
    refine ab_iconst (v := 1) X d_MO_step_234 (by decide) ?_
    refine ab_iadd X d_MO_step_235 ?_
    refine ab_top (nI_1 _) ?_
    refine ab_putI X fp_MO_123 d_MO_step_236 (by first | assumption | decide | (show _ < 124; omega) | (show _ < 61; omega) | (show _ < 20; omega)) rfl rfl ?_
    refine ab_gen (fun u236 e236 => ?_)
    have P236 : gP [35, 37, 40, 118, 119] u u236 := by rw [e236]; exact P228.ui rfl (by decide)
    refine ab_goto X 440 d_MO_step_239 rfl ?_
    refine ab_iload_n X 3 d_MO_step_440 rfl rfl ?_
    refine ab_iconst (v := 1) X d_MO_step_441 (by decide) ?_
    refine ab_iadd X d_MO_step_442 ?_
    refine ab_top (nI_1 _) ?_
    exact ab_reti X hr0 hlk d_MO_step_443 (sR.no P236 (show stp hh aa x r [] sd = none by simp [stp, hx]) (by rw [e236, e228]; exact (ui_n _ (by omega)).trans ((ui_n _ (by omega)).trans (g225.trans (if_pos rfl)))))
  | cons w t =>
    have hL : t.length + 1 < 127 := hL
    have hd : w < 2000 := C.1.2.1.2
    refine ab_aload_n X 0 d_MO_step_0 rfl rfl ?_
    refine ab_gR X fl_MO_57 d_MO_step_1 (by first | assumption | decide | (show _ < 124; omega) | (show _ < 61; omega) | (show _ < 20; omega)) (P0.1.mo15) ?_
    refine ab_iload_n X 1 d_MO_step_4 rfl rfl ?_
    refine ab_iald X (i) ⟨rfl, rfl⟩ d_MO_step_5 (by first | assumption | decide | (show _ < 124; omega) | (show _ < 61; omega) | (show _ < 20; omega)) (rfl) (show i < 7200 by omega) (ab_ln_lt _ _) ?_
    refine ab_top ex ?_
    refine ab_sipush (v := 1000) X d_MO_step_6 (by decide) ?_
    refine ab_idiv X d_MO_step_9 (by decide) ?_
    refine ab_top ((div_nI bx).trans (congrArg nI hx)) ?_
    refine ab_istore4 X 0 1 2 3 d_MO_step_10 (by decide) rfl rfl rfl rfl rfl rfl rfl rfl ?_
    refine ab_aload_n X 1 d_MO_step_12 rfl rfl ?_
    refine ab_gR X fl_MO_57 d_MO_step_13 (by first | assumption | decide | (show _ < 124; omega) | (show _ < 61; omega) | (show _ < 20; omega)) (P0.1.mo15) ?_
    refine ab_iload_n X 2 d_MO_step_16 rfl rfl ?_
    refine ab_iald X (i) ⟨rfl, rfl⟩ d_MO_step_17 (by first | assumption | decide | (show _ < 124; omega) | (show _ < 61; omega) | (show _ < 20; omega)) (rfl) (show i < 7200 by omega) (ab_ln_lt _ _) ?_
    refine ab_top ex ?_
    refine ab_sipush (v := 1000) X d_MO_step_18 (by decide) ?_
    refine ab_irem X d_MO_step_21 (by decide) ?_
    refine ab_top (rem_nI bx) ?_
    refine ab_istore5 X 0 1 2 3 4 d_MO_step_22 (by decide) rfl rfl rfl rfl rfl rfl rfl rfl rfl rfl ?_
    refine ab_iload X 1 d_MO_step_24 rfl ?_
    refine ab_iconst (v := 1) X d_MO_step_26 (by decide) ?_
    refine ab_icmp_ne X 73 d_MO_step_27 rfl (fun _ => ?_) (fun hb => absurd hb ((by decide)))
    refine ab_iload X 1 d_MO_step_73 rfl ?_
    refine ab_iconst (v := 2) X d_MO_step_75 (by decide) ?_
    refine ab_icmp_ne X 103 d_MO_step_76 rfl (fun _ => ?_) (fun hb => absurd hb ((by decide)))
    refine ab_iload X 1 d_MO_step_103 rfl ?_
    refine ab_iconst (v := 3) X d_MO_step_105 (by decide) ?_
    refine ab_icmp_eq X 115 d_MO_step_106 rfl (fun hb => absurd hb ((by decide))) (fun _ => ?_)
    refine ab_iload X 1 d_MO_step_109 rfl ?_
    refine ab_iconst (v := 4) X d_MO_step_111 (by decide) ?_
    refine ab_icmp_ne X 144 d_MO_step_112 rfl (fun _ => ?_) (fun hb => absurd hb ((by decide)))
    refine ab_iload X 1 d_MO_step_144 rfl ?_
    refine ab_iconst (v := 5) X d_MO_step_146 (by decide) ?_
    refine ab_icmp_ne X 165 d_MO_step_147 rfl (fun _ => ?_) (fun hb => absurd hb ((by decide)))
    refine ab_iload X 1 d_MO_step_165 rfl ?_
    refine ab_bipush (v := 9) X d_MO_step_167 (by decide) ?_
    refine ab_icmp_ge X 181 d_MO_step_169 rfl (fun _ => ?_) (fun hb => absurd ((by decide)) hb)
    refine ab_iload X 1 d_MO_step_181 rfl ?_
    refine ab_bipush (v := 9) X d_MO_step_183 (by decide) ?_
    refine ab_icmp_ne X 209 d_MO_step_185 rfl (fun _ => ?_) (fun hb => absurd hb ((by decide)))
    refine ab_iload X 1 d_MO_step_209 rfl ?_
    refine ab_bipush (v := 10) X d_MO_step_211 (by decide) ?_
    refine ab_icmp_ne X 242 d_MO_step_213 rfl (fun hb => absurd ((by decide)) hb) (fun _ => ?_)
    refine ab_aload_n X 2 d_MO_step_216 rfl rfl ?_
    refine ab_gR X fl_MO_120 d_MO_step_217 (by first | assumption | decide | (show _ < 124; omega) | (show _ < 61; omega) | (show _ < 20; omega)) (P0.1.mo36) ?_
    refine ab_aload_n X 2 d_MO_step_220 rfl rfl ?_
    refine ab_gI X fl_MO_123 d_MO_step_221 (by first | assumption | decide | (show _ < 124; omega) | (show _ < 61; omega) | (show _ < 20; omega)) (C.2.1) ?_
    refine ab_aload_n X 2 d_MO_step_224 rfl rfl ?_
    refine ab_callV (as := []) X (fun h => by cases h) (z_MO_take u (w :: t) sd h C (by show t.length + 1 ≤ 128; omega)) lk_MO_294 d_MO_step_225 rfl rfl (by first | assumption | decide | (show _ < 124; omega) | (show _ < 61; omega) | (show _ < 20; omega)) ⟨by first | exact Nat.le_of_ble_eq_true rfl | (simp only [ab_rm]; omega), by first | exact Nat.le_of_ble_eq_true rfl | (simp only [ab_rm]; omega)⟩ ⟨by first | exact Nat.le_of_ble_eq_true rfl | (simp only [ab_rm]; omega), by first | exact Nat.le_of_ble_eq_true rfl | (simp only [ab_rm]; omega)⟩ (Nat.le_of_ble_eq_true rfl) (fun u225 r225 h225 => ?_)
    obtain ⟨⟨z225, c225, g225⟩, rfl⟩ := h225
    have q225 := z225
    have P225 := P0.trans q225 (by decide)
    refine ab_iast X (sd.length) ⟨rfl, rfl⟩ d_MO_step_228 (by first | assumption | decide | (show _ < 124; omega) | (show _ < 61; omega) | (show _ < 20; omega)) (rfl) (show sd.length < 64 by omega) (ab_ln_lt _ _) ?_
    refine ab_gen (fun u228 e228 => ?_)
    have P228 : gP [35, 37, 40, 118, 119] u u228 := by rw [e228]; exact P225.ui rfl (by decide)
    refine ab_aload_n X 2 d_MO_step_229 rfl rfl ?_
    refine ab_dup X d_MO_step_230 rfl ?_
    refine ab_gI X fl_MO_123 d_MO_step_231 (by first | assumption | decide | (show _ < 124; omega) | (show _ < 61; omega) | (show _ < 20; omega)) ((show _ = nI sd.length by rw [e228]; exact (ui_n _ (by omega)).trans c225.2.1)) ?_
    refine ab_iconst (v := 1) X d_MO_step_234 (by decide) ?_
    refine ab_iadd X d_MO_step_235 ?_
    refine ab_top (nI_1 _) ?_
    refine ab_putI X fp_MO_123 d_MO_step_236 (by first | assumption | decide | (show _ < 124; omega) | (show _ < 61; omega) | (show _ < 20; omega)) rfl rfl ?_
    refine ab_gen (fun u236 e236 => ?_)
    have P236 : gP [35, 37, 40, 118, 119] u u236 := by rw [e236]; exact P228.ui rfl (by decide)
    refine ab_goto X 440 d_MO_step_239 rfl ?_
    refine ab_iload_n X 3 d_MO_step_440 rfl rfl ?_
    refine ab_iconst (v := 1) X d_MO_step_441 (by decide) ?_
    refine ab_iadd X d_MO_step_442 ?_
    refine ab_top (nI_1 _) ?_
    exact ab_reti X hr0 hlk d_MO_step_443 (sR.yes P236 (show stp hh aa x r (w :: t) sd = some (r, t, w :: sd) by simp [stp, hx]) (by rw [e236, e228]; exact (ui_n _ (by omega)).trans ((ui_n _ (by omega)).trans (g225.trans (cn_n.trans e6)))) (by rw [e236, e228]; exact rM.aside (sd := sd) c225 hd))
set_option maxRecDepth 100000 in
set_option maxHeartbeats 1000000 in
theorem z_MO_st11 (u : ab_S) (st sd : List Nat) (h : mR u.2.1) (C : rM u st sd) (hh aa : Int32) (x i : Nat) (r : List Nat) (hL : st.length < 127) (hS : sd.length < 63) (ex : u.1 18 9 i = nI x) (bx : x < 20000) (e6 : u.1 17 0 40 = 0) (Wr : wR u i r) (G : gd x r st) (hx : x / 1000 = 11) : ab_C false l D ca y_MO_step b_MO_step 7 (some FieldType.int) 3 ab_nQ u [ab_O 17 0, ab_I (nI i), ab_I hh, ab_I aa] (fun u' w => sR hh aa x r st sd i u u' w) := by
  refine ab_C.of (by decide) (Nat.le_of_ble_eq_true rfl) ?_
  intro p e s m args below meth c ad X hZ hr0 hlk
  have P0 : gP [35, 37, 40, 118, 119] u u := gP.rf h
  have hi := Wr.1
  cases sd with
  | nil =>
    refine ab_aload_n X 0 d_MO_step_0 rfl rfl ?_
    refine ab_gR X fl_MO_57 d_MO_step_1 (by first | assumption | decide | (show _ < 124; omega) | (show _ < 61; omega) | (show _ < 20; omega)) (P0.1.mo15) ?_
    refine ab_iload_n X 1 d_MO_step_4 rfl rfl ?_
    refine ab_iald X (i) ⟨rfl, rfl⟩ d_MO_step_5 (by first | assumption | decide | (show _ < 124; omega) | (show _ < 61; omega) | (show _ < 20; omega)) (rfl) (show i < 7200 by omega) (ab_ln_lt _ _) ?_
    refine ab_top ex ?_
    refine ab_sipush (v := 1000) X d_MO_step_6 (by decide) ?_
    refine ab_idiv X d_MO_step_9 (by decide) ?_
    refine ab_top ((div_nI bx).trans (congrArg nI hx)) ?_
    refine ab_istore4 X 0 1 2 3 d_MO_step_10 (by decide) rfl rfl rfl rfl rfl rfl rfl rfl ?_
    refine ab_aload_n X 1 d_MO_step_12 rfl rfl ?_
    refine ab_gR X fl_MO_57 d_MO_step_13 (by first | assumption | decide | (show _ < 124; omega) | (show _ < 61; omega) | (show _ < 20; omega)) (P0.1.mo15) ?_
    refine ab_iload_n X 2 d_MO_step_16 rfl rfl ?_
    refine ab_iald X (i) ⟨rfl, rfl⟩ d_MO_step_17 (by first | assumption | decide | (show _ < 124; omega) | (show _ < 61; omega) | (show _ < 20; omega)) (rfl) (show i < 7200 by omega) (ab_ln_lt _ _) ?_
    refine ab_top ex ?_
    refine ab_sipush (v := 1000) X d_MO_step_18 (by decide) ?_
    refine ab_irem X d_MO_step_21 (by decide) ?_
    refine ab_top (rem_nI bx) ?_
    refine ab_istore5 X 0 1 2 3 4 d_MO_step_22 (by decide) rfl rfl rfl rfl rfl rfl rfl rfl rfl rfl ?_
    refine ab_iload X 1 d_MO_step_24 rfl ?_
    refine ab_iconst (v := 1) X d_MO_step_26 (by decide) ?_
    refine ab_icmp_ne X 73 d_MO_step_27 rfl (fun _ => ?_) (fun hb => absurd hb ((by decide)))
    refine ab_iload X 1 d_MO_step_73 rfl ?_
    refine ab_iconst (v := 2) X d_MO_step_75 (by decide) ?_
    refine ab_icmp_ne X 103 d_MO_step_76 rfl (fun _ => ?_) (fun hb => absurd hb ((by decide)))
    refine ab_iload X 1 d_MO_step_103 rfl ?_
    refine ab_iconst (v := 3) X d_MO_step_105 (by decide) ?_
    refine ab_icmp_eq X 115 d_MO_step_106 rfl (fun hb => absurd hb ((by decide))) (fun _ => ?_)
    refine ab_iload X 1 d_MO_step_109 rfl ?_
    refine ab_iconst (v := 4) X d_MO_step_111 (by decide) ?_
    refine ab_icmp_ne X 144 d_MO_step_112 rfl (fun _ => ?_) (fun hb => absurd hb ((by decide)))
    refine ab_iload X 1 d_MO_step_144 rfl ?_
    refine ab_iconst (v := 5) X d_MO_step_146 (by decide) ?_
    refine ab_icmp_ne X 165 d_MO_step_147 rfl (fun _ => ?_) (fun hb => absurd hb ((by decide)))
    refine ab_iload X 1 d_MO_step_165 rfl ?_
    refine ab_bipush (v := 9) X d_MO_step_167 (by decide) ?_
    refine ab_icmp_ge X 181 d_MO_step_169 rfl (fun _ => ?_) (fun hb => absurd ((by decide)) hb)
    refine ab_iload X 1 d_MO_step_181 rfl ?_
    refine ab_bipush (v := 9) X d_MO_step_183 (by decide) ?_
    refine ab_icmp_ne X 209 d_MO_step_185 rfl (fun _ => ?_) (fun hb => absurd hb ((by decide)))
    refine ab_iload X 1 d_MO_step_209 rfl ?_
    refine ab_bipush (v := 10) X d_MO_step_211 (by decide) ?_
    refine ab_icmp_ne X 242 d_MO_step_213 rfl (fun _ => ?_) (fun hb => absurd hb ((by decide)))
    refine ab_iload X 1 d_MO_step_242 rfl ?_
    refine ab_bipush (v := 11) X d_MO_step_244 (by decide) ?_
    refine ab_icmp_ne X 290 d_MO_step_246 rfl (fun hb => absurd ((by decide)) hb) (fun _ => ?_)
    refine ab_aload_n X 2 d_MO_step_249 rfl rfl ?_
    refine ab_gI X fl_MO_123 d_MO_step_250 (by first | assumption | decide | (show _ < 124; omega) | (show _ < 61; omega) | (show _ < 20; omega)) (C.2.1) ?_
    refine ab_if_ne X 264 d_MO_step_253 rfl (fun hb => absurd ((show nI ([] : List Nat).length = 0 from rfl)) hb) (fun _ => ?_)
    refine ab_aload_n X 2 d_MO_step_256 rfl rfl ?_
    refine ab_iconst (v := 1) X d_MO_step_257 (by decide) ?_
    refine ab_putI X fp_MO_132 d_MO_step_258 (by first | assumption | decide | (show _ < 124; omega) | (show _ < 61; omega) | (show _ < 20; omega)) rfl rfl ?_
    refine ab_gen (fun u258 e258 => ?_)
    have P258 : gP [35, 37, 40, 118, 119] u u258 := by rw [e258]; exact P0.ui rfl (by decide)
    refine ab_goto X 440 d_MO_step_261 rfl ?_
    refine ab_iload_n X 3 d_MO_step_440 rfl rfl ?_
    refine ab_iconst (v := 1) X d_MO_step_441 (by decide) ?_
    refine ab_iadd X d_MO_step_442 ?_
    refine ab_top (nI_1 _) ?_
    exact ab_reti X hr0 hlk d_MO_step_443 (sR.no P258 (show stp hh aa x r st [] = none by simp [stp, hx]) (by rw [e258]; exact ui_s _))
  | cons w t =>
    have hS : t.length + 1 < 63 := hS
    have hd : w < 2000 := C.2.2.1.2
    refine ab_aload_n X 0 d_MO_step_0 rfl rfl ?_
    refine ab_gR X fl_MO_57 d_MO_step_1 (by first | assumption | decide | (show _ < 124; omega) | (show _ < 61; omega) | (show _ < 20; omega)) (P0.1.mo15) ?_
    refine ab_iload_n X 1 d_MO_step_4 rfl rfl ?_
    refine ab_iald X (i) ⟨rfl, rfl⟩ d_MO_step_5 (by first | assumption | decide | (show _ < 124; omega) | (show _ < 61; omega) | (show _ < 20; omega)) (rfl) (show i < 7200 by omega) (ab_ln_lt _ _) ?_
    refine ab_top ex ?_
    refine ab_sipush (v := 1000) X d_MO_step_6 (by decide) ?_
    refine ab_idiv X d_MO_step_9 (by decide) ?_
    refine ab_top ((div_nI bx).trans (congrArg nI hx)) ?_
    refine ab_istore4 X 0 1 2 3 d_MO_step_10 (by decide) rfl rfl rfl rfl rfl rfl rfl rfl ?_
    refine ab_aload_n X 1 d_MO_step_12 rfl rfl ?_
    refine ab_gR X fl_MO_57 d_MO_step_13 (by first | assumption | decide | (show _ < 124; omega) | (show _ < 61; omega) | (show _ < 20; omega)) (P0.1.mo15) ?_
    refine ab_iload_n X 2 d_MO_step_16 rfl rfl ?_
    refine ab_iald X (i) ⟨rfl, rfl⟩ d_MO_step_17 (by first | assumption | decide | (show _ < 124; omega) | (show _ < 61; omega) | (show _ < 20; omega)) (rfl) (show i < 7200 by omega) (ab_ln_lt _ _) ?_
    refine ab_top ex ?_
    refine ab_sipush (v := 1000) X d_MO_step_18 (by decide) ?_
    refine ab_irem X d_MO_step_21 (by decide) ?_
    refine ab_top (rem_nI bx) ?_
    refine ab_istore5 X 0 1 2 3 4 d_MO_step_22 (by decide) rfl rfl rfl rfl rfl rfl rfl rfl rfl rfl ?_
    refine ab_iload X 1 d_MO_step_24 rfl ?_
    refine ab_iconst (v := 1) X d_MO_step_26 (by decide) ?_
    refine ab_icmp_ne X 73 d_MO_step_27 rfl (fun _ => ?_) (fun hb => absurd hb ((by decide)))
    refine ab_iload X 1 d_MO_step_73 rfl ?_
    refine ab_iconst (v := 2) X d_MO_step_75 (by decide) ?_
    refine ab_icmp_ne X 103 d_MO_step_76 rfl (fun _ => ?_) (fun hb => absurd hb ((by decide)))
    refine ab_iload X 1 d_MO_step_103 rfl ?_
    refine ab_iconst (v := 3) X d_MO_step_105 (by decide) ?_
    refine ab_icmp_eq X 115 d_MO_step_106 rfl (fun hb => absurd hb ((by decide))) (fun _ => ?_)
    refine ab_iload X 1 d_MO_step_109 rfl ?_
    refine ab_iconst (v := 4) X d_MO_step_111 (by decide) ?_
    refine ab_icmp_ne X 144 d_MO_step_112 rfl (fun _ => ?_) (fun hb => absurd hb ((by decide)))
    refine ab_iload X 1 d_MO_step_144 rfl ?_
    refine ab_iconst (v := 5) X d_MO_step_146 (by decide) ?_
    refine ab_icmp_ne X 165 d_MO_step_147 rfl (fun _ => ?_) (fun hb => absurd hb ((by decide)))
    refine ab_iload X 1 d_MO_step_165 rfl ?_
    refine ab_bipush (v := 9) X d_MO_step_167 (by decide) ?_
    refine ab_icmp_ge X 181 d_MO_step_169 rfl (fun _ => ?_) (fun hb => absurd ((by decide)) hb)
    refine ab_iload X 1 d_MO_step_181 rfl ?_
    refine ab_bipush (v := 9) X d_MO_step_183 (by decide) ?_
    refine ab_icmp_ne X 209 d_MO_step_185 rfl (fun _ => ?_) (fun hb => absurd hb ((by decide)))
    refine ab_iload X 1 d_MO_step_209 rfl ?_
    refine ab_bipush (v := 10) X d_MO_step_211 (by decide) ?_
    refine ab_icmp_ne X 242 d_MO_step_213 rfl (fun _ => ?_) (fun hb => absurd hb ((by decide)))
    refine ab_iload X 1 d_MO_step_242 rfl ?_
    refine ab_bipush (v := 11) X d_MO_step_244 (by decide) ?_
    refine ab_icmp_ne X 290 d_MO_step_246 rfl (fun hb => absurd ((by decide)) hb) (fun _ => ?_)
    refine ab_aload_n X 2 d_MO_step_249 rfl rfl ?_
    refine ab_gI X fl_MO_123 d_MO_step_250 (by first | assumption | decide | (show _ < 124; omega) | (show _ < 61; omega) | (show _ < 20; omega)) (C.2.1) ?_
    refine ab_if_ne X 264 d_MO_step_253 rfl (fun _ => ?_) (fun hb => absurd hb ((nI_n0 (by show t.length + 1 < _; omega) (Nat.succ_ne_zero _))))
    refine ab_aload_n X 2 d_MO_step_264 rfl rfl ?_
    refine ab_dup X d_MO_step_265 rfl ?_
    refine ab_gI X fl_MO_123 d_MO_step_266 (by first | assumption | decide | (show _ < 124; omega) | (show _ < 61; omega) | (show _ < 20; omega)) (C.2.1) ?_
    refine ab_iconst (v := 1) X d_MO_step_269 (by decide) ?_
    refine ab_isub X d_MO_step_270 ?_
    refine ab_top (nI_p1 t.length) ?_
    refine ab_putI X fp_MO_123 d_MO_step_271 (by first | assumption | decide | (show _ < 124; omega) | (show _ < 61; omega) | (show _ < 20; omega)) rfl rfl ?_
    refine ab_gen (fun u271 e271 => ?_)
    have P271 : gP [35, 37, 40, 118, 119] u u271 := by rw [e271]; exact P0.ui rfl (by decide)
    have c271 : rM u271 st t := by rw [e271]; exact C.back
    refine ab_aload_n X 2 d_MO_step_274 rfl rfl ?_
    refine ab_aload_n X 2 d_MO_step_275 rfl rfl ?_
    refine ab_gR X fl_MO_120 d_MO_step_276 (by first | assumption | decide | (show _ < 124; omega) | (show _ < 61; omega) | (show _ < 20; omega)) (P271.1.mo36) ?_
    refine ab_aload_n X 2 d_MO_step_279 rfl rfl ?_
    refine ab_gI X fl_MO_123 d_MO_step_280 (by first | assumption | decide | (show _ < 124; omega) | (show _ < 61; omega) | (show _ < 20; omega)) (c271.2.1) ?_
    refine ab_iald X (t.length) ⟨rfl, rfl⟩ d_MO_step_283 (by first | assumption | decide | (show _ < 124; omega) | (show _ < 61; omega) | (show _ < 20; omega)) (rfl) (show t.length < 64 by omega) (ab_ln_lt _ _) ?_
    refine ab_top (show _ = nI w by rw [e271]; exact (ui_n _ (by omega)).trans C.2.2.1.1) ?_
    refine ab_callV (as := [ab_I (nI w)]) X (fun h => by cases h) (z_MO_putOn u271 w st t P271.1 c271 hd (by omega)) lk_MO_301 d_MO_step_284 rfl rfl (by first | assumption | decide | (show _ < 124; omega) | (show _ < 61; omega) | (show _ < 20; omega)) ⟨by first | exact Nat.le_of_ble_eq_true rfl | (simp only [ab_rm]; omega), by first | exact Nat.le_of_ble_eq_true rfl | (simp only [ab_rm]; omega)⟩ ⟨by first | exact Nat.le_of_ble_eq_true rfl | (simp only [ab_rm]; omega), by first | exact Nat.le_of_ble_eq_true rfl | (simp only [ab_rm]; omega)⟩ (Nat.le_of_ble_eq_true rfl) (fun u284 r284 h284 => ?_)
    obtain ⟨⟨z284, c284, g284⟩, rfl⟩ := h284
    have q284 := z284
    have P284 := P271.trans q284 (by decide)
    refine ab_goto X 440 d_MO_step_287 rfl ?_
    refine ab_iload_n X 3 d_MO_step_440 rfl rfl ?_
    refine ab_iconst (v := 1) X d_MO_step_441 (by decide) ?_
    refine ab_iadd X d_MO_step_442 ?_
    refine ab_top (nI_1 _) ?_
    exact ab_reti X hr0 hlk d_MO_step_443 (sR.yes P284 (show stp hh aa x r st (w :: t) = some (r, w :: st, t) by simp [stp, hx]) (g284.trans (by rw [e271]; exact (ui_n _ (by omega)).trans e6)) c284)
set_option maxRecDepth 100000 in
set_option maxHeartbeats 1000000 in
theorem z_MO_st12 (u : ab_S) (st sd : List Nat) (h : mR u.2.1) (C : rM u st sd) (hh aa : Int32) (x i : Nat) (r : List Nat) (hL : st.length < 127) (hS : sd.length < 63) (ex : u.1 18 9 i = nI x) (bx : x < 20000) (e6 : u.1 17 0 40 = 0) (Wr : wR u i r) (G : gd x r st) (hx : x / 1000 = 12) : ab_C false l D ca y_MO_step b_MO_step 7 (some FieldType.int) 3 ab_nQ u [ab_O 17 0, ab_I (nI i), ab_I hh, ab_I aa] (fun u' w => sR hh aa x r st sd i u u' w) := by
  refine ab_C.of (by decide) (Nat.le_of_ble_eq_true rfl) ?_
  intro p e s m args below meth c ad X hZ hr0 hlk
  have P0 : gP [35, 37, 40, 118, 119] u u := gP.rf h
  have hi := Wr.1
  obtain ⟨n, hf⟩ := G.2.1 hx
  cases st with
  | nil =>
    refine ab_aload_n X 0 d_MO_step_0 rfl rfl ?_
    refine ab_gR X fl_MO_57 d_MO_step_1 (by first | assumption | decide | (show _ < 124; omega) | (show _ < 61; omega) | (show _ < 20; omega)) (P0.1.mo15) ?_
    refine ab_iload_n X 1 d_MO_step_4 rfl rfl ?_
    refine ab_iald X (i) ⟨rfl, rfl⟩ d_MO_step_5 (by first | assumption | decide | (show _ < 124; omega) | (show _ < 61; omega) | (show _ < 20; omega)) (rfl) (show i < 7200 by omega) (ab_ln_lt _ _) ?_
    refine ab_top ex ?_
    refine ab_sipush (v := 1000) X d_MO_step_6 (by decide) ?_
    refine ab_idiv X d_MO_step_9 (by decide) ?_
    refine ab_top ((div_nI bx).trans (congrArg nI hx)) ?_
    refine ab_istore4 X 0 1 2 3 d_MO_step_10 (by decide) rfl rfl rfl rfl rfl rfl rfl rfl ?_
    refine ab_aload_n X 1 d_MO_step_12 rfl rfl ?_
    refine ab_gR X fl_MO_57 d_MO_step_13 (by first | assumption | decide | (show _ < 124; omega) | (show _ < 61; omega) | (show _ < 20; omega)) (P0.1.mo15) ?_
    refine ab_iload_n X 2 d_MO_step_16 rfl rfl ?_
    refine ab_iald X (i) ⟨rfl, rfl⟩ d_MO_step_17 (by first | assumption | decide | (show _ < 124; omega) | (show _ < 61; omega) | (show _ < 20; omega)) (rfl) (show i < 7200 by omega) (ab_ln_lt _ _) ?_
    refine ab_top ex ?_
    refine ab_sipush (v := 1000) X d_MO_step_18 (by decide) ?_
    refine ab_irem X d_MO_step_21 (by decide) ?_
    refine ab_top (rem_nI bx) ?_
    refine ab_istore5 X 0 1 2 3 4 d_MO_step_22 (by decide) rfl rfl rfl rfl rfl rfl rfl rfl rfl rfl ?_
    refine ab_iload X 1 d_MO_step_24 rfl ?_
    refine ab_iconst (v := 1) X d_MO_step_26 (by decide) ?_
    refine ab_icmp_ne X 73 d_MO_step_27 rfl (fun _ => ?_) (fun hb => absurd hb ((by decide)))
    refine ab_iload X 1 d_MO_step_73 rfl ?_
    refine ab_iconst (v := 2) X d_MO_step_75 (by decide) ?_
    refine ab_icmp_ne X 103 d_MO_step_76 rfl (fun _ => ?_) (fun hb => absurd hb ((by decide)))
    refine ab_iload X 1 d_MO_step_103 rfl ?_
    refine ab_iconst (v := 3) X d_MO_step_105 (by decide) ?_
    refine ab_icmp_eq X 115 d_MO_step_106 rfl (fun hb => absurd hb ((by decide))) (fun _ => ?_)
    refine ab_iload X 1 d_MO_step_109 rfl ?_
    refine ab_iconst (v := 4) X d_MO_step_111 (by decide) ?_
    refine ab_icmp_ne X 144 d_MO_step_112 rfl (fun _ => ?_) (fun hb => absurd hb ((by decide)))
    refine ab_iload X 1 d_MO_step_144 rfl ?_
    refine ab_iconst (v := 5) X d_MO_step_146 (by decide) ?_
    refine ab_icmp_ne X 165 d_MO_step_147 rfl (fun _ => ?_) (fun hb => absurd hb ((by decide)))
    refine ab_iload X 1 d_MO_step_165 rfl ?_
    refine ab_bipush (v := 9) X d_MO_step_167 (by decide) ?_
    refine ab_icmp_ge X 181 d_MO_step_169 rfl (fun _ => ?_) (fun hb => absurd ((by decide)) hb)
    refine ab_iload X 1 d_MO_step_181 rfl ?_
    refine ab_bipush (v := 9) X d_MO_step_183 (by decide) ?_
    refine ab_icmp_ne X 209 d_MO_step_185 rfl (fun _ => ?_) (fun hb => absurd hb ((by decide)))
    refine ab_iload X 1 d_MO_step_209 rfl ?_
    refine ab_bipush (v := 10) X d_MO_step_211 (by decide) ?_
    refine ab_icmp_ne X 242 d_MO_step_213 rfl (fun _ => ?_) (fun hb => absurd hb ((by decide)))
    refine ab_iload X 1 d_MO_step_242 rfl ?_
    refine ab_bipush (v := 11) X d_MO_step_244 (by decide) ?_
    refine ab_icmp_ne X 290 d_MO_step_246 rfl (fun _ => ?_) (fun hb => absurd hb ((by decide)))
    refine ab_iload X 1 d_MO_step_290 rfl ?_
    refine ab_bipush (v := 12) X d_MO_step_292 (by decide) ?_
    refine ab_icmp_ne X 345 d_MO_step_294 rfl (fun hb => absurd ((by decide)) hb) (fun _ => ?_)
    refine ab_aload_n X 2 d_MO_step_297 rfl rfl ?_
    refine ab_callV (as := []) X (fun h => by cases h) (z_MO_take u [] sd h C (by decide)) lk_MO_294 d_MO_step_298 rfl rfl (by first | assumption | decide | (show _ < 124; omega) | (show _ < 61; omega) | (show _ < 20; omega)) ⟨by first | exact Nat.le_of_ble_eq_true rfl | (simp only [ab_rm]; omega), by first | exact Nat.le_of_ble_eq_true rfl | (simp only [ab_rm]; omega)⟩ ⟨by first | exact Nat.le_of_ble_eq_true rfl | (simp only [ab_rm]; omega), by first | exact Nat.le_of_ble_eq_true rfl | (simp only [ab_rm]; omega)⟩ (Nat.le_of_ble_eq_true rfl) (fun u298 r298 h298 => ?_)
    obtain ⟨⟨z298, c298, g298⟩, rfl⟩ := h298
    have q298 := z298
    have P298 := P0.trans q298 (by decide)
    refine ab_istore6 X 0 1 2 3 4 5 d_MO_step_301 (by decide) rfl rfl rfl rfl rfl rfl rfl rfl rfl rfl rfl rfl ?_
    refine ab_iload X 0 d_MO_step_303 rfl ?_
    refine ab_iconst (v := 1) X d_MO_step_305 (by decide) ?_
    refine ab_icmp_le X 314 d_MO_step_306 rfl (fun _ => ?_) (fun hb => absurd ((show nI ([] : List Nat).length ≤ 1 by decide)) hb)
    refine ab_iload X 0 d_MO_step_314 rfl ?_
    refine ab_iconst (v := 1) X d_MO_step_316 (by decide) ?_
    refine ab_icmp_ne X 326 d_MO_step_317 rfl (fun _ => ?_) (fun hb => absurd hb ((show ¬ nI ([] : List Nat).length = 1 by decide)))
    refine ab_aload_n X 3 d_MO_step_326 rfl rfl ?_
    refine ab_gI X fl_MO_132 d_MO_step_327 (by first | assumption | decide | (show _ < 124; omega) | (show _ < 61; omega) | (show _ < 20; omega)) ((g298.trans (if_pos rfl))) ?_
    refine ab_if_eq X 337 d_MO_step_330 rfl (fun hb => absurd hb ((by decide))) (fun _ => ?_)
    refine ab_iload_n X 4 d_MO_step_333 rfl rfl ?_
    refine ab_goto X 344 d_MO_step_334 rfl ?_
    exact ab_reti X hr0 hlk d_MO_step_344 (sR.no P298 (show stp hh aa x r [] sd = none by simp [stp, hx]) (g298.trans (if_pos rfl)))
  | cons w t =>
    have hL : t.length + 1 < 127 := hL
    have hd : w < 2000 := C.1.2.1.2
    by_cases q1 : w = 1
    ·
      refine ab_aload_n X 0 d_MO_step_0 rfl rfl ?_
      refine ab_gR X fl_MO_57 d_MO_step_1 (by first | assumption | decide | (show _ < 124; omega) | (show _ < 61; omega) | (show _ < 20; omega)) (P0.1.mo15) ?_
      refine ab_iload_n X 1 d_MO_step_4 rfl rfl ?_
      refine ab_iald X (i) ⟨rfl, rfl⟩ d_MO_step_5 (by first | assumption | decide | (show _ < 124; omega) | (show _ < 61; omega) | (show _ < 20; omega)) (rfl) (show i < 7200 by omega) (ab_ln_lt _ _) ?_
      refine ab_top ex ?_
      refine ab_sipush (v := 1000) X d_MO_step_6 (by decide) ?_
      refine ab_idiv X d_MO_step_9 (by decide) ?_
      refine ab_top ((div_nI bx).trans (congrArg nI hx)) ?_
      refine ab_istore4 X 0 1 2 3 d_MO_step_10 (by decide) rfl rfl rfl rfl rfl rfl rfl rfl ?_
      refine ab_aload_n X 1 d_MO_step_12 rfl rfl ?_
      refine ab_gR X fl_MO_57 d_MO_step_13 (by first | assumption | decide | (show _ < 124; omega) | (show _ < 61; omega) | (show _ < 20; omega)) (P0.1.mo15) ?_
      refine ab_iload_n X 2 d_MO_step_16 rfl rfl ?_
      refine ab_iald X (i) ⟨rfl, rfl⟩ d_MO_step_17 (by first | assumption | decide | (show _ < 124; omega) | (show _ < 61; omega) | (show _ < 20; omega)) (rfl) (show i < 7200 by omega) (ab_ln_lt _ _) ?_
      refine ab_top ex ?_
      refine ab_sipush (v := 1000) X d_MO_step_18 (by decide) ?_
      refine ab_irem X d_MO_step_21 (by decide) ?_
      refine ab_top (rem_nI bx) ?_
      refine ab_istore5 X 0 1 2 3 4 d_MO_step_22 (by decide) rfl rfl rfl rfl rfl rfl rfl rfl rfl rfl ?_
      refine ab_iload X 1 d_MO_step_24 rfl ?_
      refine ab_iconst (v := 1) X d_MO_step_26 (by decide) ?_
      refine ab_icmp_ne X 73 d_MO_step_27 rfl (fun _ => ?_) (fun hb => absurd hb ((by decide)))
      refine ab_iload X 1 d_MO_step_73 rfl ?_
      refine ab_iconst (v := 2) X d_MO_step_75 (by decide) ?_
      refine ab_icmp_ne X 103 d_MO_step_76 rfl (fun _ => ?_) (fun hb => absurd hb ((by decide)))
      refine ab_iload X 1 d_MO_step_103 rfl ?_
      refine ab_iconst (v := 3) X d_MO_step_105 (by decide) ?_
      refine ab_icmp_eq X 115 d_MO_step_106 rfl (fun hb => absurd hb ((by decide))) (fun _ => ?_)
      refine ab_iload X 1 d_MO_step_109 rfl ?_
      refine ab_iconst (v := 4) X d_MO_step_111 (by decide) ?_
      refine ab_icmp_ne X 144 d_MO_step_112 rfl (fun _ => ?_) (fun hb => absurd hb ((by decide)))
      refine ab_iload X 1 d_MO_step_144 rfl ?_
      refine ab_iconst (v := 5) X d_MO_step_146 (by decide) ?_
      refine ab_icmp_ne X 165 d_MO_step_147 rfl (fun _ => ?_) (fun hb => absurd hb ((by decide)))
      refine ab_iload X 1 d_MO_step_165 rfl ?_
      refine ab_bipush (v := 9) X d_MO_step_167 (by decide) ?_
      refine ab_icmp_ge X 181 d_MO_step_169 rfl (fun _ => ?_) (fun hb => absurd ((by decide)) hb)
      refine ab_iload X 1 d_MO_step_181 rfl ?_
      refine ab_bipush (v := 9) X d_MO_step_183 (by decide) ?_
      refine ab_icmp_ne X 209 d_MO_step_185 rfl (fun _ => ?_) (fun hb => absurd hb ((by decide)))
      refine ab_iload X 1 d_MO_step_209 rfl ?_
      refine ab_bipush (v := 10) X d_MO_step_211 (by decide) ?_
      refine ab_icmp_ne X 242 d_MO_step_213 rfl (fun _ => ?_) (fun hb => absurd hb ((by decide)))
      refine ab_iload X 1 d_MO_step_242 rfl ?_
      refine ab_bipush (v := 11) X d_MO_step_244 (by decide) ?_
      refine ab_icmp_ne X 290 d_MO_step_246 rfl (fun _ => ?_) (fun hb => absurd hb ((by decide)))
      refine ab_iload X 1 d_MO_step_290 rfl ?_
      refine ab_bipush (v := 12) X d_MO_step_292 (by decide) ?_
      refine ab_icmp_ne X 345 d_MO_step_294 rfl (fun hb => absurd ((by decide)) hb) (fun _ => ?_)
      refine ab_aload_n X 2 d_MO_step_297 rfl rfl ?_
      refine ab_callV (as := []) X (fun h => by cases h) (z_MO_take u (w :: t) sd h C (by show t.length + 1 ≤ 128; omega)) lk_MO_294 d_MO_step_298 rfl rfl (by first | assumption | decide | (show _ < 124; omega) | (show _ < 61; omega) | (show _ < 20; omega)) ⟨by first | exact Nat.le_of_ble_eq_true rfl | (simp only [ab_rm]; omega), by first | exact Nat.le_of_ble_eq_true rfl | (simp only [ab_rm]; omega)⟩ ⟨by first | exact Nat.le_of_ble_eq_true rfl | (simp only [ab_rm]; omega), by first | exact Nat.le_of_ble_eq_true rfl | (simp only [ab_rm]; omega)⟩ (Nat.le_of_ble_eq_true rfl) (fun u298 r298 h298 => ?_)
      obtain ⟨⟨z298, c298, g298⟩, rfl⟩ := h298
      have q298 := z298
      have P298 := P0.trans q298 (by decide)
      refine ab_istore6 X 0 1 2 3 4 5 d_MO_step_301 (by decide) rfl rfl rfl rfl rfl rfl rfl rfl rfl rfl rfl rfl ?_
      refine ab_iload X 0 d_MO_step_303 rfl ?_
      refine ab_iconst (v := 1) X d_MO_step_305 (by decide) ?_
      refine ab_icmp_le X 314 d_MO_step_306 rfl (fun _ => ?_) (fun hb => absurd ((nI_le (b := 1) (by show w ≤ 1; omega) (by decide))) hb)
      refine ab_iload X 0 d_MO_step_314 rfl ?_
      refine ab_iconst (v := 1) X d_MO_step_316 (by decide) ?_
      refine ab_icmp_ne X 326 d_MO_step_317 rfl (fun hb => absurd ((congrArg nI q1)) hb) (fun _ => ?_)
      refine ab_iload_n X 4 d_MO_step_320 rfl rfl ?_
      refine ab_iconst (v := 1) X d_MO_step_321 (by decide) ?_
      refine ab_iadd X d_MO_step_322 ?_
      refine ab_top (nI_1 _) ?_
      refine ab_goto X 344 d_MO_step_323 rfl ?_
      exact ab_reti X hr0 hlk d_MO_step_344 (sR.yes P298 (show stp hh aa x r (w :: t) sd = some (r, t, sd) by simp [stp, hx, q1]) (g298.trans (cn_n.trans e6)) (c298))
    · by_cases q0 : w = 0
      ·
        refine ab_aload_n X 0 d_MO_step_0 rfl rfl ?_
        refine ab_gR X fl_MO_57 d_MO_step_1 (by first | assumption | decide | (show _ < 124; omega) | (show _ < 61; omega) | (show _ < 20; omega)) (P0.1.mo15) ?_
        refine ab_iload_n X 1 d_MO_step_4 rfl rfl ?_
        refine ab_iald X (i) ⟨rfl, rfl⟩ d_MO_step_5 (by first | assumption | decide | (show _ < 124; omega) | (show _ < 61; omega) | (show _ < 20; omega)) (rfl) (show i < 7200 by omega) (ab_ln_lt _ _) ?_
        refine ab_top ex ?_
        refine ab_sipush (v := 1000) X d_MO_step_6 (by decide) ?_
        refine ab_idiv X d_MO_step_9 (by decide) ?_
        refine ab_top ((div_nI bx).trans (congrArg nI hx)) ?_
        refine ab_istore4 X 0 1 2 3 d_MO_step_10 (by decide) rfl rfl rfl rfl rfl rfl rfl rfl ?_
        refine ab_aload_n X 1 d_MO_step_12 rfl rfl ?_
        refine ab_gR X fl_MO_57 d_MO_step_13 (by first | assumption | decide | (show _ < 124; omega) | (show _ < 61; omega) | (show _ < 20; omega)) (P0.1.mo15) ?_
        refine ab_iload_n X 2 d_MO_step_16 rfl rfl ?_
        refine ab_iald X (i) ⟨rfl, rfl⟩ d_MO_step_17 (by first | assumption | decide | (show _ < 124; omega) | (show _ < 61; omega) | (show _ < 20; omega)) (rfl) (show i < 7200 by omega) (ab_ln_lt _ _) ?_
        refine ab_top ex ?_
        refine ab_sipush (v := 1000) X d_MO_step_18 (by decide) ?_
        refine ab_irem X d_MO_step_21 (by decide) ?_
        refine ab_top (rem_nI bx) ?_
        refine ab_istore5 X 0 1 2 3 4 d_MO_step_22 (by decide) rfl rfl rfl rfl rfl rfl rfl rfl rfl rfl ?_
        refine ab_iload X 1 d_MO_step_24 rfl ?_
        refine ab_iconst (v := 1) X d_MO_step_26 (by decide) ?_
        refine ab_icmp_ne X 73 d_MO_step_27 rfl (fun _ => ?_) (fun hb => absurd hb ((by decide)))
        refine ab_iload X 1 d_MO_step_73 rfl ?_
        refine ab_iconst (v := 2) X d_MO_step_75 (by decide) ?_
        refine ab_icmp_ne X 103 d_MO_step_76 rfl (fun _ => ?_) (fun hb => absurd hb ((by decide)))
        refine ab_iload X 1 d_MO_step_103 rfl ?_
        refine ab_iconst (v := 3) X d_MO_step_105 (by decide) ?_
        refine ab_icmp_eq X 115 d_MO_step_106 rfl (fun hb => absurd hb ((by decide))) (fun _ => ?_)
        refine ab_iload X 1 d_MO_step_109 rfl ?_
        refine ab_iconst (v := 4) X d_MO_step_111 (by decide) ?_
        refine ab_icmp_ne X 144 d_MO_step_112 rfl (fun _ => ?_) (fun hb => absurd hb ((by decide)))
        refine ab_iload X 1 d_MO_step_144 rfl ?_
        refine ab_iconst (v := 5) X d_MO_step_146 (by decide) ?_
        refine ab_icmp_ne X 165 d_MO_step_147 rfl (fun _ => ?_) (fun hb => absurd hb ((by decide)))
        refine ab_iload X 1 d_MO_step_165 rfl ?_
        refine ab_bipush (v := 9) X d_MO_step_167 (by decide) ?_
        refine ab_icmp_ge X 181 d_MO_step_169 rfl (fun _ => ?_) (fun hb => absurd ((by decide)) hb)
        refine ab_iload X 1 d_MO_step_181 rfl ?_
        refine ab_bipush (v := 9) X d_MO_step_183 (by decide) ?_
        refine ab_icmp_ne X 209 d_MO_step_185 rfl (fun _ => ?_) (fun hb => absurd hb ((by decide)))
        refine ab_iload X 1 d_MO_step_209 rfl ?_
        refine ab_bipush (v := 10) X d_MO_step_211 (by decide) ?_
        refine ab_icmp_ne X 242 d_MO_step_213 rfl (fun _ => ?_) (fun hb => absurd hb ((by decide)))
        refine ab_iload X 1 d_MO_step_242 rfl ?_
        refine ab_bipush (v := 11) X d_MO_step_244 (by decide) ?_
        refine ab_icmp_ne X 290 d_MO_step_246 rfl (fun _ => ?_) (fun hb => absurd hb ((by decide)))
        refine ab_iload X 1 d_MO_step_290 rfl ?_
        refine ab_bipush (v := 12) X d_MO_step_292 (by decide) ?_
        refine ab_icmp_ne X 345 d_MO_step_294 rfl (fun hb => absurd ((by decide)) hb) (fun _ => ?_)
        refine ab_aload_n X 2 d_MO_step_297 rfl rfl ?_
        refine ab_callV (as := []) X (fun h => by cases h) (z_MO_take u (w :: t) sd h C (by show t.length + 1 ≤ 128; omega)) lk_MO_294 d_MO_step_298 rfl rfl (by first | assumption | decide | (show _ < 124; omega) | (show _ < 61; omega) | (show _ < 20; omega)) ⟨by first | exact Nat.le_of_ble_eq_true rfl | (simp only [ab_rm]; omega), by first | exact Nat.le_of_ble_eq_true rfl | (simp only [ab_rm]; omega)⟩ ⟨by first | exact Nat.le_of_ble_eq_true rfl | (simp only [ab_rm]; omega), by first | exact Nat.le_of_ble_eq_true rfl | (simp only [ab_rm]; omega)⟩ (Nat.le_of_ble_eq_true rfl) (fun u298 r298 h298 => ?_)
        obtain ⟨⟨z298, c298, g298⟩, rfl⟩ := h298
        have q298 := z298
        have P298 := P0.trans q298 (by decide)
        refine ab_istore6 X 0 1 2 3 4 5 d_MO_step_301 (by decide) rfl rfl rfl rfl rfl rfl rfl rfl rfl rfl rfl rfl ?_
        refine ab_iload X 0 d_MO_step_303 rfl ?_
        refine ab_iconst (v := 1) X d_MO_step_305 (by decide) ?_
        refine ab_icmp_le X 314 d_MO_step_306 rfl (fun _ => ?_) (fun hb => absurd ((nI_le (b := 1) (by show w ≤ 1; omega) (by decide))) hb)
        refine ab_iload X 0 d_MO_step_314 rfl ?_
        refine ab_iconst (v := 1) X d_MO_step_316 (by decide) ?_
        refine ab_icmp_ne X 326 d_MO_step_317 rfl (fun _ => ?_) (fun hb => absurd hb ((nI_ne (a := w) (b := 1) (by omega) (by decide) q1)))
        refine ab_aload_n X 3 d_MO_step_326 rfl rfl ?_
        refine ab_gI X fl_MO_132 d_MO_step_327 (by first | assumption | decide | (show _ < 124; omega) | (show _ < 61; omega) | (show _ < 20; omega)) ((g298.trans (cn_n.trans e6))) ?_
        refine ab_if_eq X 337 d_MO_step_330 rfl (fun _ => ?_) (fun hb => absurd (rfl) hb)
        refine ab_aload_n X 3 d_MO_step_337 rfl rfl ?_
        refine ab_iload_n X 4 d_MO_step_338 rfl rfl ?_
        refine ab_bipush (v := 13) X d_MO_step_339 (by decide) ?_
        refine ab_callV (as := [ab_I (nI i), ab_I (nI 13)]) X (fun h => by cases h) (t_MO_behF u298 13 i n r P298.1 (Or.inl rfl) (Wr.fr z298) hf) lk_MO_307 d_MO_step_341 rfl rfl (by first | assumption | decide | (show _ < 124; omega) | (show _ < 61; omega) | (show _ < 20; omega)) ⟨by first | exact Nat.le_of_ble_eq_true rfl | (simp only [ab_rm]; omega), by first | exact Nat.le_of_ble_eq_true rfl | (simp only [ab_rm]; omega)⟩ ⟨by first | exact Nat.le_of_ble_eq_true rfl | (simp only [ab_rm]; omega), by first | exact Nat.le_of_ble_eq_true rfl | (simp only [ab_rm]; omega)⟩ (Nat.le_of_ble_eq_true rfl) (fun u341 r341 h341 => ?_)
        obtain ⟨e341, rfl⟩ := h341
        subst u341
        exact ab_reti X hr0 hlk d_MO_step_344 (sR.jmp P298 hf (show stp hh aa x r (w :: t) sd = some (skw 13 r, t, sd) by simp [stp, hx, q0]) (g298.trans (cn_n.trans e6)) c298)
      ·
        refine ab_aload_n X 0 d_MO_step_0 rfl rfl ?_
        refine ab_gR X fl_MO_57 d_MO_step_1 (by first | assumption | decide | (show _ < 124; omega) | (show _ < 61; omega) | (show _ < 20; omega)) (P0.1.mo15) ?_
        refine ab_iload_n X 1 d_MO_step_4 rfl rfl ?_
        refine ab_iald X (i) ⟨rfl, rfl⟩ d_MO_step_5 (by first | assumption | decide | (show _ < 124; omega) | (show _ < 61; omega) | (show _ < 20; omega)) (rfl) (show i < 7200 by omega) (ab_ln_lt _ _) ?_
        refine ab_top ex ?_
        refine ab_sipush (v := 1000) X d_MO_step_6 (by decide) ?_
        refine ab_idiv X d_MO_step_9 (by decide) ?_
        refine ab_top ((div_nI bx).trans (congrArg nI hx)) ?_
        refine ab_istore4 X 0 1 2 3 d_MO_step_10 (by decide) rfl rfl rfl rfl rfl rfl rfl rfl ?_
        refine ab_aload_n X 1 d_MO_step_12 rfl rfl ?_
        refine ab_gR X fl_MO_57 d_MO_step_13 (by first | assumption | decide | (show _ < 124; omega) | (show _ < 61; omega) | (show _ < 20; omega)) (P0.1.mo15) ?_
        refine ab_iload_n X 2 d_MO_step_16 rfl rfl ?_
        refine ab_iald X (i) ⟨rfl, rfl⟩ d_MO_step_17 (by first | assumption | decide | (show _ < 124; omega) | (show _ < 61; omega) | (show _ < 20; omega)) (rfl) (show i < 7200 by omega) (ab_ln_lt _ _) ?_
        refine ab_top ex ?_
        refine ab_sipush (v := 1000) X d_MO_step_18 (by decide) ?_
        refine ab_irem X d_MO_step_21 (by decide) ?_
        refine ab_top (rem_nI bx) ?_
        refine ab_istore5 X 0 1 2 3 4 d_MO_step_22 (by decide) rfl rfl rfl rfl rfl rfl rfl rfl rfl rfl ?_
        refine ab_iload X 1 d_MO_step_24 rfl ?_
        refine ab_iconst (v := 1) X d_MO_step_26 (by decide) ?_
        refine ab_icmp_ne X 73 d_MO_step_27 rfl (fun _ => ?_) (fun hb => absurd hb ((by decide)))
        refine ab_iload X 1 d_MO_step_73 rfl ?_
        refine ab_iconst (v := 2) X d_MO_step_75 (by decide) ?_
        refine ab_icmp_ne X 103 d_MO_step_76 rfl (fun _ => ?_) (fun hb => absurd hb ((by decide)))
        refine ab_iload X 1 d_MO_step_103 rfl ?_
        refine ab_iconst (v := 3) X d_MO_step_105 (by decide) ?_
        refine ab_icmp_eq X 115 d_MO_step_106 rfl (fun hb => absurd hb ((by decide))) (fun _ => ?_)
        refine ab_iload X 1 d_MO_step_109 rfl ?_
        refine ab_iconst (v := 4) X d_MO_step_111 (by decide) ?_
        refine ab_icmp_ne X 144 d_MO_step_112 rfl (fun _ => ?_) (fun hb => absurd hb ((by decide)))
        refine ab_iload X 1 d_MO_step_144 rfl ?_
        refine ab_iconst (v := 5) X d_MO_step_146 (by decide) ?_
        refine ab_icmp_ne X 165 d_MO_step_147 rfl (fun _ => ?_) (fun hb => absurd hb ((by decide)))
        refine ab_iload X 1 d_MO_step_165 rfl ?_
        refine ab_bipush (v := 9) X d_MO_step_167 (by decide) ?_
        refine ab_icmp_ge X 181 d_MO_step_169 rfl (fun _ => ?_) (fun hb => absurd ((by decide)) hb)
        refine ab_iload X 1 d_MO_step_181 rfl ?_
        refine ab_bipush (v := 9) X d_MO_step_183 (by decide) ?_
        refine ab_icmp_ne X 209 d_MO_step_185 rfl (fun _ => ?_) (fun hb => absurd hb ((by decide)))
        refine ab_iload X 1 d_MO_step_209 rfl ?_
        refine ab_bipush (v := 10) X d_MO_step_211 (by decide) ?_
        refine ab_icmp_ne X 242 d_MO_step_213 rfl (fun _ => ?_) (fun hb => absurd hb ((by decide)))
        refine ab_iload X 1 d_MO_step_242 rfl ?_
        refine ab_bipush (v := 11) X d_MO_step_244 (by decide) ?_
        refine ab_icmp_ne X 290 d_MO_step_246 rfl (fun _ => ?_) (fun hb => absurd hb ((by decide)))
        refine ab_iload X 1 d_MO_step_290 rfl ?_
        refine ab_bipush (v := 12) X d_MO_step_292 (by decide) ?_
        refine ab_icmp_ne X 345 d_MO_step_294 rfl (fun hb => absurd ((by decide)) hb) (fun _ => ?_)
        refine ab_aload_n X 2 d_MO_step_297 rfl rfl ?_
        refine ab_callV (as := []) X (fun h => by cases h) (z_MO_take u (w :: t) sd h C (by show t.length + 1 ≤ 128; omega)) lk_MO_294 d_MO_step_298 rfl rfl (by first | assumption | decide | (show _ < 124; omega) | (show _ < 61; omega) | (show _ < 20; omega)) ⟨by first | exact Nat.le_of_ble_eq_true rfl | (simp only [ab_rm]; omega), by first | exact Nat.le_of_ble_eq_true rfl | (simp only [ab_rm]; omega)⟩ ⟨by first | exact Nat.le_of_ble_eq_true rfl | (simp only [ab_rm]; omega), by first | exact Nat.le_of_ble_eq_true rfl | (simp only [ab_rm]; omega)⟩ (Nat.le_of_ble_eq_true rfl) (fun u298 r298 h298 => ?_)
        obtain ⟨⟨z298, c298, g298⟩, rfl⟩ := h298
        have q298 := z298
        have P298 := P0.trans q298 (by decide)
        refine ab_istore6 X 0 1 2 3 4 5 d_MO_step_301 (by decide) rfl rfl rfl rfl rfl rfl rfl rfl rfl rfl rfl rfl ?_
        refine ab_iload X 0 d_MO_step_303 rfl ?_
        refine ab_iconst (v := 1) X d_MO_step_305 (by decide) ?_
        refine ab_icmp_le X 314 d_MO_step_306 rfl (fun hb => absurd hb ((nI_ge (a := 1) (b := w) (by omega) (by omega)))) (fun _ => ?_)
        refine ab_aload_n X 3 d_MO_step_309 rfl rfl ?_
        refine ab_iconst (v := 1) X d_MO_step_310 (by decide) ?_
        refine ab_putI X fp_MO_132 d_MO_step_311 (by first | assumption | decide | (show _ < 124; omega) | (show _ < 61; omega) | (show _ < 20; omega)) rfl rfl ?_
        refine ab_gen (fun u311 e311 => ?_)
        have P311 : gP [35, 37, 40, 118, 119] u u311 := by rw [e311]; exact P298.ui rfl (by decide)
        refine ab_iload X 0 d_MO_step_314 rfl ?_
        refine ab_iconst (v := 1) X d_MO_step_316 (by decide) ?_
        refine ab_icmp_ne X 326 d_MO_step_317 rfl (fun _ => ?_) (fun hb => absurd hb ((nI_ne (a := w) (b := 1) (by omega) (by decide) q1)))
        refine ab_aload_n X 3 d_MO_step_326 rfl rfl ?_
        refine ab_gI X fl_MO_132 d_MO_step_327 (by first | assumption | decide | (show _ < 124; omega) | (show _ < 61; omega) | (show _ < 20; omega)) ((show _ = (1 : Int32) by rw [e311]; exact ui_s _)) ?_
        refine ab_if_eq X 337 d_MO_step_330 rfl (fun hb => absurd hb ((by decide))) (fun _ => ?_)
        refine ab_iload_n X 4 d_MO_step_333 rfl rfl ?_
        refine ab_goto X 344 d_MO_step_334 rfl ?_
        exact ab_reti X hr0 hlk d_MO_step_344 (sR.no P311 (show stp hh aa x r (w :: t) sd = none by simp [stp, hx, q0, q1]) (by rw [e311]; exact ui_s _))
set_option maxRecDepth 100000 in
set_option maxHeartbeats 1000000 in
theorem z_MO_st13 (u : ab_S) (st sd : List Nat) (h : mR u.2.1) (C : rM u st sd) (hh aa : Int32) (x i : Nat) (r : List Nat) (hL : st.length < 127) (hS : sd.length < 63) (ex : u.1 18 9 i = nI x) (bx : x < 20000) (e6 : u.1 17 0 40 = 0) (Wr : wR u i r) (G : gd x r st) (hx : x / 1000 = 13) : ab_C false l D ca y_MO_step b_MO_step 7 (some FieldType.int) 3 ab_nQ u [ab_O 17 0, ab_I (nI i), ab_I hh, ab_I aa] (fun u' w => sR hh aa x r st sd i u u' w) := by
  refine ab_C.of (by decide) (Nat.le_of_ble_eq_true rfl) ?_
  intro p e s m args below meth c ad X hZ hr0 hlk
  have P0 : gP [35, 37, 40, 118, 119] u u := gP.rf h
  have hi := Wr.1
  obtain ⟨n, hf⟩ := G.2.2 (Or.inl hx)
  refine ab_aload_n X 0 d_MO_step_0 rfl rfl ?_
  refine ab_gR X fl_MO_57 d_MO_step_1 (by first | assumption | decide | (show _ < 124; omega) | (show _ < 61; omega) | (show _ < 20; omega)) (P0.1.mo15) ?_
  refine ab_iload_n X 1 d_MO_step_4 rfl rfl ?_
  refine ab_iald X (i) ⟨rfl, rfl⟩ d_MO_step_5 (by first | assumption | decide | (show _ < 124; omega) | (show _ < 61; omega) | (show _ < 20; omega)) (rfl) (show i < 7200 by omega) (ab_ln_lt _ _) ?_
  refine ab_top ex ?_
  refine ab_sipush (v := 1000) X d_MO_step_6 (by decide) ?_
  refine ab_idiv X d_MO_step_9 (by decide) ?_
  refine ab_top ((div_nI bx).trans (congrArg nI hx)) ?_
  refine ab_istore4 X 0 1 2 3 d_MO_step_10 (by decide) rfl rfl rfl rfl rfl rfl rfl rfl ?_
  refine ab_aload_n X 1 d_MO_step_12 rfl rfl ?_
  refine ab_gR X fl_MO_57 d_MO_step_13 (by first | assumption | decide | (show _ < 124; omega) | (show _ < 61; omega) | (show _ < 20; omega)) (P0.1.mo15) ?_
  refine ab_iload_n X 2 d_MO_step_16 rfl rfl ?_
  refine ab_iald X (i) ⟨rfl, rfl⟩ d_MO_step_17 (by first | assumption | decide | (show _ < 124; omega) | (show _ < 61; omega) | (show _ < 20; omega)) (rfl) (show i < 7200 by omega) (ab_ln_lt _ _) ?_
  refine ab_top ex ?_
  refine ab_sipush (v := 1000) X d_MO_step_18 (by decide) ?_
  refine ab_irem X d_MO_step_21 (by decide) ?_
  refine ab_top (rem_nI bx) ?_
  refine ab_istore5 X 0 1 2 3 4 d_MO_step_22 (by decide) rfl rfl rfl rfl rfl rfl rfl rfl rfl rfl ?_
  refine ab_iload X 1 d_MO_step_24 rfl ?_
  refine ab_iconst (v := 1) X d_MO_step_26 (by decide) ?_
  refine ab_icmp_ne X 73 d_MO_step_27 rfl (fun _ => ?_) (fun hb => absurd hb ((by decide)))
  refine ab_iload X 1 d_MO_step_73 rfl ?_
  refine ab_iconst (v := 2) X d_MO_step_75 (by decide) ?_
  refine ab_icmp_ne X 103 d_MO_step_76 rfl (fun _ => ?_) (fun hb => absurd hb ((by decide)))
  refine ab_iload X 1 d_MO_step_103 rfl ?_
  refine ab_iconst (v := 3) X d_MO_step_105 (by decide) ?_
  refine ab_icmp_eq X 115 d_MO_step_106 rfl (fun hb => absurd hb ((by decide))) (fun _ => ?_)
  refine ab_iload X 1 d_MO_step_109 rfl ?_
  refine ab_iconst (v := 4) X d_MO_step_111 (by decide) ?_
  refine ab_icmp_ne X 144 d_MO_step_112 rfl (fun _ => ?_) (fun hb => absurd hb ((by decide)))
  refine ab_iload X 1 d_MO_step_144 rfl ?_
  refine ab_iconst (v := 5) X d_MO_step_146 (by decide) ?_
  refine ab_icmp_ne X 165 d_MO_step_147 rfl (fun _ => ?_) (fun hb => absurd hb ((by decide)))
  refine ab_iload X 1 d_MO_step_165 rfl ?_
  refine ab_bipush (v := 9) X d_MO_step_167 (by decide) ?_
  refine ab_icmp_ge X 181 d_MO_step_169 rfl (fun _ => ?_) (fun hb => absurd ((by decide)) hb)
  refine ab_iload X 1 d_MO_step_181 rfl ?_
  refine ab_bipush (v := 9) X d_MO_step_183 (by decide) ?_
  refine ab_icmp_ne X 209 d_MO_step_185 rfl (fun _ => ?_) (fun hb => absurd hb ((by decide)))
  refine ab_iload X 1 d_MO_step_209 rfl ?_
  refine ab_bipush (v := 10) X d_MO_step_211 (by decide) ?_
  refine ab_icmp_ne X 242 d_MO_step_213 rfl (fun _ => ?_) (fun hb => absurd hb ((by decide)))
  refine ab_iload X 1 d_MO_step_242 rfl ?_
  refine ab_bipush (v := 11) X d_MO_step_244 (by decide) ?_
  refine ab_icmp_ne X 290 d_MO_step_246 rfl (fun _ => ?_) (fun hb => absurd hb ((by decide)))
  refine ab_iload X 1 d_MO_step_290 rfl ?_
  refine ab_bipush (v := 12) X d_MO_step_292 (by decide) ?_
  refine ab_icmp_ne X 345 d_MO_step_294 rfl (fun _ => ?_) (fun hb => absurd hb ((by decide)))
  refine ab_iload X 1 d_MO_step_345 rfl ?_
  refine ab_bipush (v := 13) X d_MO_step_347 (by decide) ?_
  refine ab_icmp_ne X 360 d_MO_step_349 rfl (fun hb => absurd ((by decide)) hb) (fun _ => ?_)
  refine ab_aload_n X 2 d_MO_step_352 rfl rfl ?_
  refine ab_iload_n X 3 d_MO_step_353 rfl rfl ?_
  refine ab_bipush (v := 14) X d_MO_step_354 (by decide) ?_
  refine ab_callV (as := [ab_I (nI i), ab_I (nI 14)]) X (fun h => by cases h) (t_MO_behF u 14 i n r h (Or.inr rfl) Wr hf) lk_MO_307 d_MO_step_356 rfl rfl (by first | assumption | decide | (show _ < 124; omega) | (show _ < 61; omega) | (show _ < 20; omega)) ⟨by first | exact Nat.le_of_ble_eq_true rfl | (simp only [ab_rm]; omega), by first | exact Nat.le_of_ble_eq_true rfl | (simp only [ab_rm]; omega)⟩ ⟨by first | exact Nat.le_of_ble_eq_true rfl | (simp only [ab_rm]; omega), by first | exact Nat.le_of_ble_eq_true rfl | (simp only [ab_rm]; omega)⟩ (Nat.le_of_ble_eq_true rfl) (fun u356 r356 h356 => ?_)
  obtain ⟨e356, rfl⟩ := h356
  subst u356
  exact ab_reti X hr0 hlk d_MO_step_359 (sR.jmp P0 hf (stp_13 hx) e6 C)
set_option maxRecDepth 100000 in
set_option maxHeartbeats 1000000 in
theorem z_MO_st14 (u : ab_S) (st sd : List Nat) (h : mR u.2.1) (C : rM u st sd) (hh aa : Int32) (x i : Nat) (r : List Nat) (hL : st.length < 127) (hS : sd.length < 63) (ex : u.1 18 9 i = nI x) (bx : x < 20000) (e6 : u.1 17 0 40 = 0) (Wr : wR u i r) (G : gd x r st) (hx : x / 1000 = 14) : ab_C false l D ca y_MO_step b_MO_step 7 (some FieldType.int) 3 ab_nQ u [ab_O 17 0, ab_I (nI i), ab_I hh, ab_I aa] (fun u' w => sR hh aa x r st sd i u u' w) := by
  refine ab_C.of (by decide) (Nat.le_of_ble_eq_true rfl) ?_
  intro p e s m args below meth c ad X hZ hr0 hlk
  have P0 : gP [35, 37, 40, 118, 119] u u := gP.rf h
  have hi := Wr.1
  refine ab_aload_n X 0 d_MO_step_0 rfl rfl ?_
  refine ab_gR X fl_MO_57 d_MO_step_1 (by first | assumption | decide | (show _ < 124; omega) | (show _ < 61; omega) | (show _ < 20; omega)) (P0.1.mo15) ?_
  refine ab_iload_n X 1 d_MO_step_4 rfl rfl ?_
  refine ab_iald X (i) ⟨rfl, rfl⟩ d_MO_step_5 (by first | assumption | decide | (show _ < 124; omega) | (show _ < 61; omega) | (show _ < 20; omega)) (rfl) (show i < 7200 by omega) (ab_ln_lt _ _) ?_
  refine ab_top ex ?_
  refine ab_sipush (v := 1000) X d_MO_step_6 (by decide) ?_
  refine ab_idiv X d_MO_step_9 (by decide) ?_
  refine ab_top ((div_nI bx).trans (congrArg nI hx)) ?_
  refine ab_istore4 X 0 1 2 3 d_MO_step_10 (by decide) rfl rfl rfl rfl rfl rfl rfl rfl ?_
  refine ab_aload_n X 1 d_MO_step_12 rfl rfl ?_
  refine ab_gR X fl_MO_57 d_MO_step_13 (by first | assumption | decide | (show _ < 124; omega) | (show _ < 61; omega) | (show _ < 20; omega)) (P0.1.mo15) ?_
  refine ab_iload_n X 2 d_MO_step_16 rfl rfl ?_
  refine ab_iald X (i) ⟨rfl, rfl⟩ d_MO_step_17 (by first | assumption | decide | (show _ < 124; omega) | (show _ < 61; omega) | (show _ < 20; omega)) (rfl) (show i < 7200 by omega) (ab_ln_lt _ _) ?_
  refine ab_top ex ?_
  refine ab_sipush (v := 1000) X d_MO_step_18 (by decide) ?_
  refine ab_irem X d_MO_step_21 (by decide) ?_
  refine ab_top (rem_nI bx) ?_
  refine ab_istore5 X 0 1 2 3 4 d_MO_step_22 (by decide) rfl rfl rfl rfl rfl rfl rfl rfl rfl rfl ?_
  refine ab_iload X 1 d_MO_step_24 rfl ?_
  refine ab_iconst (v := 1) X d_MO_step_26 (by decide) ?_
  refine ab_icmp_ne X 73 d_MO_step_27 rfl (fun _ => ?_) (fun hb => absurd hb ((by decide)))
  refine ab_iload X 1 d_MO_step_73 rfl ?_
  refine ab_iconst (v := 2) X d_MO_step_75 (by decide) ?_
  refine ab_icmp_ne X 103 d_MO_step_76 rfl (fun _ => ?_) (fun hb => absurd hb ((by decide)))
  refine ab_iload X 1 d_MO_step_103 rfl ?_
  refine ab_iconst (v := 3) X d_MO_step_105 (by decide) ?_
  refine ab_icmp_eq X 115 d_MO_step_106 rfl (fun hb => absurd hb ((by decide))) (fun _ => ?_)
  refine ab_iload X 1 d_MO_step_109 rfl ?_
  refine ab_iconst (v := 4) X d_MO_step_111 (by decide) ?_
  refine ab_icmp_ne X 144 d_MO_step_112 rfl (fun _ => ?_) (fun hb => absurd hb ((by decide)))
  refine ab_iload X 1 d_MO_step_144 rfl ?_
  refine ab_iconst (v := 5) X d_MO_step_146 (by decide) ?_
  refine ab_icmp_ne X 165 d_MO_step_147 rfl (fun _ => ?_) (fun hb => absurd hb ((by decide)))
  refine ab_iload X 1 d_MO_step_165 rfl ?_
  refine ab_bipush (v := 9) X d_MO_step_167 (by decide) ?_
  refine ab_icmp_ge X 181 d_MO_step_169 rfl (fun _ => ?_) (fun hb => absurd ((by decide)) hb)
  refine ab_iload X 1 d_MO_step_181 rfl ?_
  refine ab_bipush (v := 9) X d_MO_step_183 (by decide) ?_
  refine ab_icmp_ne X 209 d_MO_step_185 rfl (fun _ => ?_) (fun hb => absurd hb ((by decide)))
  refine ab_iload X 1 d_MO_step_209 rfl ?_
  refine ab_bipush (v := 10) X d_MO_step_211 (by decide) ?_
  refine ab_icmp_ne X 242 d_MO_step_213 rfl (fun _ => ?_) (fun hb => absurd hb ((by decide)))
  refine ab_iload X 1 d_MO_step_242 rfl ?_
  refine ab_bipush (v := 11) X d_MO_step_244 (by decide) ?_
  refine ab_icmp_ne X 290 d_MO_step_246 rfl (fun _ => ?_) (fun hb => absurd hb ((by decide)))
  refine ab_iload X 1 d_MO_step_290 rfl ?_
  refine ab_bipush (v := 12) X d_MO_step_292 (by decide) ?_
  refine ab_icmp_ne X 345 d_MO_step_294 rfl (fun _ => ?_) (fun hb => absurd hb ((by decide)))
  refine ab_iload X 1 d_MO_step_345 rfl ?_
  refine ab_bipush (v := 13) X d_MO_step_347 (by decide) ?_
  refine ab_icmp_ne X 360 d_MO_step_349 rfl (fun _ => ?_) (fun hb => absurd hb ((by decide)))
  refine ab_iload X 1 d_MO_step_360 rfl ?_
  refine ab_bipush (v := 15) X d_MO_step_362 (by decide) ?_
  refine ab_icmp_ne X 388 d_MO_step_364 rfl (fun _ => ?_) (fun hb => absurd hb ((by decide)))
  refine ab_iload X 1 d_MO_step_388 rfl ?_
  refine ab_bipush (v := 16) X d_MO_step_390 (by decide) ?_
  refine ab_icmp_ne X 428 d_MO_step_392 rfl (fun _ => ?_) (fun hb => absurd hb ((by decide)))
  refine ab_iload X 1 d_MO_step_428 rfl ?_
  refine ab_bipush (v := 17) X d_MO_step_430 (by decide) ?_
  refine ab_icmp_ne X 440 d_MO_step_432 rfl (fun _ => ?_) (fun hb => absurd hb ((by decide)))
  refine ab_iload_n X 3 d_MO_step_440 rfl rfl ?_
  refine ab_iconst (v := 1) X d_MO_step_441 (by decide) ?_
  refine ab_iadd X d_MO_step_442 ?_
  refine ab_top (nI_1 _) ?_
  exact ab_reti X hr0 hlk d_MO_step_443 (sR.yes P0 (stp_14 hx) e6 C)
set_option maxRecDepth 100000 in
set_option maxHeartbeats 1000000 in
theorem z_MO_st15 (u : ab_S) (st sd : List Nat) (h : mR u.2.1) (C : rM u st sd) (hh aa : Int32) (x i : Nat) (r : List Nat) (hL : st.length < 127) (hS : sd.length < 63) (ex : u.1 18 9 i = nI x) (bx : x < 20000) (e6 : u.1 17 0 40 = 0) (Wr : wR u i r) (G : gd x r st) (hx : x / 1000 = 15) : ab_C false l D ca y_MO_step b_MO_step 7 (some FieldType.int) 3 ab_nQ u [ab_O 17 0, ab_I (nI i), ab_I hh, ab_I aa] (fun u' w => sR hh aa x r st sd i u u' w) := by
  refine ab_C.of (by decide) (Nat.le_of_ble_eq_true rfl) ?_
  intro p e s m args below meth c ad X hZ hr0 hlk
  have P0 : gP [35, 37, 40, 118, 119] u u := gP.rf h
  have hi := Wr.1
  obtain ⟨w, t, rfl, hw⟩ := G.1 (Or.inr hx)
  obtain ⟨n, hf⟩ := G.2.2 (Or.inr hx)
  have hL : t.length + 1 < 127 := hL
  by_cases q0 : w = 0
  ·
    refine ab_aload_n X 0 d_MO_step_0 rfl rfl ?_
    refine ab_gR X fl_MO_57 d_MO_step_1 (by first | assumption | decide | (show _ < 124; omega) | (show _ < 61; omega) | (show _ < 20; omega)) (P0.1.mo15) ?_
    refine ab_iload_n X 1 d_MO_step_4 rfl rfl ?_
    refine ab_iald X (i) ⟨rfl, rfl⟩ d_MO_step_5 (by first | assumption | decide | (show _ < 124; omega) | (show _ < 61; omega) | (show _ < 20; omega)) (rfl) (show i < 7200 by omega) (ab_ln_lt _ _) ?_
    refine ab_top ex ?_
    refine ab_sipush (v := 1000) X d_MO_step_6 (by decide) ?_
    refine ab_idiv X d_MO_step_9 (by decide) ?_
    refine ab_top ((div_nI bx).trans (congrArg nI hx)) ?_
    refine ab_istore4 X 0 1 2 3 d_MO_step_10 (by decide) rfl rfl rfl rfl rfl rfl rfl rfl ?_
    refine ab_aload_n X 1 d_MO_step_12 rfl rfl ?_
    refine ab_gR X fl_MO_57 d_MO_step_13 (by first | assumption | decide | (show _ < 124; omega) | (show _ < 61; omega) | (show _ < 20; omega)) (P0.1.mo15) ?_
    refine ab_iload_n X 2 d_MO_step_16 rfl rfl ?_
    refine ab_iald X (i) ⟨rfl, rfl⟩ d_MO_step_17 (by first | assumption | decide | (show _ < 124; omega) | (show _ < 61; omega) | (show _ < 20; omega)) (rfl) (show i < 7200 by omega) (ab_ln_lt _ _) ?_
    refine ab_top ex ?_
    refine ab_sipush (v := 1000) X d_MO_step_18 (by decide) ?_
    refine ab_irem X d_MO_step_21 (by decide) ?_
    refine ab_top (rem_nI bx) ?_
    refine ab_istore5 X 0 1 2 3 4 d_MO_step_22 (by decide) rfl rfl rfl rfl rfl rfl rfl rfl rfl rfl ?_
    refine ab_iload X 1 d_MO_step_24 rfl ?_
    refine ab_iconst (v := 1) X d_MO_step_26 (by decide) ?_
    refine ab_icmp_ne X 73 d_MO_step_27 rfl (fun _ => ?_) (fun hb => absurd hb ((by decide)))
    refine ab_iload X 1 d_MO_step_73 rfl ?_
    refine ab_iconst (v := 2) X d_MO_step_75 (by decide) ?_
    refine ab_icmp_ne X 103 d_MO_step_76 rfl (fun _ => ?_) (fun hb => absurd hb ((by decide)))
    refine ab_iload X 1 d_MO_step_103 rfl ?_
    refine ab_iconst (v := 3) X d_MO_step_105 (by decide) ?_
    refine ab_icmp_eq X 115 d_MO_step_106 rfl (fun hb => absurd hb ((by decide))) (fun _ => ?_)
    refine ab_iload X 1 d_MO_step_109 rfl ?_
    refine ab_iconst (v := 4) X d_MO_step_111 (by decide) ?_
    refine ab_icmp_ne X 144 d_MO_step_112 rfl (fun _ => ?_) (fun hb => absurd hb ((by decide)))
    refine ab_iload X 1 d_MO_step_144 rfl ?_
    refine ab_iconst (v := 5) X d_MO_step_146 (by decide) ?_
    refine ab_icmp_ne X 165 d_MO_step_147 rfl (fun _ => ?_) (fun hb => absurd hb ((by decide)))
    refine ab_iload X 1 d_MO_step_165 rfl ?_
    refine ab_bipush (v := 9) X d_MO_step_167 (by decide) ?_
    refine ab_icmp_ge X 181 d_MO_step_169 rfl (fun _ => ?_) (fun hb => absurd ((by decide)) hb)
    refine ab_iload X 1 d_MO_step_181 rfl ?_
    refine ab_bipush (v := 9) X d_MO_step_183 (by decide) ?_
    refine ab_icmp_ne X 209 d_MO_step_185 rfl (fun _ => ?_) (fun hb => absurd hb ((by decide)))
    refine ab_iload X 1 d_MO_step_209 rfl ?_
    refine ab_bipush (v := 10) X d_MO_step_211 (by decide) ?_
    refine ab_icmp_ne X 242 d_MO_step_213 rfl (fun _ => ?_) (fun hb => absurd hb ((by decide)))
    refine ab_iload X 1 d_MO_step_242 rfl ?_
    refine ab_bipush (v := 11) X d_MO_step_244 (by decide) ?_
    refine ab_icmp_ne X 290 d_MO_step_246 rfl (fun _ => ?_) (fun hb => absurd hb ((by decide)))
    refine ab_iload X 1 d_MO_step_290 rfl ?_
    refine ab_bipush (v := 12) X d_MO_step_292 (by decide) ?_
    refine ab_icmp_ne X 345 d_MO_step_294 rfl (fun _ => ?_) (fun hb => absurd hb ((by decide)))
    refine ab_iload X 1 d_MO_step_345 rfl ?_
    refine ab_bipush (v := 13) X d_MO_step_347 (by decide) ?_
    refine ab_icmp_ne X 360 d_MO_step_349 rfl (fun _ => ?_) (fun hb => absurd hb ((by decide)))
    refine ab_iload X 1 d_MO_step_360 rfl ?_
    refine ab_bipush (v := 15) X d_MO_step_362 (by decide) ?_
    refine ab_icmp_ne X 388 d_MO_step_364 rfl (fun hb => absurd ((by decide)) hb) (fun _ => ?_)
    refine ab_aload_n X 2 d_MO_step_367 rfl rfl ?_
    refine ab_callV (as := []) X (fun h => by cases h) (z_MO_takeNumber u (w :: t) sd h C (by show t.length + 1 ≤ 128; omega)) lk_MO_298 d_MO_step_368 rfl rfl (by first | assumption | decide | (show _ < 124; omega) | (show _ < 61; omega) | (show _ < 20; omega)) ⟨by first | exact Nat.le_of_ble_eq_true rfl | (simp only [ab_rm]; omega), by first | exact Nat.le_of_ble_eq_true rfl | (simp only [ab_rm]; omega)⟩ ⟨by first | exact Nat.le_of_ble_eq_true rfl | (simp only [ab_rm]; omega), by first | exact Nat.le_of_ble_eq_true rfl | (simp only [ab_rm]; omega)⟩ (Nat.le_of_ble_eq_true rfl) (fun u368 r368 h368 => ?_)
    obtain ⟨⟨z368, c368, g368⟩, rfl⟩ := h368
    have q368 := z368
    have P368 := P0.trans q368 (by decide)
    refine ab_if_eq X 384 d_MO_step_371 rfl (fun _ => ?_) (fun hb => absurd ((congrArg nI q0)) hb)
    refine ab_iload_n X 3 d_MO_step_384 rfl rfl ?_
    refine ab_iconst (v := 1) X d_MO_step_385 (by decide) ?_
    refine ab_iadd X d_MO_step_386 ?_
    refine ab_top (nI_1 _) ?_
    exact ab_reti X hr0 hlk d_MO_step_387 (sR.yes P368 (show stp hh aa x r (w :: t) sd = some (r, t, sd) by rw [stp_15 hx hw, if_pos q0]) (g368.trans ((tn_n hw).trans e6)) c368)
  ·
    refine ab_aload_n X 0 d_MO_step_0 rfl rfl ?_
    refine ab_gR X fl_MO_57 d_MO_step_1 (by first | assumption | decide | (show _ < 124; omega) | (show _ < 61; omega) | (show _ < 20; omega)) (P0.1.mo15) ?_
    refine ab_iload_n X 1 d_MO_step_4 rfl rfl ?_
    refine ab_iald X (i) ⟨rfl, rfl⟩ d_MO_step_5 (by first | assumption | decide | (show _ < 124; omega) | (show _ < 61; omega) | (show _ < 20; omega)) (rfl) (show i < 7200 by omega) (ab_ln_lt _ _) ?_
    refine ab_top ex ?_
    refine ab_sipush (v := 1000) X d_MO_step_6 (by decide) ?_
    refine ab_idiv X d_MO_step_9 (by decide) ?_
    refine ab_top ((div_nI bx).trans (congrArg nI hx)) ?_
    refine ab_istore4 X 0 1 2 3 d_MO_step_10 (by decide) rfl rfl rfl rfl rfl rfl rfl rfl ?_
    refine ab_aload_n X 1 d_MO_step_12 rfl rfl ?_
    refine ab_gR X fl_MO_57 d_MO_step_13 (by first | assumption | decide | (show _ < 124; omega) | (show _ < 61; omega) | (show _ < 20; omega)) (P0.1.mo15) ?_
    refine ab_iload_n X 2 d_MO_step_16 rfl rfl ?_
    refine ab_iald X (i) ⟨rfl, rfl⟩ d_MO_step_17 (by first | assumption | decide | (show _ < 124; omega) | (show _ < 61; omega) | (show _ < 20; omega)) (rfl) (show i < 7200 by omega) (ab_ln_lt _ _) ?_
    refine ab_top ex ?_
    refine ab_sipush (v := 1000) X d_MO_step_18 (by decide) ?_
    refine ab_irem X d_MO_step_21 (by decide) ?_
    refine ab_top (rem_nI bx) ?_
    refine ab_istore5 X 0 1 2 3 4 d_MO_step_22 (by decide) rfl rfl rfl rfl rfl rfl rfl rfl rfl rfl ?_
    refine ab_iload X 1 d_MO_step_24 rfl ?_
    refine ab_iconst (v := 1) X d_MO_step_26 (by decide) ?_
    refine ab_icmp_ne X 73 d_MO_step_27 rfl (fun _ => ?_) (fun hb => absurd hb ((by decide)))
    refine ab_iload X 1 d_MO_step_73 rfl ?_
    refine ab_iconst (v := 2) X d_MO_step_75 (by decide) ?_
    refine ab_icmp_ne X 103 d_MO_step_76 rfl (fun _ => ?_) (fun hb => absurd hb ((by decide)))
    refine ab_iload X 1 d_MO_step_103 rfl ?_
    refine ab_iconst (v := 3) X d_MO_step_105 (by decide) ?_
    refine ab_icmp_eq X 115 d_MO_step_106 rfl (fun hb => absurd hb ((by decide))) (fun _ => ?_)
    refine ab_iload X 1 d_MO_step_109 rfl ?_
    refine ab_iconst (v := 4) X d_MO_step_111 (by decide) ?_
    refine ab_icmp_ne X 144 d_MO_step_112 rfl (fun _ => ?_) (fun hb => absurd hb ((by decide)))
    refine ab_iload X 1 d_MO_step_144 rfl ?_
    refine ab_iconst (v := 5) X d_MO_step_146 (by decide) ?_
    refine ab_icmp_ne X 165 d_MO_step_147 rfl (fun _ => ?_) (fun hb => absurd hb ((by decide)))
    refine ab_iload X 1 d_MO_step_165 rfl ?_
    refine ab_bipush (v := 9) X d_MO_step_167 (by decide) ?_
    refine ab_icmp_ge X 181 d_MO_step_169 rfl (fun _ => ?_) (fun hb => absurd ((by decide)) hb)
    refine ab_iload X 1 d_MO_step_181 rfl ?_
    refine ab_bipush (v := 9) X d_MO_step_183 (by decide) ?_
    refine ab_icmp_ne X 209 d_MO_step_185 rfl (fun _ => ?_) (fun hb => absurd hb ((by decide)))
    refine ab_iload X 1 d_MO_step_209 rfl ?_
    refine ab_bipush (v := 10) X d_MO_step_211 (by decide) ?_
    refine ab_icmp_ne X 242 d_MO_step_213 rfl (fun _ => ?_) (fun hb => absurd hb ((by decide)))
    refine ab_iload X 1 d_MO_step_242 rfl ?_
    refine ab_bipush (v := 11) X d_MO_step_244 (by decide) ?_
    refine ab_icmp_ne X 290 d_MO_step_246 rfl (fun _ => ?_) (fun hb => absurd hb ((by decide)))
    refine ab_iload X 1 d_MO_step_290 rfl ?_
    refine ab_bipush (v := 12) X d_MO_step_292 (by decide) ?_
    refine ab_icmp_ne X 345 d_MO_step_294 rfl (fun _ => ?_) (fun hb => absurd hb ((by decide)))
    refine ab_iload X 1 d_MO_step_345 rfl ?_
    refine ab_bipush (v := 13) X d_MO_step_347 (by decide) ?_
    refine ab_icmp_ne X 360 d_MO_step_349 rfl (fun _ => ?_) (fun hb => absurd hb ((by decide)))
    refine ab_iload X 1 d_MO_step_360 rfl ?_
    refine ab_bipush (v := 15) X d_MO_step_362 (by decide) ?_
    refine ab_icmp_ne X 388 d_MO_step_364 rfl (fun hb => absurd ((by decide)) hb) (fun _ => ?_)
    refine ab_aload_n X 2 d_MO_step_367 rfl rfl ?_
    refine ab_callV (as := []) X (fun h => by cases h) (z_MO_takeNumber u (w :: t) sd h C (by show t.length + 1 ≤ 128; omega)) lk_MO_298 d_MO_step_368 rfl rfl (by first | assumption | decide | (show _ < 124; omega) | (show _ < 61; omega) | (show _ < 20; omega)) ⟨by first | exact Nat.le_of_ble_eq_true rfl | (simp only [ab_rm]; omega), by first | exact Nat.le_of_ble_eq_true rfl | (simp only [ab_rm]; omega)⟩ ⟨by first | exact Nat.le_of_ble_eq_true rfl | (simp only [ab_rm]; omega), by first | exact Nat.le_of_ble_eq_true rfl | (simp only [ab_rm]; omega)⟩ (Nat.le_of_ble_eq_true rfl) (fun u368 r368 h368 => ?_)
    obtain ⟨⟨z368, c368, g368⟩, rfl⟩ := h368
    have q368 := z368
    have P368 := P0.trans q368 (by decide)
    refine ab_if_eq X 384 d_MO_step_371 rfl (fun hb => absurd hb ((nI_n0 (n := w) (by omega) q0))) (fun _ => ?_)
    refine ab_aload_n X 2 d_MO_step_374 rfl rfl ?_
    refine ab_iload_n X 3 d_MO_step_375 rfl rfl ?_
    refine ab_bipush (v := 14) X d_MO_step_376 (by decide) ?_
    refine ab_callV (as := [ab_I (nI i), ab_I (nI 14)]) X (fun h => by cases h) (t_MO_behF u368 14 i n r P368.1 (Or.inr rfl) (Wr.fr z368) hf) lk_MO_307 d_MO_step_378 rfl rfl (by first | assumption | decide | (show _ < 124; omega) | (show _ < 61; omega) | (show _ < 20; omega)) ⟨by first | exact Nat.le_of_ble_eq_true rfl | (simp only [ab_rm]; omega), by first | exact Nat.le_of_ble_eq_true rfl | (simp only [ab_rm]; omega)⟩ ⟨by first | exact Nat.le_of_ble_eq_true rfl | (simp only [ab_rm]; omega), by first | exact Nat.le_of_ble_eq_true rfl | (simp only [ab_rm]; omega)⟩ (Nat.le_of_ble_eq_true rfl) (fun u378 r378 h378 => ?_)
    obtain ⟨e378, rfl⟩ := h378
    subst u378
    refine ab_goto X 387 d_MO_step_381 rfl ?_
    exact ab_reti X hr0 hlk d_MO_step_387 (sR.jmp P368 hf (show stp hh aa x r (w :: t) sd = some (skw 14 r, t, sd) by rw [stp_15 hx hw, if_neg q0]) (g368.trans ((tn_n hw).trans e6)) c368)
set_option maxRecDepth 100000 in
set_option maxHeartbeats 1000000 in
theorem z_MO_st16 (u : ab_S) (st sd : List Nat) (h : mR u.2.1) (C : rM u st sd) (hh aa : Int32) (x i : Nat) (r : List Nat) (hL : st.length < 127) (hS : sd.length < 63) (ex : u.1 18 9 i = nI x) (bx : x < 20000) (e6 : u.1 17 0 40 = 0) (Wr : wR u i r) (G : gd x r st) (hx : x / 1000 = 16) : ab_C false l D ca y_MO_step b_MO_step 7 (some FieldType.int) 3 ab_nQ u [ab_O 17 0, ab_I (nI i), ab_I hh, ab_I aa] (fun u' w => sR hh aa x r st sd i u u' w) := by
  refine ab_C.of (by decide) (Nat.le_of_ble_eq_true rfl) ?_
  intro p e s m args below meth c ad X hZ hr0 hlk
  have P0 : gP [35, 37, 40, 118, 119] u u := gP.rf h
  have hi := Wr.1
  obtain ⟨w, t, rfl, hw⟩ := G.1 (Or.inl hx)
  have hL : t.length + 1 < 127 := hL
  by_cases q0 : w = 0
  ·
    refine ab_aload_n X 0 d_MO_step_0 rfl rfl ?_
    refine ab_gR X fl_MO_57 d_MO_step_1 (by first | assumption | decide | (show _ < 124; omega) | (show _ < 61; omega) | (show _ < 20; omega)) (P0.1.mo15) ?_
    refine ab_iload_n X 1 d_MO_step_4 rfl rfl ?_
    refine ab_iald X (i) ⟨rfl, rfl⟩ d_MO_step_5 (by first | assumption | decide | (show _ < 124; omega) | (show _ < 61; omega) | (show _ < 20; omega)) (rfl) (show i < 7200 by omega) (ab_ln_lt _ _) ?_
    refine ab_top ex ?_
    refine ab_sipush (v := 1000) X d_MO_step_6 (by decide) ?_
    refine ab_idiv X d_MO_step_9 (by decide) ?_
    refine ab_top ((div_nI bx).trans (congrArg nI hx)) ?_
    refine ab_istore4 X 0 1 2 3 d_MO_step_10 (by decide) rfl rfl rfl rfl rfl rfl rfl rfl ?_
    refine ab_aload_n X 1 d_MO_step_12 rfl rfl ?_
    refine ab_gR X fl_MO_57 d_MO_step_13 (by first | assumption | decide | (show _ < 124; omega) | (show _ < 61; omega) | (show _ < 20; omega)) (P0.1.mo15) ?_
    refine ab_iload_n X 2 d_MO_step_16 rfl rfl ?_
    refine ab_iald X (i) ⟨rfl, rfl⟩ d_MO_step_17 (by first | assumption | decide | (show _ < 124; omega) | (show _ < 61; omega) | (show _ < 20; omega)) (rfl) (show i < 7200 by omega) (ab_ln_lt _ _) ?_
    refine ab_top ex ?_
    refine ab_sipush (v := 1000) X d_MO_step_18 (by decide) ?_
    refine ab_irem X d_MO_step_21 (by decide) ?_
    refine ab_top (rem_nI bx) ?_
    refine ab_istore5 X 0 1 2 3 4 d_MO_step_22 (by decide) rfl rfl rfl rfl rfl rfl rfl rfl rfl rfl ?_
    refine ab_iload X 1 d_MO_step_24 rfl ?_
    refine ab_iconst (v := 1) X d_MO_step_26 (by decide) ?_
    refine ab_icmp_ne X 73 d_MO_step_27 rfl (fun _ => ?_) (fun hb => absurd hb ((by decide)))
    refine ab_iload X 1 d_MO_step_73 rfl ?_
    refine ab_iconst (v := 2) X d_MO_step_75 (by decide) ?_
    refine ab_icmp_ne X 103 d_MO_step_76 rfl (fun _ => ?_) (fun hb => absurd hb ((by decide)))
    refine ab_iload X 1 d_MO_step_103 rfl ?_
    refine ab_iconst (v := 3) X d_MO_step_105 (by decide) ?_
    refine ab_icmp_eq X 115 d_MO_step_106 rfl (fun hb => absurd hb ((by decide))) (fun _ => ?_)
    refine ab_iload X 1 d_MO_step_109 rfl ?_
    refine ab_iconst (v := 4) X d_MO_step_111 (by decide) ?_
    refine ab_icmp_ne X 144 d_MO_step_112 rfl (fun _ => ?_) (fun hb => absurd hb ((by decide)))
    refine ab_iload X 1 d_MO_step_144 rfl ?_
    refine ab_iconst (v := 5) X d_MO_step_146 (by decide) ?_
    refine ab_icmp_ne X 165 d_MO_step_147 rfl (fun _ => ?_) (fun hb => absurd hb ((by decide)))
    refine ab_iload X 1 d_MO_step_165 rfl ?_
    refine ab_bipush (v := 9) X d_MO_step_167 (by decide) ?_
    refine ab_icmp_ge X 181 d_MO_step_169 rfl (fun _ => ?_) (fun hb => absurd ((by decide)) hb)
    refine ab_iload X 1 d_MO_step_181 rfl ?_
    refine ab_bipush (v := 9) X d_MO_step_183 (by decide) ?_
    refine ab_icmp_ne X 209 d_MO_step_185 rfl (fun _ => ?_) (fun hb => absurd hb ((by decide)))
    refine ab_iload X 1 d_MO_step_209 rfl ?_
    refine ab_bipush (v := 10) X d_MO_step_211 (by decide) ?_
    refine ab_icmp_ne X 242 d_MO_step_213 rfl (fun _ => ?_) (fun hb => absurd hb ((by decide)))
    refine ab_iload X 1 d_MO_step_242 rfl ?_
    refine ab_bipush (v := 11) X d_MO_step_244 (by decide) ?_
    refine ab_icmp_ne X 290 d_MO_step_246 rfl (fun _ => ?_) (fun hb => absurd hb ((by decide)))
    refine ab_iload X 1 d_MO_step_290 rfl ?_
    refine ab_bipush (v := 12) X d_MO_step_292 (by decide) ?_
    refine ab_icmp_ne X 345 d_MO_step_294 rfl (fun _ => ?_) (fun hb => absurd hb ((by decide)))
    refine ab_iload X 1 d_MO_step_345 rfl ?_
    refine ab_bipush (v := 13) X d_MO_step_347 (by decide) ?_
    refine ab_icmp_ne X 360 d_MO_step_349 rfl (fun _ => ?_) (fun hb => absurd hb ((by decide)))
    refine ab_iload X 1 d_MO_step_360 rfl ?_
    refine ab_bipush (v := 15) X d_MO_step_362 (by decide) ?_
    refine ab_icmp_ne X 388 d_MO_step_364 rfl (fun _ => ?_) (fun hb => absurd hb ((by decide)))
    refine ab_iload X 1 d_MO_step_388 rfl ?_
    refine ab_bipush (v := 16) X d_MO_step_390 (by decide) ?_
    refine ab_icmp_ne X 428 d_MO_step_392 rfl (fun hb => absurd ((by decide)) hb) (fun _ => ?_)
    refine ab_aload_n X 2 d_MO_step_395 rfl rfl ?_
    refine ab_callV (as := []) X (fun h => by cases h) (z_MO_takeNumber u (w :: t) sd h C (by show t.length + 1 ≤ 128; omega)) lk_MO_298 d_MO_step_396 rfl rfl (by first | assumption | decide | (show _ < 124; omega) | (show _ < 61; omega) | (show _ < 20; omega)) ⟨by first | exact Nat.le_of_ble_eq_true rfl | (simp only [ab_rm]; omega), by first | exact Nat.le_of_ble_eq_true rfl | (simp only [ab_rm]; omega)⟩ ⟨by first | exact Nat.le_of_ble_eq_true rfl | (simp only [ab_rm]; omega), by first | exact Nat.le_of_ble_eq_true rfl | (simp only [ab_rm]; omega)⟩ (Nat.le_of_ble_eq_true rfl) (fun u396 r396 h396 => ?_)
    obtain ⟨⟨z396, c396, g396⟩, rfl⟩ := h396
    have q396 := z396
    have P396 := P0.trans q396 (by decide)
    refine ab_istore6 X 0 1 2 3 4 5 d_MO_step_399 (by decide) rfl rfl rfl rfl rfl rfl rfl rfl rfl rfl rfl rfl ?_
    refine ab_aload_n X 3 d_MO_step_401 rfl rfl ?_
    refine ab_gI X fl_MO_132 d_MO_step_402 (by first | assumption | decide | (show _ < 124; omega) | (show _ < 61; omega) | (show _ < 20; omega)) ((g396.trans ((tn_n hw).trans e6))) ?_
    refine ab_if_ne X 414 d_MO_step_405 rfl (fun hb => absurd (rfl) hb) (fun _ => ?_)
    refine ab_aload_n X 3 d_MO_step_408 rfl rfl ?_
    refine ab_iload X 0 d_MO_step_409 rfl ?_
    refine ab_callV (as := [ab_I (nI w)]) X (fun h => by cases h) (z_MO_putOn u396 w t sd P396.1 c396 (by omega) (by omega)) lk_MO_301 d_MO_step_411 rfl rfl (by first | assumption | decide | (show _ < 124; omega) | (show _ < 61; omega) | (show _ < 20; omega)) ⟨by first | exact Nat.le_of_ble_eq_true rfl | (simp only [ab_rm]; omega), by first | exact Nat.le_of_ble_eq_true rfl | (simp only [ab_rm]; omega)⟩ ⟨by first | exact Nat.le_of_ble_eq_true rfl | (simp only [ab_rm]; omega), by first | exact Nat.le_of_ble_eq_true rfl | (simp only [ab_rm]; omega)⟩ (Nat.le_of_ble_eq_true rfl) (fun u411 r411 h411 => ?_)
    obtain ⟨⟨z411, c411, g411⟩, rfl⟩ := h411
    have q411 := z411
    have P411 := P396.trans q411 (by decide)
    refine ab_iload X 0 d_MO_step_414 rfl ?_
    refine ab_if_eq X 425 d_MO_step_416 rfl (fun _ => ?_) (fun hb => absurd ((congrArg nI q0)) hb)
    refine ab_goto X 440 d_MO_step_425 rfl ?_
    refine ab_iload_n X 4 d_MO_step_440 rfl rfl ?_
    refine ab_iconst (v := 1) X d_MO_step_441 (by decide) ?_
    refine ab_iadd X d_MO_step_442 ?_
    refine ab_top (nI_1 _) ?_
    exact ab_reti X hr0 hlk d_MO_step_443 (sR.yes P411 (show stp hh aa x r (w :: t) sd = some (r, w :: t, sd) by rw [stp_16 hx hw, if_pos q0]) (g411.trans (g396.trans ((tn_n hw).trans e6))) c411)
  ·
    refine ab_aload_n X 0 d_MO_step_0 rfl rfl ?_
    refine ab_gR X fl_MO_57 d_MO_step_1 (by first | assumption | decide | (show _ < 124; omega) | (show _ < 61; omega) | (show _ < 20; omega)) (P0.1.mo15) ?_
    refine ab_iload_n X 1 d_MO_step_4 rfl rfl ?_
    refine ab_iald X (i) ⟨rfl, rfl⟩ d_MO_step_5 (by first | assumption | decide | (show _ < 124; omega) | (show _ < 61; omega) | (show _ < 20; omega)) (rfl) (show i < 7200 by omega) (ab_ln_lt _ _) ?_
    refine ab_top ex ?_
    refine ab_sipush (v := 1000) X d_MO_step_6 (by decide) ?_
    refine ab_idiv X d_MO_step_9 (by decide) ?_
    refine ab_top ((div_nI bx).trans (congrArg nI hx)) ?_
    refine ab_istore4 X 0 1 2 3 d_MO_step_10 (by decide) rfl rfl rfl rfl rfl rfl rfl rfl ?_
    refine ab_aload_n X 1 d_MO_step_12 rfl rfl ?_
    refine ab_gR X fl_MO_57 d_MO_step_13 (by first | assumption | decide | (show _ < 124; omega) | (show _ < 61; omega) | (show _ < 20; omega)) (P0.1.mo15) ?_
    refine ab_iload_n X 2 d_MO_step_16 rfl rfl ?_
    refine ab_iald X (i) ⟨rfl, rfl⟩ d_MO_step_17 (by first | assumption | decide | (show _ < 124; omega) | (show _ < 61; omega) | (show _ < 20; omega)) (rfl) (show i < 7200 by omega) (ab_ln_lt _ _) ?_
    refine ab_top ex ?_
    refine ab_sipush (v := 1000) X d_MO_step_18 (by decide) ?_
    refine ab_irem X d_MO_step_21 (by decide) ?_
    refine ab_top (rem_nI bx) ?_
    refine ab_istore5 X 0 1 2 3 4 d_MO_step_22 (by decide) rfl rfl rfl rfl rfl rfl rfl rfl rfl rfl ?_
    refine ab_iload X 1 d_MO_step_24 rfl ?_
    refine ab_iconst (v := 1) X d_MO_step_26 (by decide) ?_
    refine ab_icmp_ne X 73 d_MO_step_27 rfl (fun _ => ?_) (fun hb => absurd hb ((by decide)))
    refine ab_iload X 1 d_MO_step_73 rfl ?_
    refine ab_iconst (v := 2) X d_MO_step_75 (by decide) ?_
    refine ab_icmp_ne X 103 d_MO_step_76 rfl (fun _ => ?_) (fun hb => absurd hb ((by decide)))
    refine ab_iload X 1 d_MO_step_103 rfl ?_
    refine ab_iconst (v := 3) X d_MO_step_105 (by decide) ?_
    refine ab_icmp_eq X 115 d_MO_step_106 rfl (fun hb => absurd hb ((by decide))) (fun _ => ?_)
    refine ab_iload X 1 d_MO_step_109 rfl ?_
    refine ab_iconst (v := 4) X d_MO_step_111 (by decide) ?_
    refine ab_icmp_ne X 144 d_MO_step_112 rfl (fun _ => ?_) (fun hb => absurd hb ((by decide)))
    refine ab_iload X 1 d_MO_step_144 rfl ?_
    refine ab_iconst (v := 5) X d_MO_step_146 (by decide) ?_
    refine ab_icmp_ne X 165 d_MO_step_147 rfl (fun _ => ?_) (fun hb => absurd hb ((by decide)))
    refine ab_iload X 1 d_MO_step_165 rfl ?_
    refine ab_bipush (v := 9) X d_MO_step_167 (by decide) ?_
    refine ab_icmp_ge X 181 d_MO_step_169 rfl (fun _ => ?_) (fun hb => absurd ((by decide)) hb)
    refine ab_iload X 1 d_MO_step_181 rfl ?_
    refine ab_bipush (v := 9) X d_MO_step_183 (by decide) ?_
    refine ab_icmp_ne X 209 d_MO_step_185 rfl (fun _ => ?_) (fun hb => absurd hb ((by decide)))
    refine ab_iload X 1 d_MO_step_209 rfl ?_
    refine ab_bipush (v := 10) X d_MO_step_211 (by decide) ?_
    refine ab_icmp_ne X 242 d_MO_step_213 rfl (fun _ => ?_) (fun hb => absurd hb ((by decide)))
    refine ab_iload X 1 d_MO_step_242 rfl ?_
    refine ab_bipush (v := 11) X d_MO_step_244 (by decide) ?_
    refine ab_icmp_ne X 290 d_MO_step_246 rfl (fun _ => ?_) (fun hb => absurd hb ((by decide)))
    refine ab_iload X 1 d_MO_step_290 rfl ?_
    refine ab_bipush (v := 12) X d_MO_step_292 (by decide) ?_
    refine ab_icmp_ne X 345 d_MO_step_294 rfl (fun _ => ?_) (fun hb => absurd hb ((by decide)))
    refine ab_iload X 1 d_MO_step_345 rfl ?_
    refine ab_bipush (v := 13) X d_MO_step_347 (by decide) ?_
    refine ab_icmp_ne X 360 d_MO_step_349 rfl (fun _ => ?_) (fun hb => absurd hb ((by decide)))
    refine ab_iload X 1 d_MO_step_360 rfl ?_
    refine ab_bipush (v := 15) X d_MO_step_362 (by decide) ?_
    refine ab_icmp_ne X 388 d_MO_step_364 rfl (fun _ => ?_) (fun hb => absurd hb ((by decide)))
    refine ab_iload X 1 d_MO_step_388 rfl ?_
    refine ab_bipush (v := 16) X d_MO_step_390 (by decide) ?_
    refine ab_icmp_ne X 428 d_MO_step_392 rfl (fun hb => absurd ((by decide)) hb) (fun _ => ?_)
    refine ab_aload_n X 2 d_MO_step_395 rfl rfl ?_
    refine ab_callV (as := []) X (fun h => by cases h) (z_MO_takeNumber u (w :: t) sd h C (by show t.length + 1 ≤ 128; omega)) lk_MO_298 d_MO_step_396 rfl rfl (by first | assumption | decide | (show _ < 124; omega) | (show _ < 61; omega) | (show _ < 20; omega)) ⟨by first | exact Nat.le_of_ble_eq_true rfl | (simp only [ab_rm]; omega), by first | exact Nat.le_of_ble_eq_true rfl | (simp only [ab_rm]; omega)⟩ ⟨by first | exact Nat.le_of_ble_eq_true rfl | (simp only [ab_rm]; omega), by first | exact Nat.le_of_ble_eq_true rfl | (simp only [ab_rm]; omega)⟩ (Nat.le_of_ble_eq_true rfl) (fun u396 r396 h396 => ?_)
    obtain ⟨⟨z396, c396, g396⟩, rfl⟩ := h396
    have q396 := z396
    have P396 := P0.trans q396 (by decide)
    refine ab_istore6 X 0 1 2 3 4 5 d_MO_step_399 (by decide) rfl rfl rfl rfl rfl rfl rfl rfl rfl rfl rfl rfl ?_
    refine ab_aload_n X 3 d_MO_step_401 rfl rfl ?_
    refine ab_gI X fl_MO_132 d_MO_step_402 (by first | assumption | decide | (show _ < 124; omega) | (show _ < 61; omega) | (show _ < 20; omega)) ((g396.trans ((tn_n hw).trans e6))) ?_
    refine ab_if_ne X 414 d_MO_step_405 rfl (fun hb => absurd (rfl) hb) (fun _ => ?_)
    refine ab_aload_n X 3 d_MO_step_408 rfl rfl ?_
    refine ab_iload X 0 d_MO_step_409 rfl ?_
    refine ab_callV (as := [ab_I (nI w)]) X (fun h => by cases h) (z_MO_putOn u396 w t sd P396.1 c396 (by omega) (by omega)) lk_MO_301 d_MO_step_411 rfl rfl (by first | assumption | decide | (show _ < 124; omega) | (show _ < 61; omega) | (show _ < 20; omega)) ⟨by first | exact Nat.le_of_ble_eq_true rfl | (simp only [ab_rm]; omega), by first | exact Nat.le_of_ble_eq_true rfl | (simp only [ab_rm]; omega)⟩ ⟨by first | exact Nat.le_of_ble_eq_true rfl | (simp only [ab_rm]; omega), by first | exact Nat.le_of_ble_eq_true rfl | (simp only [ab_rm]; omega)⟩ (Nat.le_of_ble_eq_true rfl) (fun u411 r411 h411 => ?_)
    obtain ⟨⟨z411, c411, g411⟩, rfl⟩ := h411
    have q411 := z411
    have P411 := P396.trans q411 (by decide)
    refine ab_iload X 0 d_MO_step_414 rfl ?_
    refine ab_if_eq X 425 d_MO_step_416 rfl (fun hb => absurd hb ((nI_n0 (n := w) (by omega) q0))) (fun _ => ?_)
    refine ab_aload_n X 3 d_MO_step_419 rfl rfl ?_
    refine ab_iload X 0 d_MO_step_420 rfl ?_
    refine ab_callV (as := [ab_I (nI w)]) X (fun h => by cases h) (z_MO_putOn u411 w (w :: t) sd P411.1 c411 (by omega) (by show t.length + 1 < 128; omega)) lk_MO_301 d_MO_step_422 rfl rfl (by first | assumption | decide | (show _ < 124; omega) | (show _ < 61; omega) | (show _ < 20; omega)) ⟨by first | exact Nat.le_of_ble_eq_true rfl | (simp only [ab_rm]; omega), by first | exact Nat.le_of_ble_eq_true rfl | (simp only [ab_rm]; omega)⟩ ⟨by first | exact Nat.le_of_ble_eq_true rfl | (simp only [ab_rm]; omega), by first | exact Nat.le_of_ble_eq_true rfl | (simp only [ab_rm]; omega)⟩ (Nat.le_of_ble_eq_true rfl) (fun u422 r422 h422 => ?_)
    obtain ⟨⟨z422, c422, g422⟩, rfl⟩ := h422
    have q422 := z422
    have P422 := P411.trans q422 (by decide)
    refine ab_goto X 440 d_MO_step_425 rfl ?_
    refine ab_iload_n X 4 d_MO_step_440 rfl rfl ?_
    refine ab_iconst (v := 1) X d_MO_step_441 (by decide) ?_
    refine ab_iadd X d_MO_step_442 ?_
    refine ab_top (nI_1 _) ?_
    exact ab_reti X hr0 hlk d_MO_step_443 (sR.yes P422 (show stp hh aa x r (w :: t) sd = some (r, w :: w :: t, sd) by rw [stp_16 hx hw, if_neg q0]) (g422.trans (g411.trans (g396.trans ((tn_n hw).trans e6)))) c422)
set_option maxRecDepth 100000 in
set_option maxHeartbeats 1000000 in
theorem z_MO_st17 (u : ab_S) (st sd : List Nat) (h : mR u.2.1) (C : rM u st sd) (hh aa : Int32) (x i : Nat) (r : List Nat) (hL : st.length < 127) (hS : sd.length < 63) (ex : u.1 18 9 i = nI x) (bx : x < 20000) (e6 : u.1 17 0 40 = 0) (Wr : wR u i r) (G : gd x r st) (hx : x / 1000 = 17) : ab_C false l D ca y_MO_step b_MO_step 7 (some FieldType.int) 3 ab_nQ u [ab_O 17 0, ab_I (nI i), ab_I hh, ab_I aa] (fun u' w => sR hh aa x r st sd i u u' w) := by
  refine ab_C.of (by decide) (Nat.le_of_ble_eq_true rfl) ?_
  intro p e s m args below meth c ad X hZ hr0 hlk
  have P0 : gP [35, 37, 40, 118, 119] u u := gP.rf h
  have hi := Wr.1
  refine ab_aload_n X 0 d_MO_step_0 rfl rfl ?_
  refine ab_gR X fl_MO_57 d_MO_step_1 (by first | assumption | decide | (show _ < 124; omega) | (show _ < 61; omega) | (show _ < 20; omega)) (P0.1.mo15) ?_
  refine ab_iload_n X 1 d_MO_step_4 rfl rfl ?_
  refine ab_iald X (i) ⟨rfl, rfl⟩ d_MO_step_5 (by first | assumption | decide | (show _ < 124; omega) | (show _ < 61; omega) | (show _ < 20; omega)) (rfl) (show i < 7200 by omega) (ab_ln_lt _ _) ?_
  refine ab_top ex ?_
  refine ab_sipush (v := 1000) X d_MO_step_6 (by decide) ?_
  refine ab_idiv X d_MO_step_9 (by decide) ?_
  refine ab_top ((div_nI bx).trans (congrArg nI hx)) ?_
  refine ab_istore4 X 0 1 2 3 d_MO_step_10 (by decide) rfl rfl rfl rfl rfl rfl rfl rfl ?_
  refine ab_aload_n X 1 d_MO_step_12 rfl rfl ?_
  refine ab_gR X fl_MO_57 d_MO_step_13 (by first | assumption | decide | (show _ < 124; omega) | (show _ < 61; omega) | (show _ < 20; omega)) (P0.1.mo15) ?_
  refine ab_iload_n X 2 d_MO_step_16 rfl rfl ?_
  refine ab_iald X (i) ⟨rfl, rfl⟩ d_MO_step_17 (by first | assumption | decide | (show _ < 124; omega) | (show _ < 61; omega) | (show _ < 20; omega)) (rfl) (show i < 7200 by omega) (ab_ln_lt _ _) ?_
  refine ab_top ex ?_
  refine ab_sipush (v := 1000) X d_MO_step_18 (by decide) ?_
  refine ab_irem X d_MO_step_21 (by decide) ?_
  refine ab_top (rem_nI bx) ?_
  refine ab_istore5 X 0 1 2 3 4 d_MO_step_22 (by decide) rfl rfl rfl rfl rfl rfl rfl rfl rfl rfl ?_
  refine ab_iload X 1 d_MO_step_24 rfl ?_
  refine ab_iconst (v := 1) X d_MO_step_26 (by decide) ?_
  refine ab_icmp_ne X 73 d_MO_step_27 rfl (fun _ => ?_) (fun hb => absurd hb ((by decide)))
  refine ab_iload X 1 d_MO_step_73 rfl ?_
  refine ab_iconst (v := 2) X d_MO_step_75 (by decide) ?_
  refine ab_icmp_ne X 103 d_MO_step_76 rfl (fun _ => ?_) (fun hb => absurd hb ((by decide)))
  refine ab_iload X 1 d_MO_step_103 rfl ?_
  refine ab_iconst (v := 3) X d_MO_step_105 (by decide) ?_
  refine ab_icmp_eq X 115 d_MO_step_106 rfl (fun hb => absurd hb ((by decide))) (fun _ => ?_)
  refine ab_iload X 1 d_MO_step_109 rfl ?_
  refine ab_iconst (v := 4) X d_MO_step_111 (by decide) ?_
  refine ab_icmp_ne X 144 d_MO_step_112 rfl (fun _ => ?_) (fun hb => absurd hb ((by decide)))
  refine ab_iload X 1 d_MO_step_144 rfl ?_
  refine ab_iconst (v := 5) X d_MO_step_146 (by decide) ?_
  refine ab_icmp_ne X 165 d_MO_step_147 rfl (fun _ => ?_) (fun hb => absurd hb ((by decide)))
  refine ab_iload X 1 d_MO_step_165 rfl ?_
  refine ab_bipush (v := 9) X d_MO_step_167 (by decide) ?_
  refine ab_icmp_ge X 181 d_MO_step_169 rfl (fun _ => ?_) (fun hb => absurd ((by decide)) hb)
  refine ab_iload X 1 d_MO_step_181 rfl ?_
  refine ab_bipush (v := 9) X d_MO_step_183 (by decide) ?_
  refine ab_icmp_ne X 209 d_MO_step_185 rfl (fun _ => ?_) (fun hb => absurd hb ((by decide)))
  refine ab_iload X 1 d_MO_step_209 rfl ?_
  refine ab_bipush (v := 10) X d_MO_step_211 (by decide) ?_
  refine ab_icmp_ne X 242 d_MO_step_213 rfl (fun _ => ?_) (fun hb => absurd hb ((by decide)))
  refine ab_iload X 1 d_MO_step_242 rfl ?_
  refine ab_bipush (v := 11) X d_MO_step_244 (by decide) ?_
  refine ab_icmp_ne X 290 d_MO_step_246 rfl (fun _ => ?_) (fun hb => absurd hb ((by decide)))
  refine ab_iload X 1 d_MO_step_290 rfl ?_
  refine ab_bipush (v := 12) X d_MO_step_292 (by decide) ?_
  refine ab_icmp_ne X 345 d_MO_step_294 rfl (fun _ => ?_) (fun hb => absurd hb ((by decide)))
  refine ab_iload X 1 d_MO_step_345 rfl ?_
  refine ab_bipush (v := 13) X d_MO_step_347 (by decide) ?_
  refine ab_icmp_ne X 360 d_MO_step_349 rfl (fun _ => ?_) (fun hb => absurd hb ((by decide)))
  refine ab_iload X 1 d_MO_step_360 rfl ?_
  refine ab_bipush (v := 15) X d_MO_step_362 (by decide) ?_
  refine ab_icmp_ne X 388 d_MO_step_364 rfl (fun _ => ?_) (fun hb => absurd hb ((by decide)))
  refine ab_iload X 1 d_MO_step_388 rfl ?_
  refine ab_bipush (v := 16) X d_MO_step_390 (by decide) ?_
  refine ab_icmp_ne X 428 d_MO_step_392 rfl (fun _ => ?_) (fun hb => absurd hb ((by decide)))
  refine ab_iload X 1 d_MO_step_428 rfl ?_
  refine ab_bipush (v := 17) X d_MO_step_430 (by decide) ?_
  refine ab_icmp_ne X 440 d_MO_step_432 rfl (fun hb => absurd ((by decide)) hb) (fun _ => ?_)
  refine ab_aload_n X 2 d_MO_step_435 rfl rfl ?_
  refine ab_iconst (v := 0) X d_MO_step_436 (by decide) ?_
  refine ab_callV (as := [ab_I (nI 0)]) X (fun h => by cases h) (z_MO_putOn u 0 st sd P0.1 C (by decide) (by omega)) lk_MO_301 d_MO_step_437 rfl rfl (by first | assumption | decide | (show _ < 124; omega) | (show _ < 61; omega) | (show _ < 20; omega)) ⟨by first | exact Nat.le_of_ble_eq_true rfl | (simp only [ab_rm]; omega), by first | exact Nat.le_of_ble_eq_true rfl | (simp only [ab_rm]; omega)⟩ ⟨by first | exact Nat.le_of_ble_eq_true rfl | (simp only [ab_rm]; omega), by first | exact Nat.le_of_ble_eq_true rfl | (simp only [ab_rm]; omega)⟩ (Nat.le_of_ble_eq_true rfl) (fun u437 r437 h437 => ?_)
  obtain ⟨⟨z437, c437, g437⟩, rfl⟩ := h437
  have q437 := z437
  have P437 := P0.trans q437 (by decide)
  refine ab_iload_n X 3 d_MO_step_440 rfl rfl ?_
  refine ab_iconst (v := 1) X d_MO_step_441 (by decide) ?_
  refine ab_iadd X d_MO_step_442 ?_
  refine ab_top (nI_1 _) ?_
  exact ab_reti X hr0 hlk d_MO_step_443 (sR.yes P437 (show stp hh aa x r st sd = some (r, 0 :: st, sd) by simp [stp, hx]) (g437.trans e6) (c437))
theorem z_MO_step (u : ab_S) (st sd : List Nat) (h : mR u.2.1) (C : rM u st sd) (hh aa : Int32) (x i : Nat) (r : List Nat) (hL : st.length < 127) (hS : sd.length < 63) (ex : u.1 18 9 i = nI x) (bx : x < 20000) (e6 : u.1 17 0 40 = 0) (Wr : wR u i r) (G : gd x r st) (hx : 1000 ≤ x ∧ x < 18000) : ab_C false l D ca y_MO_step b_MO_step 7 (some .int) 3 ab_nQ u [ab_O 17 0, ab_I (nI i), ab_I hh, ab_I aa] (fun u' w => gP [35, 37, 40, 118, 119] u u' ∧ ∃ v : Int32, sK hh aa x r st sd i u' v ∧ w = some (ab_I v)) := by
  refine ab_C_mono (P := (fun u' w => sR hh aa x r st sd i u u' w)) ?_ (fun u' w z => z.val)
  have h17 : x / 1000 = 1 ∨ x / 1000 = 2 ∨ x / 1000 = 3 ∨ x / 1000 = 4 ∨ x / 1000 = 5 ∨ x / 1000 = 6 ∨ x / 1000 = 7 ∨ x / 1000 = 8 ∨ x / 1000 = 9 ∨ x / 1000 = 10 ∨ x / 1000 = 11 ∨ x / 1000 = 12 ∨ x / 1000 = 13 ∨ x / 1000 = 14 ∨ x / 1000 = 15 ∨ x / 1000 = 16 ∨ x / 1000 = 17 := by omega
  rcases h17 with h17 | h17 | h17 | h17 | h17 | h17 | h17 | h17 | h17 | h17 | h17 | h17 | h17 | h17 | h17 | h17 | h17
  · exact z_MO_st1 u st sd h C hh aa x i r hL hS ex bx e6 Wr G h17
  · exact z_MO_st2 u st sd h C hh aa x i r hL hS ex bx e6 Wr G h17
  · exact z_MO_st3 u st sd h C hh aa x i r hL hS ex bx e6 Wr G h17
  · exact z_MO_st4 u st sd h C hh aa x i r hL hS ex bx e6 Wr G h17
  · exact z_MO_st5 u st sd h C hh aa x i r hL hS ex bx e6 Wr G h17
  · exact z_MO_st6 u st sd h C hh aa x i r hL hS ex bx e6 Wr G h17
  · exact z_MO_st7 u st sd h C hh aa x i r hL hS ex bx e6 Wr G h17
  · exact z_MO_st8 u st sd h C hh aa x i r hL hS ex bx e6 Wr G h17
  · exact z_MO_st9 u st sd h C hh aa x i r hL hS ex bx e6 Wr G h17
  · exact z_MO_st10 u st sd h C hh aa x i r hL hS ex bx e6 Wr G h17
  · exact z_MO_st11 u st sd h C hh aa x i r hL hS ex bx e6 Wr G h17
  · exact z_MO_st12 u st sd h C hh aa x i r hL hS ex bx e6 Wr G h17
  · exact z_MO_st13 u st sd h C hh aa x i r hL hS ex bx e6 Wr G h17
  · exact z_MO_st14 u st sd h C hh aa x i r hL hS ex bx e6 Wr G h17
  · exact z_MO_st15 u st sd h C hh aa x i r hL hS ex bx e6 Wr G h17
  · exact z_MO_st16 u st sd h C hh aa x i r hL hS ex bx e6 Wr G h17
  · exact z_MO_st17 u st sd h C hh aa x i r hL hS ex bx e6 Wr G h17
end SaXRStep

