/-! The reference's other calls, between which MI holds. -/
def oS (u u' : ab_S) : Prop := u'.2 = u.2 ∧ ∀ c i k, c ≠ 17 → c ≠ 18 → c ≠ 19 → u'.1 c i k = u.1 c i k
/-- the policy and what was typed stay -/
def oT (u u' : ab_S) : Prop := (∀ s, s = 4 ∨ s = 5 ∨ s = 6 → u'.1 17 0 s = u.1 17 0 s) ∧ ∀ a k, a ≤ 9 → u'.1 18 a k = u.1 18 a k
theorem gP.oT {F : List Nat} {u u' : ab_S} (g : gP F u u') (hF : (F.all fun z => !([4, 5, 6, 100, 101, 102, 103, 104, 105, 106, 107, 108, 109].contains z)) = true) : oT u u' := by
  have l5 : ∀ a, a < 10 → 100 + a ∈ [4, 5, 6, 100, 101, 102, 103, 104, 105, 106, 107, 108, 109] := by decide
  have q : ∀ z, z ∈ [4, 5, 6, 100, 101, 102, 103, 104, 105, 106, 107, 108, 109] → ¬ z ∈ F := fun z hz hF' => by
    have := List.all_eq_true.mp hF z hF'
    rw [List.contains_iff_mem.mpr hz] at this
    cases this
  refine ⟨fun s hs => g.fi (q s (by rcases hs with rfl | rfl | rfl <;> decide)) rfl, fun a k ha => g.ai (q (100 + a) (l5 a (by omega))) rfl⟩
def oP (u u' : ab_S) : Prop := MI u' ∧ oS u u' ∧ u'.1 17 0 2 = u.1 17 0 2 ∧ oT u u'
theorem gP.oS {F : List Nat} {u u' : ab_S} (g : gP F u u') : oS u u' := ⟨g.2.1, g.2.2.1⟩
theorem fV.fr {P : Nat} {kd lf : Nat → Nat} {p0 : Nat} {u u' : ab_S} (h : fV P kd lf p0 u) {F : List Nat} (g : gP F u u') (h5 : ¬ 100 + 5 ∈ F) (h6 : ¬ 100 + 6 ∈ F) (h9 : ¬ 100 + 9 ∈ F) : fV P kd lf p0 u' := fun p a b j hj => by
  obtain ⟨x1, x2, w, x3, x4⟩ := h p a b j hj
  exact ⟨x1.fr g h6 h9, by unfold lnu; rw [g.ai h6 rfl]; exact x2, w, g.ai h5 x3, x4⟩
theorem MI.fr {u u' : ab_S} (h : MI u) {F : List Nat} (g : gP F u u') (h2 : ¬ 2 ∈ F) (h32 : ¬ 32 ∈ F) (h4 : ¬ 4 ∈ F) (h5 : ¬ 5 ∈ F) (a1 : ¬ 100 + 1 ∈ F) (a2 : ¬ 100 + 2 ∈ F) (a3 : ¬ 100 + 3 ∈ F) (a4 : ¬ 100 + 4 ∈ F) (a5 : ¬ 100 + 5 ∈ F) (a6 : ¬ 100 + 6 ∈ F) (a9 : ¬ 100 + 9 ∈ F) : MI u' := by
  obtain ⟨-, ⟨n, n1, n2⟩, ⟨k, k1, k2⟩, h3⟩ := h
  refine ⟨g.1, ⟨n, n1, g.fi h2 n2⟩, ⟨k, k1, g.fi h32 k2⟩, ?_⟩
  rcases h3 with z | ⟨z, P, kd, ar, cn, lf, ch, W, T, V⟩
  · exact Or.inl (g.fi h4 z)
  · exact Or.inr ⟨g.fi h4 z, P, kd, ar, cn, lf, ch, W, T.fr g h5 a1 a2 a3 a4, V.fr g a5 a6 a9⟩
theorem MI.oP {u u' : ab_S} (h : MI u) {F : List Nat} (g : gP F u u') (hF : (F.all fun z => !([2, 32, 4, 5, 6, 100, 101, 102, 103, 104, 105, 106, 107, 108, 109].contains z)) = true) : oP u u' := by
  have l5 : ∀ a, a < 10 → 100 + a ∈ [2, 32, 4, 5, 6, 100, 101, 102, 103, 104, 105, 106, 107, 108, 109] := by decide
  have q : ∀ z, z ∈ [2, 32, 4, 5, 6, 100, 101, 102, 103, 104, 105, 106, 107, 108, 109] → ¬ z ∈ F := fun z hz hF' => by
    have := List.all_eq_true.mp hF z hF'
    rw [List.contains_iff_mem.mpr hz] at this
    cases this
  exact ⟨h.fr g (q _ (by decide)) (q _ (by decide)) (q _ (by decide)) (q _ (by decide)) (q _ (by decide)) (q _ (by decide)) (q _ (by decide)) (q _ (by decide)) (q _ (by decide)) (q _ (by decide)) (q _ (by decide)), g.oS, g.fi (q 2 (by decide)) rfl, fun s hs => g.fi (q s (by rcases hs with rfl | rfl | rfl <;> decide)) rfl, fun a k ha => g.ai (q (100 + a) (l5 a (by omega))) rfl⟩
/-- the whole's script -/
theorem MI.scV {u : ab_S} {P : Nat} {kd ar cn lf : Nat → Nat} {ch : Nat → Nat → Nat} (W : tW P kd ar cn lf ch) (V : fV P kd lf 0 u) : scV (lnu u 0) u ∧ u.1 18 6 0 = nI (lnu u 0) := by
  obtain ⟨x1, x2, -⟩ := V 0 (Nat.le_refl _) W.1 0 (by decide)
  have l := (W.2.2 0 W.1).1
  have x2 : lnu u 0 ≤ 9 * lf 0 - 4 + 0 := x2
  have x1 : fG u 0 (lf 0 - 1) := x1
  refine ⟨⟨x1.1.2.1, by omega, x1.2.1, ?_⟩, x1.1.1⟩
  have z := x1.2.2
  have z : cas (ol u 0 (lnu u 0)) ≤ lf 0 - 1 := z
  omega
/-- the witness stays -/
def wK (u u' : ab_S) : Prop := (u'.1 17 0 32 = u.1 17 0 32 ∧ ∀ i, u'.1 18 17 i = u.1 18 17 i) ∧ u'.1 17 0 33 = u.1 17 0 33
def oV (u u' : ab_S) : Prop := oP u u' ∧ wK u u'
theorem MI.oV {u u' : ab_S} (h : MI u) {F : List Nat} (g : gP F u u') (hF : (F.all fun z => !([2, 32, 4, 5, 6, 100, 101, 102, 103, 104, 105, 106, 107, 108, 109].contains z)) = true) (h17 : ¬ 100 + 17 ∈ F) (h33 : ¬ 33 ∈ F) : oV u u' := by
  have q : ¬ 32 ∈ F := fun hF' => by
    have := List.all_eq_true.mp hF 32 hF'
    rw [List.contains_iff_mem.mpr (by decide)] at this
    cases this
  exact ⟨h.oP g hF, ⟨g.fi q rfl, fun i => g.ai h17 rfl⟩, g.fi h33 rfl⟩
section SaMRest
variable {l : Launch} {D : va_G} {ca : Nat → ClassId}
set_option maxRecDepth 100000 in
set_option maxHeartbeats 1000000 in
theorem o_MO_word (u : ab_S) (x : Int32) (h : MI u) : ab_C false l D ca y_MO_word b_MO_word 2 (some FieldType.int) 0 ab_nQ u [ab_O 17 0, ab_I x] (fun u' v => oV u u' ∧ ∃ x : Int32, v = some (ab_I x)) := by
  refine ab_C.of (by decide) (Nat.le_of_ble_eq_true rfl) ?_
  intro p e s m args below meth c ad X hZ hr0 hlk
  obtain ⟨hm, -, -, h3⟩ := id h
  have P0 : gP [0] u u := gP.rf hm
  have K1 : ∀ u1, gP [0] u u1 → u1.1 17 0 0 = 1 → ab_J p l e (ab_rm 0 0 0) s m args below meth c (MQ below (ab_Q D ca ad ab_nQ s.heap.size (fun u' v => oV u u' ∧ ∃ x : Int32, v = some (ab_I x))) args s 0 0 (ab_A ad ab_nQ s.heap.size)) D ca (ab_A ad ab_nQ s.heap.size) s.heap 2 0 0 ad ab_nQ u1 30 [(0, ab_O 17 0), (1, ab_I x)] [] := by
    intro u1 P1 t1
    refine ab_aload_n X 0 d_MO_word_30 rfl rfl ?_
    refine ab_gI X fl_MO_7 d_MO_word_31 (by first | assumption | decide | (show _ < 124; omega) | (show _ < 61; omega) | (show _ < 20; omega)) (t1) ?_
    refine ab_if_eq X 41 d_MO_word_34 rfl (fun hb => absurd hb ((by decide))) (fun _ => ?_)
    refine ab_iconst (v := 0) X d_MO_word_37 (by decide) ?_
    refine ab_goto X 47 d_MO_word_38 rfl ?_
    exact ab_reti X hr0 hlk d_MO_word_47 ⟨h.oV P1 (by decide) (by decide) (by decide), _, rfl⟩
  have K0 : ∀ (u1 : ab_S) (j : Nat), gP [0] u u1 → u1.1 17 0 0 = 0 → j ≤ 100 → x = nI j → ab_J p l e (ab_rm 0 0 0) s m args below meth c (MQ below (ab_Q D ca ad ab_nQ s.heap.size (fun u' v => oV u u' ∧ ∃ x : Int32, v = some (ab_I x))) args s 0 0 (ab_A ad ab_nQ s.heap.size)) D ca (ab_A ad ab_nQ s.heap.size) s.heap 2 0 0 ad ab_nQ u1 30 [(0, ab_O 17 0), (1, ab_I x)] [] := by
    intro u1 j P1 t1 hj hx
    refine ab_aload_n X 0 d_MO_word_30 rfl rfl ?_
    refine ab_gI X fl_MO_7 d_MO_word_31 (by first | assumption | decide | (show _ < 124; omega) | (show _ < 61; omega) | (show _ < 20; omega)) (t1) ?_
    refine ab_if_eq X 41 d_MO_word_34 rfl (fun _ => ?_) (fun hb => absurd (rfl) hb)
    refine ab_aload_n X 0 d_MO_word_41 rfl rfl ?_
    refine ab_gR X fl_MO_57 d_MO_word_42 (by first | assumption | decide | (show _ < 124; omega) | (show _ < 61; omega) | (show _ < 20; omega)) (P1.1.mo15) ?_
    refine ab_iload_n X 1 d_MO_word_45 rfl rfl ?_
    refine ab_iald X (j) ⟨rfl, rfl⟩ d_MO_word_46 (by first | assumption | decide | (show _ < 124; omega) | (show _ < 61; omega) | (show _ < 20; omega)) (hx) (show j < 7200 by omega) (ab_ln_lt _ _) ?_
    exact ab_reti X hr0 hlk d_MO_word_47 ⟨h.oV P1 (by decide) (by decide) (by decide), _, rfl⟩
  rcases h3 with z | ⟨z, P, kd, ar, cn, lf, ch, W, T, V⟩
  ·
    refine ab_aload_n X 0 d_MO_word_0 rfl rfl ?_
    refine ab_aload_n X 0 d_MO_word_1 rfl rfl ?_
    refine ab_gI X fl_MO_23 d_MO_word_2 (by first | assumption | decide | (show _ < 124; omega) | (show _ < 61; omega) | (show _ < 20; omega)) (z) ?_
    refine ab_if_eq X 22 d_MO_word_5 rfl (fun _ => ?_) (fun hb => absurd (rfl) hb)
    refine ab_iconst (v := 1) X d_MO_word_22 (by decide) ?_
    refine ab_goto X 27 d_MO_word_23 rfl ?_
    refine ab_putI X fp_MO_7 d_MO_word_27 (by first | assumption | decide | (show _ < 124; omega) | (show _ < 61; omega) | (show _ < 20; omega)) rfl rfl ?_
    refine ab_gen (fun u27 e27 => ?_)
    have P27 : gP [0] u u27 := by rw [e27]; exact P0.ui rfl (by decide)
    have t27 := (congrArg (fun z : ab_S => z.1 17 0 0) e27).trans (ui_s _)
    exact K1 _ P27 t27
  · obtain ⟨hV, e6⟩ := MI.scV W V
    have hn := hV.2.1
    refine ab_aload_n X 0 d_MO_word_0 rfl rfl ?_
    refine ab_aload_n X 0 d_MO_word_1 rfl rfl ?_
    refine ab_gI X fl_MO_23 d_MO_word_2 (by first | assumption | decide | (show _ < 124; omega) | (show _ < 61; omega) | (show _ < 20; omega)) (z) ?_
    refine ab_if_eq X 22 d_MO_word_5 rfl (fun hb => absurd hb ((by decide))) (fun _ => ?_)
    refine ab_iload_n X 1 d_MO_word_8 rfl rfl ?_
    refine ab_if_lt X 22 d_MO_word_9 rfl (fun h9 => ?_) (fun h9 => ?_)
    ·
      refine ab_iconst (v := 1) X d_MO_word_22 (by decide) ?_
      refine ab_goto X 27 d_MO_word_23 rfl ?_
      refine ab_putI X fp_MO_7 d_MO_word_27 (by first | assumption | decide | (show _ < 124; omega) | (show _ < 61; omega) | (show _ < 20; omega)) rfl rfl ?_
      refine ab_gen (fun u27 e27 => ?_)
      have P27 : gP [0] u u27 := by rw [e27]; exact P0.ui rfl (by decide)
      have t27 := (congrArg (fun z : ab_S => z.1 17 0 0) e27).trans (ui_s _)
      first | exact K1 _ P27 t27 | exact K0 _ j P27 t27 hj hx
    ·
      refine ab_iload_n X 1 d_MO_word_12 rfl rfl ?_
      refine ab_aload_n X 0 d_MO_word_13 rfl rfl ?_
      refine ab_gR X fl_MO_48 d_MO_word_14 (by first | assumption | decide | (show _ < 124; omega) | (show _ < 61; omega) | (show _ < 20; omega)) (P0.1.mo12) ?_
      refine ab_iconst (v := 0) X d_MO_word_17 (by decide) ?_
      refine ab_iald X (0) ⟨rfl, rfl⟩ d_MO_word_18 (by first | assumption | decide | (show _ < 124; omega) | (show _ < 61; omega) | (show _ < 20; omega)) (rfl) (show 0 < 72 by decide) (ab_ln_lt _ _) ?_
      refine ab_top e6 ?_
      refine ab_icmp_lt X 26 d_MO_word_19 rfl (fun h19 => ?_) (fun h19 => ?_)
      ·
        obtain ⟨j, hj, hx⟩ : ∃ j, j ≤ 100 ∧ x = nI j := by
          obtain ⟨j, hj, rfl⟩ := nI_of h9
          exact ⟨j, by have := nI_ltl h19 hj; omega, rfl⟩
        refine ab_iconst (v := 0) X d_MO_word_26 (by decide) ?_
        refine ab_putI X fp_MO_7 d_MO_word_27 (by first | assumption | decide | (show _ < 124; omega) | (show _ < 61; omega) | (show _ < 20; omega)) rfl rfl ?_
        refine ab_gen (fun u27 e27 => ?_)
        have P27 : gP [0] u u27 := by rw [e27]; exact P0.ui rfl (by decide)
        have t27 := (congrArg (fun z : ab_S => z.1 17 0 0) e27).trans (ui_s _)
        first | exact K1 _ P27 t27 | exact K0 _ j P27 t27 hj hx
      ·
        refine ab_iconst (v := 1) X d_MO_word_22 (by decide) ?_
        refine ab_goto X 27 d_MO_word_23 rfl ?_
        refine ab_putI X fp_MO_7 d_MO_word_27 (by first | assumption | decide | (show _ < 124; omega) | (show _ < 61; omega) | (show _ < 20; omega)) rfl rfl ?_
        refine ab_gen (fun u27 e27 => ?_)
        have P27 : gP [0] u u27 := by rw [e27]; exact P0.ui rfl (by decide)
        have t27 := (congrArg (fun z : ab_S => z.1 17 0 0) e27).trans (ui_s _)
        first | exact K1 _ P27 t27 | exact K0 _ j P27 t27 hj hx
set_option maxRecDepth 100000 in
set_option maxHeartbeats 1000000 in
theorem o_MO_size (u : ab_S) (x : Int32) (h : MI u) : ab_C false l D ca y_MO_size b_MO_size 2 (some FieldType.int) 0 ab_nQ u [ab_O 17 0, ab_I x] (fun u' v => oV u u' ∧ ∃ x : Int32, v = some (ab_I x)) := by
  refine ab_C.of (by decide) (Nat.le_of_ble_eq_true rfl) ?_
  intro p e s m args below meth c ad X hZ hr0 hlk
  obtain ⟨hm, -, -, h3⟩ := id h
  have P0 : gP [0] u u := gP.rf hm
  have K1 : ∀ (u1 : ab_S) (y : Int32), gP [0] u u1 → ¬ y = 0 → u1.1 17 0 0 = y → ab_J p l e (ab_rm 0 0 0) s m args below meth c (MQ below (ab_Q D ca ad ab_nQ s.heap.size (fun u' v => oV u u' ∧ ∃ x : Int32, v = some (ab_I x))) args s 0 0 (ab_A ad ab_nQ s.heap.size)) D ca (ab_A ad ab_nQ s.heap.size) s.heap 2 0 0 ad ab_nQ u1 30 [(0, ab_O 17 0), (1, ab_I x)] [] := by
    intro u1 y P1 hy t1
    refine ab_aload_n X 0 d_MO_size_30 rfl rfl ?_
    refine ab_gI X fl_MO_7 d_MO_size_31 (by first | assumption | decide | (show _ < 124; omega) | (show _ < 61; omega) | (show _ < 20; omega)) (t1) ?_
    refine ab_if_eq X 39 d_MO_size_34 rfl (fun hb => absurd hb (hy)) (fun _ => ?_)
    refine ab_iconst (v := 0) X d_MO_size_37 (by decide) ?_
    exact ab_reti X hr0 hlk d_MO_size_38 ⟨h.oV P1 (by decide) (by decide) (by decide), _, rfl⟩
  have K0 : ∀ (u1 : ab_S) (j : Nat), gP [0] u u1 → u1.1 17 0 0 = 0 → j ≤ 7 → x = nI j → ab_J p l e (ab_rm 0 0 0) s m args below meth c (MQ below (ab_Q D ca ad ab_nQ s.heap.size (fun u' v => oV u u' ∧ ∃ x : Int32, v = some (ab_I x))) args s 0 0 (ab_A ad ab_nQ s.heap.size)) D ca (ab_A ad ab_nQ s.heap.size) s.heap 2 0 0 ad ab_nQ u1 30 [(0, ab_O 17 0), (1, ab_I x)] [] := by
    intro u1 j P1 t1 hj hx
    subst hx
    refine ab_aload_n X 0 d_MO_size_30 rfl rfl ?_
    refine ab_gI X fl_MO_7 d_MO_size_31 (by first | assumption | decide | (show _ < 124; omega) | (show _ < 61; omega) | (show _ < 20; omega)) (t1) ?_
    refine ab_if_eq X 39 d_MO_size_34 rfl (fun _ => ?_) (fun hb => absurd (rfl) hb)
    refine ab_iload_n X 1 d_MO_size_39 rfl rfl ?_
    refine ab_if_ne X 50 d_MO_size_40 rfl (fun h40 => ?_) (fun h40 => ?_)
    ·
      have j1 : 0 < j := Nat.pos_of_ne_zero (fun z => h40 (by rw [z]; rfl))
      refine ab_iload_n X 1 d_MO_size_50 rfl rfl ?_
      refine ab_iconst (v := 4) X d_MO_size_51 (by decide) ?_
      refine ab_icmp_ge X 66 d_MO_size_52 rfl (fun h52 => ?_) (fun h52 => ?_)
      ·
        have j4 : 4 ≤ j := nI_le_of (b := 4) h52 (by decide)
        refine ab_iload_n X 1 d_MO_size_66 rfl rfl ?_
        refine ab_bipush (v := 7) X d_MO_size_67 (by decide) ?_
        refine ab_icmp_ge X 83 d_MO_size_69 rfl (fun h69 => ?_) (fun h69 => ?_)
        ·
          refine ab_aload_n X 0 d_MO_size_83 rfl rfl ?_
          refine ab_gI X fl_MO_27 d_MO_size_84 (by first | assumption | decide | (show _ < 124; omega) | (show _ < 61; omega) | (show _ < 20; omega)) (rfl) ?_
          exact ab_reti X hr0 hlk d_MO_size_87 ⟨h.oV P1 (by decide) (by decide) (by decide), _, rfl⟩
        ·
          refine ab_aload_n X 0 d_MO_size_72 rfl rfl ?_
          refine ab_gR X fl_MO_51 d_MO_size_73 (by first | assumption | decide | (show _ < 124; omega) | (show _ < 61; omega) | (show _ < 20; omega)) (P1.1.mo13) ?_
          refine ab_iload_n X 1 d_MO_size_76 rfl rfl ?_
          refine ab_iconst (v := 4) X d_MO_size_77 (by decide) ?_
          refine ab_isub X d_MO_size_78 ?_
          refine ab_top (pk_sub (b := 4) j4) ?_
          refine ab_iald X (j - 4) ⟨rfl, rfl⟩ d_MO_size_79 (by first | assumption | decide | (show _ < 124; omega) | (show _ < 61; omega) | (show _ < 20; omega)) (rfl) (show j - 4 < 72 by omega) (ab_ln_lt _ _) ?_
          refine ab_goto X 87 d_MO_size_80 rfl ?_
          exact ab_reti X hr0 hlk d_MO_size_87 ⟨h.oV P1 (by decide) (by decide) (by decide), _, rfl⟩
      ·
        refine ab_aload_n X 0 d_MO_size_55 rfl rfl ?_
        refine ab_gR X fl_MO_48 d_MO_size_56 (by first | assumption | decide | (show _ < 124; omega) | (show _ < 61; omega) | (show _ < 20; omega)) (P1.1.mo12) ?_
        refine ab_iload_n X 1 d_MO_size_59 rfl rfl ?_
        refine ab_iconst (v := 1) X d_MO_size_60 (by decide) ?_
        refine ab_isub X d_MO_size_61 ?_
        refine ab_top (nI_m1 j1) ?_
        refine ab_iald X (j - 1) ⟨rfl, rfl⟩ d_MO_size_62 (by first | assumption | decide | (show _ < 124; omega) | (show _ < 61; omega) | (show _ < 20; omega)) (rfl) (show j - 1 < 72 by omega) (ab_ln_lt _ _) ?_
        refine ab_goto X 87 d_MO_size_63 rfl ?_
        exact ab_reti X hr0 hlk d_MO_size_87 ⟨h.oV P1 (by decide) (by decide) (by decide), _, rfl⟩
    ·
      refine ab_aload_n X 0 d_MO_size_43 rfl rfl ?_
      refine ab_gI X fl_MO_30 d_MO_size_44 (by first | assumption | decide | (show _ < 124; omega) | (show _ < 61; omega) | (show _ < 20; omega)) (rfl) ?_
      refine ab_goto X 87 d_MO_size_47 rfl ?_
      exact ab_reti X hr0 hlk d_MO_size_87 ⟨h.oV P1 (by decide) (by decide) (by decide), _, rfl⟩
  refine ab_aload_n X 0 d_MO_size_0 rfl rfl ?_
  refine ab_aload_n X 0 d_MO_size_1 rfl rfl ?_
  refine ab_gI X fl_MO_23 d_MO_size_2 (by first | assumption | decide | (show _ < 124; omega) | (show _ < 61; omega) | (show _ < 20; omega)) (rfl) ?_
  refine ab_if_ne X 12 d_MO_size_5 rfl (fun h5 => ?_) (fun h5 => ?_)
  ·
    refine ab_iload_n X 1 d_MO_size_12 rfl rfl ?_
    refine ab_if_lt X 22 d_MO_size_13 rfl (fun h13 => ?_) (fun h13 => ?_)
    ·
      refine ab_iconst (v := 2) X d_MO_size_22 (by decide) ?_
      refine ab_goto X 27 d_MO_size_23 rfl ?_
      refine ab_putI X fp_MO_7 d_MO_size_27 (by first | assumption | decide | (show _ < 124; omega) | (show _ < 61; omega) | (show _ < 20; omega)) rfl rfl ?_
      refine ab_gen (fun u27 e27 => ?_)
      have P27 : gP [0] u u27 := by rw [e27]; exact P0.ui rfl (by decide)
      have t27 := (congrArg (fun z : ab_S => z.1 17 0 0) e27).trans (ui_s _)
      first | exact K1 _ _ P27 (by decide) t27 | exact K0 _ j P27 t27 hj hx
    ·
      refine ab_iload_n X 1 d_MO_size_16 rfl rfl ?_
      refine ab_bipush (v := 7) X d_MO_size_17 (by decide) ?_
      refine ab_icmp_le X 26 d_MO_size_19 rfl (fun h19 => ?_) (fun h19 => ?_)
      ·
        obtain ⟨j, hj, hx⟩ := nI_of2 (M := 7) (n := 7) (by decide) h13 h19
        refine ab_iconst (v := 0) X d_MO_size_26 (by decide) ?_
        refine ab_putI X fp_MO_7 d_MO_size_27 (by first | assumption | decide | (show _ < 124; omega) | (show _ < 61; omega) | (show _ < 20; omega)) rfl rfl ?_
        refine ab_gen (fun u27 e27 => ?_)
        have P27 : gP [0] u u27 := by rw [e27]; exact P0.ui rfl (by decide)
        have t27 := (congrArg (fun z : ab_S => z.1 17 0 0) e27).trans (ui_s _)
        first | exact K1 _ _ P27 (by decide) t27 | exact K0 _ j P27 t27 hj hx
      ·
        refine ab_iconst (v := 2) X d_MO_size_22 (by decide) ?_
        refine ab_goto X 27 d_MO_size_23 rfl ?_
        refine ab_putI X fp_MO_7 d_MO_size_27 (by first | assumption | decide | (show _ < 124; omega) | (show _ < 61; omega) | (show _ < 20; omega)) rfl rfl ?_
        refine ab_gen (fun u27 e27 => ?_)
        have P27 : gP [0] u u27 := by rw [e27]; exact P0.ui rfl (by decide)
        have t27 := (congrArg (fun z : ab_S => z.1 17 0 0) e27).trans (ui_s _)
        first | exact K1 _ _ P27 (by decide) t27 | exact K0 _ j P27 t27 hj hx
  ·
    refine ab_iconst (v := 1) X d_MO_size_8 (by decide) ?_
    refine ab_goto X 27 d_MO_size_9 rfl ?_
    refine ab_putI X fp_MO_7 d_MO_size_27 (by first | assumption | decide | (show _ < 124; omega) | (show _ < 61; omega) | (show _ < 20; omega)) rfl rfl ?_
    refine ab_gen (fun u27 e27 => ?_)
    have P27 : gP [0] u u27 := by rw [e27]; exact P0.ui rfl (by decide)
    have t27 := (congrArg (fun z : ab_S => z.1 17 0 0) e27).trans (ui_s _)
    first | exact K1 _ _ P27 (by decide) t27 | exact K0 _ j P27 t27 hj hx
set_option maxRecDepth 100000 in
set_option maxHeartbeats 1000000 in
theorem o_MO_holds (u : ab_S) (a1 a2 a3 a4 : Int32) (h : MI u) : ab_C false l D ca y_MO_holds b_MO_holds 8 (some FieldType.boolean) 1 ab_nQ u [ab_O 17 0, ab_I a1, ab_I a2, ab_I a3, ab_I a4] (fun u' v => oV u u' ∧ ∃ b : Int32, (b = 0 ∨ b = 1) ∧ v = some (ab_I b)) := by
  refine ab_C.of (by decide) (Nat.le_of_ble_eq_true rfl) ?_
  intro p e s m args below meth c ad X hZ hr0 hlk
  obtain ⟨hm, -, -, h3⟩ := id h
  have P0 : gP [0] u u := gP.rf hm
  rcases h3 with z | ⟨z, P, kd, ar, cn, lf, ch, W, T, V⟩
  ·
    refine ab_aload_n X 0 d_MO_holds_0 rfl rfl ?_
    refine ab_aload_n X 0 d_MO_holds_1 rfl rfl ?_
    refine ab_gI X fl_MO_23 d_MO_holds_2 (by first | assumption | decide | (show _ < 124; omega) | (show _ < 61; omega) | (show _ < 20; omega)) (z) ?_
    refine ab_if_eq X 12 d_MO_holds_5 rfl (fun _ => ?_) (fun hb => absurd (rfl) hb)
    refine ab_iconst (v := 1) X d_MO_holds_12 (by decide) ?_
    refine ab_putI X fp_MO_7 d_MO_holds_13 (by first | assumption | decide | (show _ < 124; omega) | (show _ < 61; omega) | (show _ < 20; omega)) rfl rfl ?_
    refine ab_gen (fun u13 e13 => ?_)
    have P13 : gP [0] u u13 := by rw [e13]; exact P0.ui rfl (by decide)
    refine ab_aload_n X 0 d_MO_holds_16 rfl rfl ?_
    refine ab_gI X fl_MO_23 d_MO_holds_17 (by first | assumption | decide | (show _ < 124; omega) | (show _ < 61; omega) | (show _ < 20; omega)) ((show _ = (0 : Int32) by rw [e13]; simpa [ab_up] using z)) ?_
    refine ab_if_ne X 25 d_MO_holds_20 rfl (fun hb => absurd (rfl) hb) (fun _ => ?_)
    refine ab_iconst (v := 0) X d_MO_holds_23 (by decide) ?_
    exact ab_retz X hr0 hlk (Or.inl rfl) d_MO_holds_24 ⟨h.oV P13 (by decide) (by decide) (by decide), _, Or.inl rfl, rfl⟩
  · have hP19 := W.2.1
    have out : ∀ (j : Nat) (u1 : ab_S), j ≤ P → gP [0] u u1 → (j < P → u1.1 19 0 j = 0 ∨ u1.1 19 0 j = 1) → ab_J p l e (ab_rm 1 0 0) s m args below meth c (MQ below (ab_Q D ca ad ab_nQ s.heap.size (fun u' v => oV u u' ∧ ∃ b : Int32, (b = 0 ∨ b = 1) ∧ v = some (ab_I b))) args s 0 0 (ab_A ad ab_nQ s.heap.size)) D ca (ab_A ad ab_nQ s.heap.size) s.heap 8 0 0 ad ab_nQ u1 33 [(5, ab_I (nI j - 1)), (0, ab_O 17 0), (1, ab_I a1), (2, ab_I a2), (3, ab_I a3), (4, ab_I a4)] [] := by
      intro j
      induction j with
      | zero =>
        intro u1 hj P1 hb
        refine ab_iload X 0 d_MO_holds_33 rfl ?_
        refine ab_if_lt X 178 d_MO_holds_35 rfl (fun _ => ?_) (fun hb => absurd ((by decide)) hb)
        refine ab_aload_n X 1 d_MO_holds_178 rfl rfl ?_
        refine ab_gR X fl_MO_141 d_MO_holds_179 (by first | assumption | decide | (show _ < 124; omega) | (show _ < 61; omega) | (show _ < 20; omega)) (P1.1.mo43) ?_
        refine ab_iconst (v := 0) X d_MO_holds_182 (by decide) ?_
        refine ab_zald X (0) ⟨rfl, rfl⟩ d_MO_holds_183 (by first | assumption | decide | (show _ < 124; omega) | (show _ < 61; omega) | (show _ < 20; omega)) (rfl) (show 0 < 24 by decide) (ab_ln_lt _ _) ?_
        exact ab_retz X hr0 hlk (hb W.1) d_MO_holds_184 ⟨h.oV P1 (by decide) (by decide) (by decide), _, hb W.1, rfl⟩
      | succ j ih =>
        intro u1 hj P1 hb
        rw [nI_m1 (by omega), show j + 1 - 1 = j by omega]
        obtain ⟨ek, ea, ec, ech⟩ := T.2 j (by omega)
        have k5 := (W.2.2 j (by omega)).2
        have inn : ∀ (k i : Nat) (y : Int32), k + i = cn j → ab_J p l e (ab_rm 1 0 0) s m args below meth c (MQ below (ab_Q D ca ad ab_nQ s.heap.size (fun u' v => oV u u' ∧ ∃ b : Int32, (b = 0 ∨ b = 1) ∧ v = some (ab_I b))) args s 0 0 (ab_A ad ab_nQ s.heap.size)) D ca (ab_A ad ab_nQ s.heap.size) s.heap 8 0 0 ad ab_nQ u1 44 [(7, ab_I (nI i)), (6, ab_I y), (5, ab_I (nI j)), (0, ab_O 17 0), (1, ab_I a1), (2, ab_I a2), (3, ab_I a3), (4, ab_I a4)] [] := by
          intro k
          induction k with
          | zero =>
            intro i y hi
            obtain rfl : i = cn j := by omega
            have c4 : cn j ≤ 4 := by by_cases z : kd j < 5; (rw [k5.1 z]; decide); exact (k5.2 (by omega)).2.1
            refine ab_iload X 0 d_MO_holds_44 rfl ?_
            refine ab_aload_n X 3 d_MO_holds_46 rfl rfl ?_
            refine ab_gR X fl_MO_39 d_MO_holds_47 (by first | assumption | decide | (show _ < 124; omega) | (show _ < 61; omega) | (show _ < 20; omega)) (P1.1.mo9) ?_
            refine ab_iload X 2 d_MO_holds_50 rfl ?_
            refine ab_iald X (j) ⟨rfl, rfl⟩ d_MO_holds_52 (by first | assumption | decide | (show _ < 124; omega) | (show _ < 61; omega) | (show _ < 20; omega)) (rfl) (show j < 40 by omega) (ab_ln_lt _ _) ?_
            refine ab_top (P1.ai (by decide) ec) ?_
            refine ab_icmp_ge X 92 d_MO_holds_53 rfl (fun _ => ?_) (fun hb => absurd ((nI_le (Nat.le_refl _) (by omega))) hb)
            refine ab_aload_n X 3 d_MO_holds_92 rfl rfl ?_
            refine ab_gR X fl_MO_141 d_MO_holds_93 (by first | assumption | decide | (show _ < 124; omega) | (show _ < 61; omega) | (show _ < 20; omega)) (P1.1.mo43) ?_
            refine ab_iload X 2 d_MO_holds_96 rfl ?_
            refine ab_aload_n X 3 d_MO_holds_98 rfl rfl ?_
            refine ab_gR X fl_MO_33 d_MO_holds_99 (by first | assumption | decide | (show _ < 124; omega) | (show _ < 61; omega) | (show _ < 20; omega)) (P1.1.mo7) ?_
            refine ab_iload X 2 d_MO_holds_102 rfl ?_
            refine ab_iald X (j) ⟨rfl, rfl⟩ d_MO_holds_104 (by first | assumption | decide | (show _ < 124; omega) | (show _ < 61; omega) | (show _ < 20; omega)) (rfl) (show j < 40 by omega) (ab_ln_lt _ _) ?_
            refine ab_iconst (v := 5) X d_MO_holds_105 (by decide) ?_
            refine ab_icmp_ge X 123 d_MO_holds_106 rfl (fun h106 => ?_) (fun h106 => ?_)
            ·
              refine ab_iload X 1 d_MO_holds_123 rfl ?_
              refine ab_aload_n X 3 d_MO_holds_125 rfl rfl ?_
              refine ab_gR X fl_MO_33 d_MO_holds_126 (by first | assumption | decide | (show _ < 124; omega) | (show _ < 61; omega) | (show _ < 20; omega)) (P1.1.mo7) ?_
              refine ab_iload X 2 d_MO_holds_129 rfl ?_
              refine ab_iald X (j) ⟨rfl, rfl⟩ d_MO_holds_131 (by first | assumption | decide | (show _ < 124; omega) | (show _ < 61; omega) | (show _ < 20; omega)) (rfl) (show j < 40 by omega) (ab_ln_lt _ _) ?_
              refine ab_iconst (v := 5) X d_MO_holds_132 (by decide) ?_
              refine ab_icmp_ne X 140 d_MO_holds_133 rfl (fun h133 => ?_) (fun h133 => ?_)
              ·
                refine ab_aload_n X 3 d_MO_holds_140 rfl rfl ?_
                refine ab_gR X fl_MO_33 d_MO_holds_141 (by first | assumption | decide | (show _ < 124; omega) | (show _ < 61; omega) | (show _ < 20; omega)) (P1.1.mo7) ?_
                refine ab_iload X 2 d_MO_holds_144 rfl ?_
                refine ab_iald X (j) ⟨rfl, rfl⟩ d_MO_holds_146 (by first | assumption | decide | (show _ < 124; omega) | (show _ < 61; omega) | (show _ < 20; omega)) (rfl) (show j < 40 by omega) (ab_ln_lt _ _) ?_
                refine ab_bipush (v := 6) X d_MO_holds_147 (by decide) ?_
                refine ab_icmp_ne X 156 d_MO_holds_149 rfl (fun h149 => ?_) (fun h149 => ?_)
                ·
                  refine ab_aload_n X 3 d_MO_holds_156 rfl rfl ?_
                  refine ab_gR X fl_MO_36 d_MO_holds_157 (by first | assumption | decide | (show _ < 124; omega) | (show _ < 61; omega) | (show _ < 20; omega)) (P1.1.mo8) ?_
                  refine ab_iload X 2 d_MO_holds_160 rfl ?_
                  refine ab_iald X (j) ⟨rfl, rfl⟩ d_MO_holds_162 (by first | assumption | decide | (show _ < 124; omega) | (show _ < 61; omega) | (show _ < 20; omega)) (rfl) (show j < 40 by omega) (ab_ln_lt _ _) ?_
                  refine ab_icmp_lt X 170 d_MO_holds_163 rfl (fun h163 => ?_) (fun h163 => ?_)
                  ·
                    refine ab_iconst (v := 0) X d_MO_holds_170 (by decide) ?_
                    refine ab_zast X (j) ⟨rfl, rfl⟩ d_MO_holds_171 (by first | assumption | decide | (show _ < 124; omega) | (show _ < 61; omega) | (show _ < 20; omega)) (rfl) (show j < 24 by omega) (ab_ln_lt _ _) (by first | exact Or.inl rfl | exact Or.inr rfl | exact hb117) ?_
                    refine ab_gen (fun u171 e171 => ?_)
                    have P171 : gP [0] u u171 := by rw [e171]; exact P1.ui rfl (by decide)
                    refine ab_iinc7 X 2 0 1 3 4 5 6 7 d_MO_holds_172 rfl (by decide) rfl rfl rfl rfl rfl rfl rfl rfl rfl rfl rfl rfl rfl rfl ?_
                    refine ab_goto X 33 d_MO_holds_175 rfl ?_
                    refine ab_lv (List.forall_mem_cons.mpr ⟨List.mem_of_getElem? (i := 0) rfl, List.forall_mem_cons.mpr ⟨List.mem_of_getElem? (i := 3) rfl, List.forall_mem_cons.mpr ⟨List.mem_of_getElem? (i := 4) rfl, List.forall_mem_cons.mpr ⟨List.mem_of_getElem? (i := 5) rfl, List.forall_mem_cons.mpr ⟨List.mem_of_getElem? (i := 6) rfl, List.forall_mem_cons.mpr ⟨List.mem_of_getElem? (i := 7) rfl, fun _ h => absurd h List.not_mem_nil⟩⟩⟩⟩⟩⟩) ?_
                    rw [show nI j + Int32.ofInt (-1) = nI j - 1 from by rw [Int32.sub_eq_add_neg]; rfl]
                    exact ih _ (by omega) P171 (fun _ => by rw [show u171.1 19 0 j = _ from (congrArg (fun z : ab_S => z.1 19 0 j) e171).trans (ui_s _)]; first | exact Or.inl rfl | exact Or.inr rfl | exact hb117)
                  ·
                    refine ab_iconst (v := 1) X d_MO_holds_166 (by decide) ?_
                    refine ab_goto X 171 d_MO_holds_167 rfl ?_
                    refine ab_zast X (j) ⟨rfl, rfl⟩ d_MO_holds_171 (by first | assumption | decide | (show _ < 124; omega) | (show _ < 61; omega) | (show _ < 20; omega)) (rfl) (show j < 24 by omega) (ab_ln_lt _ _) (by first | exact Or.inl rfl | exact Or.inr rfl | exact hb117) ?_
                    refine ab_gen (fun u171 e171 => ?_)
                    have P171 : gP [0] u u171 := by rw [e171]; exact P1.ui rfl (by decide)
                    refine ab_iinc7 X 2 0 1 3 4 5 6 7 d_MO_holds_172 rfl (by decide) rfl rfl rfl rfl rfl rfl rfl rfl rfl rfl rfl rfl rfl rfl ?_
                    refine ab_goto X 33 d_MO_holds_175 rfl ?_
                    refine ab_lv (List.forall_mem_cons.mpr ⟨List.mem_of_getElem? (i := 0) rfl, List.forall_mem_cons.mpr ⟨List.mem_of_getElem? (i := 3) rfl, List.forall_mem_cons.mpr ⟨List.mem_of_getElem? (i := 4) rfl, List.forall_mem_cons.mpr ⟨List.mem_of_getElem? (i := 5) rfl, List.forall_mem_cons.mpr ⟨List.mem_of_getElem? (i := 6) rfl, List.forall_mem_cons.mpr ⟨List.mem_of_getElem? (i := 7) rfl, fun _ h => absurd h List.not_mem_nil⟩⟩⟩⟩⟩⟩) ?_
                    rw [show nI j + Int32.ofInt (-1) = nI j - 1 from by rw [Int32.sub_eq_add_neg]; rfl]
                    exact ih _ (by omega) P171 (fun _ => by rw [show u171.1 19 0 j = _ from (congrArg (fun z : ab_S => z.1 19 0 j) e171).trans (ui_s _)]; first | exact Or.inl rfl | exact Or.inr rfl | exact hb117)
                ·
                  refine ab_iconst (v := 1) X d_MO_holds_152 (by decide) ?_
                  refine ab_goto X 163 d_MO_holds_153 rfl ?_
                  refine ab_icmp_lt X 170 d_MO_holds_163 rfl (fun h163 => ?_) (fun h163 => ?_)
                  ·
                    refine ab_iconst (v := 0) X d_MO_holds_170 (by decide) ?_
                    refine ab_zast X (j) ⟨rfl, rfl⟩ d_MO_holds_171 (by first | assumption | decide | (show _ < 124; omega) | (show _ < 61; omega) | (show _ < 20; omega)) (rfl) (show j < 24 by omega) (ab_ln_lt _ _) (by first | exact Or.inl rfl | exact Or.inr rfl | exact hb117) ?_
                    refine ab_gen (fun u171 e171 => ?_)
                    have P171 : gP [0] u u171 := by rw [e171]; exact P1.ui rfl (by decide)
                    refine ab_iinc7 X 2 0 1 3 4 5 6 7 d_MO_holds_172 rfl (by decide) rfl rfl rfl rfl rfl rfl rfl rfl rfl rfl rfl rfl rfl rfl ?_
                    refine ab_goto X 33 d_MO_holds_175 rfl ?_
                    refine ab_lv (List.forall_mem_cons.mpr ⟨List.mem_of_getElem? (i := 0) rfl, List.forall_mem_cons.mpr ⟨List.mem_of_getElem? (i := 3) rfl, List.forall_mem_cons.mpr ⟨List.mem_of_getElem? (i := 4) rfl, List.forall_mem_cons.mpr ⟨List.mem_of_getElem? (i := 5) rfl, List.forall_mem_cons.mpr ⟨List.mem_of_getElem? (i := 6) rfl, List.forall_mem_cons.mpr ⟨List.mem_of_getElem? (i := 7) rfl, fun _ h => absurd h List.not_mem_nil⟩⟩⟩⟩⟩⟩) ?_
                    rw [show nI j + Int32.ofInt (-1) = nI j - 1 from by rw [Int32.sub_eq_add_neg]; rfl]
                    exact ih _ (by omega) P171 (fun _ => by rw [show u171.1 19 0 j = _ from (congrArg (fun z : ab_S => z.1 19 0 j) e171).trans (ui_s _)]; first | exact Or.inl rfl | exact Or.inr rfl | exact hb117)
                  ·
                    refine ab_iconst (v := 1) X d_MO_holds_166 (by decide) ?_
                    refine ab_goto X 171 d_MO_holds_167 rfl ?_
                    refine ab_zast X (j) ⟨rfl, rfl⟩ d_MO_holds_171 (by first | assumption | decide | (show _ < 124; omega) | (show _ < 61; omega) | (show _ < 20; omega)) (rfl) (show j < 24 by omega) (ab_ln_lt _ _) (by first | exact Or.inl rfl | exact Or.inr rfl | exact hb117) ?_
                    refine ab_gen (fun u171 e171 => ?_)
                    have P171 : gP [0] u u171 := by rw [e171]; exact P1.ui rfl (by decide)
                    refine ab_iinc7 X 2 0 1 3 4 5 6 7 d_MO_holds_172 rfl (by decide) rfl rfl rfl rfl rfl rfl rfl rfl rfl rfl rfl rfl rfl rfl ?_
                    refine ab_goto X 33 d_MO_holds_175 rfl ?_
                    refine ab_lv (List.forall_mem_cons.mpr ⟨List.mem_of_getElem? (i := 0) rfl, List.forall_mem_cons.mpr ⟨List.mem_of_getElem? (i := 3) rfl, List.forall_mem_cons.mpr ⟨List.mem_of_getElem? (i := 4) rfl, List.forall_mem_cons.mpr ⟨List.mem_of_getElem? (i := 5) rfl, List.forall_mem_cons.mpr ⟨List.mem_of_getElem? (i := 6) rfl, List.forall_mem_cons.mpr ⟨List.mem_of_getElem? (i := 7) rfl, fun _ h => absurd h List.not_mem_nil⟩⟩⟩⟩⟩⟩) ?_
                    rw [show nI j + Int32.ofInt (-1) = nI j - 1 from by rw [Int32.sub_eq_add_neg]; rfl]
                    exact ih _ (by omega) P171 (fun _ => by rw [show u171.1 19 0 j = _ from (congrArg (fun z : ab_S => z.1 19 0 j) e171).trans (ui_s _)]; first | exact Or.inl rfl | exact Or.inr rfl | exact hb117)
              ·
                refine ab_iconst (v := 2) X d_MO_holds_136 (by decide) ?_
                refine ab_goto X 163 d_MO_holds_137 rfl ?_
                refine ab_icmp_lt X 170 d_MO_holds_163 rfl (fun h163 => ?_) (fun h163 => ?_)
                ·
                  refine ab_iconst (v := 0) X d_MO_holds_170 (by decide) ?_
                  refine ab_zast X (j) ⟨rfl, rfl⟩ d_MO_holds_171 (by first | assumption | decide | (show _ < 124; omega) | (show _ < 61; omega) | (show _ < 20; omega)) (rfl) (show j < 24 by omega) (ab_ln_lt _ _) (by first | exact Or.inl rfl | exact Or.inr rfl | exact hb117) ?_
                  refine ab_gen (fun u171 e171 => ?_)
                  have P171 : gP [0] u u171 := by rw [e171]; exact P1.ui rfl (by decide)
                  refine ab_iinc7 X 2 0 1 3 4 5 6 7 d_MO_holds_172 rfl (by decide) rfl rfl rfl rfl rfl rfl rfl rfl rfl rfl rfl rfl rfl rfl ?_
                  refine ab_goto X 33 d_MO_holds_175 rfl ?_
                  refine ab_lv (List.forall_mem_cons.mpr ⟨List.mem_of_getElem? (i := 0) rfl, List.forall_mem_cons.mpr ⟨List.mem_of_getElem? (i := 3) rfl, List.forall_mem_cons.mpr ⟨List.mem_of_getElem? (i := 4) rfl, List.forall_mem_cons.mpr ⟨List.mem_of_getElem? (i := 5) rfl, List.forall_mem_cons.mpr ⟨List.mem_of_getElem? (i := 6) rfl, List.forall_mem_cons.mpr ⟨List.mem_of_getElem? (i := 7) rfl, fun _ h => absurd h List.not_mem_nil⟩⟩⟩⟩⟩⟩) ?_
                  rw [show nI j + Int32.ofInt (-1) = nI j - 1 from by rw [Int32.sub_eq_add_neg]; rfl]
                  exact ih _ (by omega) P171 (fun _ => by rw [show u171.1 19 0 j = _ from (congrArg (fun z : ab_S => z.1 19 0 j) e171).trans (ui_s _)]; first | exact Or.inl rfl | exact Or.inr rfl | exact hb117)
                ·
                  refine ab_iconst (v := 1) X d_MO_holds_166 (by decide) ?_
                  refine ab_goto X 171 d_MO_holds_167 rfl ?_
                  refine ab_zast X (j) ⟨rfl, rfl⟩ d_MO_holds_171 (by first | assumption | decide | (show _ < 124; omega) | (show _ < 61; omega) | (show _ < 20; omega)) (rfl) (show j < 24 by omega) (ab_ln_lt _ _) (by first | exact Or.inl rfl | exact Or.inr rfl | exact hb117) ?_
                  refine ab_gen (fun u171 e171 => ?_)
                  have P171 : gP [0] u u171 := by rw [e171]; exact P1.ui rfl (by decide)
                  refine ab_iinc7 X 2 0 1 3 4 5 6 7 d_MO_holds_172 rfl (by decide) rfl rfl rfl rfl rfl rfl rfl rfl rfl rfl rfl rfl rfl rfl ?_
                  refine ab_goto X 33 d_MO_holds_175 rfl ?_
                  refine ab_lv (List.forall_mem_cons.mpr ⟨List.mem_of_getElem? (i := 0) rfl, List.forall_mem_cons.mpr ⟨List.mem_of_getElem? (i := 3) rfl, List.forall_mem_cons.mpr ⟨List.mem_of_getElem? (i := 4) rfl, List.forall_mem_cons.mpr ⟨List.mem_of_getElem? (i := 5) rfl, List.forall_mem_cons.mpr ⟨List.mem_of_getElem? (i := 6) rfl, List.forall_mem_cons.mpr ⟨List.mem_of_getElem? (i := 7) rfl, fun _ h => absurd h List.not_mem_nil⟩⟩⟩⟩⟩⟩) ?_
                  rw [show nI j + Int32.ofInt (-1) = nI j - 1 from by rw [Int32.sub_eq_add_neg]; rfl]
                  exact ih _ (by omega) P171 (fun _ => by rw [show u171.1 19 0 j = _ from (congrArg (fun z : ab_S => z.1 19 0 j) e171).trans (ui_s _)]; first | exact Or.inl rfl | exact Or.inr rfl | exact hb117)
            ·
              refine ab_aload_n X 3 d_MO_holds_109 rfl rfl ?_
              refine ab_iload X 2 d_MO_holds_110 rfl ?_
              refine ab_iload_n X 4 d_MO_holds_112 rfl rfl ?_
              refine ab_iload_n X 5 d_MO_holds_113 rfl rfl ?_
              refine ab_iload_n X 6 d_MO_holds_114 rfl rfl ?_
              refine ab_iload X 7 d_MO_holds_115 rfl ?_
              refine ab_callV (as := [ab_I (nI j), ab_I a1, ab_I a2, ab_I a3, ab_I a4]) X (fun h => by cases h) (t_MO_leafHolds u1 j a1 a2 a3 a4 P1.1 (by omega)) lk_MO_319 d_MO_holds_117 rfl rfl (by first | assumption | decide | (show _ < 124; omega) | (show _ < 61; omega) | (show _ < 20; omega)) ⟨by first | exact Nat.le_of_ble_eq_true rfl | (simp only [ab_rm]; omega), by first | exact Nat.le_of_ble_eq_true rfl | (simp only [ab_rm]; omega)⟩ ⟨by first | exact Nat.le_of_ble_eq_true rfl | (simp only [ab_rm]; omega), by first | exact Nat.le_of_ble_eq_true rfl | (simp only [ab_rm]; omega)⟩ (Nat.le_of_ble_eq_true rfl) (fun u117 r117 h117 => ?_)
              obtain ⟨e117, b117, hb117, rfl⟩ := h117
              subst u117
              refine ab_goto X 171 d_MO_holds_120 rfl ?_
              refine ab_zast X (j) ⟨rfl, rfl⟩ d_MO_holds_171 (by first | assumption | decide | (show _ < 124; omega) | (show _ < 61; omega) | (show _ < 20; omega)) (rfl) (show j < 24 by omega) (ab_ln_lt _ _) (by first | exact Or.inl rfl | exact Or.inr rfl | exact hb117) ?_
              refine ab_gen (fun u171 e171 => ?_)
              have P171 : gP [0] u u171 := by rw [e171]; exact P1.ui rfl (by decide)
              refine ab_iinc7 X 2 0 1 3 4 5 6 7 d_MO_holds_172 rfl (by decide) rfl rfl rfl rfl rfl rfl rfl rfl rfl rfl rfl rfl rfl rfl ?_
              refine ab_goto X 33 d_MO_holds_175 rfl ?_
              refine ab_lv (List.forall_mem_cons.mpr ⟨List.mem_of_getElem? (i := 0) rfl, List.forall_mem_cons.mpr ⟨List.mem_of_getElem? (i := 3) rfl, List.forall_mem_cons.mpr ⟨List.mem_of_getElem? (i := 4) rfl, List.forall_mem_cons.mpr ⟨List.mem_of_getElem? (i := 5) rfl, List.forall_mem_cons.mpr ⟨List.mem_of_getElem? (i := 6) rfl, List.forall_mem_cons.mpr ⟨List.mem_of_getElem? (i := 7) rfl, fun _ h => absurd h List.not_mem_nil⟩⟩⟩⟩⟩⟩) ?_
              rw [show nI j + Int32.ofInt (-1) = nI j - 1 from by rw [Int32.sub_eq_add_neg]; rfl]
              exact ih _ (by omega) P171 (fun _ => by rw [show u171.1 19 0 j = _ from (congrArg (fun z : ab_S => z.1 19 0 j) e171).trans (ui_s _)]; first | exact Or.inl rfl | exact Or.inr rfl | exact hb117)
          | succ k ih2 =>
            intro i y hi
            have k5' : 5 ≤ kd j := Nat.le_of_not_lt (fun q => by have := k5.1 q; omega)
            obtain ⟨n2, n4, -, -, b5, -⟩ := k5.2 k5'
            obtain ⟨c1, c2⟩ := b5 i (by omega)
            refine ab_iload X 0 d_MO_holds_44 rfl ?_
            refine ab_aload_n X 3 d_MO_holds_46 rfl rfl ?_
            refine ab_gR X fl_MO_39 d_MO_holds_47 (by first | assumption | decide | (show _ < 124; omega) | (show _ < 61; omega) | (show _ < 20; omega)) (P1.1.mo9) ?_
            refine ab_iload X 2 d_MO_holds_50 rfl ?_
            refine ab_iald X (j) ⟨rfl, rfl⟩ d_MO_holds_52 (by first | assumption | decide | (show _ < 124; omega) | (show _ < 61; omega) | (show _ < 20; omega)) (rfl) (show j < 40 by omega) (ab_ln_lt _ _) ?_
            refine ab_top (P1.ai (by decide) ec) ?_
            refine ab_icmp_ge X 92 d_MO_holds_53 rfl (fun hb => absurd hb ((nI_ge (by omega) (by omega)))) (fun _ => ?_)
            refine ab_iload X 1 d_MO_holds_56 rfl ?_
            refine ab_aload_n X 3 d_MO_holds_58 rfl rfl ?_
            refine ab_gR X fl_MO_141 d_MO_holds_59 (by first | assumption | decide | (show _ < 124; omega) | (show _ < 61; omega) | (show _ < 20; omega)) (P1.1.mo43) ?_
            refine ab_aload_n X 3 d_MO_holds_62 rfl rfl ?_
            refine ab_gR X fl_MO_42 d_MO_holds_63 (by first | assumption | decide | (show _ < 124; omega) | (show _ < 61; omega) | (show _ < 20; omega)) (P1.1.mo10) ?_
            refine ab_iconst (v := 4) X d_MO_holds_66 (by decide) ?_
            refine ab_iload X 2 d_MO_holds_67 rfl ?_
            refine ab_imul X d_MO_holds_69 ?_
            refine ab_iload X 0 d_MO_holds_70 rfl ?_
            refine ab_iadd X d_MO_holds_72 ?_
            refine ab_iald X (4 * j + i) ⟨rfl, rfl⟩ d_MO_holds_73 (by first | assumption | decide | (show _ < 124; omega) | (show _ < 61; omega) | (show _ < 20; omega)) (nI_4a j i) (show 4 * j + i < 160 by omega) (ab_ln_lt _ _) ?_
            refine ab_top (P1.ai (by decide) (ech i (by omega))) ?_
            refine ab_zald X (ch j i) ⟨rfl, rfl⟩ d_MO_holds_74 (by first | assumption | decide | (show _ < 124; omega) | (show _ < 61; omega) | (show _ < 20; omega)) (rfl) (show ch j i < 24 by omega) (ab_ln_lt _ _) ?_
            refine ab_if_eq X 82 d_MO_holds_75 rfl (fun h75 => ?_) (fun h75 => ?_)
            ·
              refine ab_iconst (v := 0) X d_MO_holds_82 (by decide) ?_
              refine ab_iadd X d_MO_holds_83 ?_
              refine ab_istore7 X 0 2 3 4 5 6 7 d_MO_holds_84 (by decide) rfl rfl rfl rfl rfl rfl rfl rfl rfl rfl rfl rfl rfl rfl ?_
              refine ab_iinc7 X 1 0 2 3 4 5 6 7 d_MO_holds_86 rfl (by decide) rfl rfl rfl rfl rfl rfl rfl rfl rfl rfl rfl rfl rfl rfl ?_
              refine ab_goto X 44 d_MO_holds_89 rfl ?_
              rw [show nI i + Int32.ofInt 1 = nI (i + 1) from nI_1 i]
              exact ih2 (i + 1) _ (by omega)
            ·
              refine ab_iconst (v := 1) X d_MO_holds_78 (by decide) ?_
              refine ab_goto X 83 d_MO_holds_79 rfl ?_
              refine ab_iadd X d_MO_holds_83 ?_
              refine ab_istore7 X 0 2 3 4 5 6 7 d_MO_holds_84 (by decide) rfl rfl rfl rfl rfl rfl rfl rfl rfl rfl rfl rfl rfl rfl ?_
              refine ab_iinc7 X 1 0 2 3 4 5 6 7 d_MO_holds_86 rfl (by decide) rfl rfl rfl rfl rfl rfl rfl rfl rfl rfl rfl rfl rfl rfl ?_
              refine ab_goto X 44 d_MO_holds_89 rfl ?_
              rw [show nI i + Int32.ofInt 1 = nI (i + 1) from nI_1 i]
              exact ih2 (i + 1) _ (by omega)
        refine ab_iload X 0 d_MO_holds_33 rfl ?_
        refine ab_if_lt X 178 d_MO_holds_35 rfl (fun hb => absurd hb ((nI_pos (by omega)))) (fun _ => ?_)
        refine ab_iconst (v := 0) X d_MO_holds_38 (by decide) ?_
        refine ab_istore6 X 0 1 2 3 4 5 d_MO_holds_39 (by decide) rfl rfl rfl rfl rfl rfl rfl rfl rfl rfl rfl rfl ?_
        refine ab_iconst (v := 0) X d_MO_holds_41 (by decide) ?_
        refine ab_istore7 X 0 1 2 3 4 5 6 d_MO_holds_42 (by decide) rfl rfl rfl rfl rfl rfl rfl rfl rfl rfl rfl rfl rfl rfl ?_
        exact inn (cn j) 0 _ (by omega)
    refine ab_aload_n X 0 d_MO_holds_0 rfl rfl ?_
    refine ab_aload_n X 0 d_MO_holds_1 rfl rfl ?_
    refine ab_gI X fl_MO_23 d_MO_holds_2 (by first | assumption | decide | (show _ < 124; omega) | (show _ < 61; omega) | (show _ < 20; omega)) (z) ?_
    refine ab_if_eq X 12 d_MO_holds_5 rfl (fun hb => absurd hb ((by decide))) (fun _ => ?_)
    refine ab_iconst (v := 0) X d_MO_holds_8 (by decide) ?_
    refine ab_goto X 13 d_MO_holds_9 rfl ?_
    refine ab_putI X fp_MO_7 d_MO_holds_13 (by first | assumption | decide | (show _ < 124; omega) | (show _ < 61; omega) | (show _ < 20; omega)) rfl rfl ?_
    refine ab_gen (fun u13 e13 => ?_)
    have P13 : gP [0] u u13 := by rw [e13]; exact P0.ui rfl (by decide)
    refine ab_aload_n X 0 d_MO_holds_16 rfl rfl ?_
    refine ab_gI X fl_MO_23 d_MO_holds_17 (by first | assumption | decide | (show _ < 124; omega) | (show _ < 61; omega) | (show _ < 20; omega)) ((show _ = (1 : Int32) by rw [e13]; simpa [ab_up] using z)) ?_
    refine ab_if_ne X 25 d_MO_holds_20 rfl (fun _ => ?_) (fun hb => absurd hb ((by decide)))
    refine ab_aload_n X 0 d_MO_holds_25 rfl rfl ?_
    refine ab_gI X fl_MO_27 d_MO_holds_26 (by first | assumption | decide | (show _ < 124; omega) | (show _ < 61; omega) | (show _ < 20; omega)) (P13.fi (by decide) T.1) ?_
    refine ab_iconst (v := 1) X d_MO_holds_29 (by decide) ?_
    refine ab_isub X d_MO_holds_30 ?_
    refine ab_istore5 X 0 1 2 3 4 d_MO_holds_31 (by decide) rfl rfl rfl rfl rfl rfl rfl rfl rfl rfl ?_
    exact out P _ (Nat.le_refl _) P13 (fun z => absurd z (by omega))
end SaMRest

