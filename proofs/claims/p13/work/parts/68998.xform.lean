/-! Forms: what a way weighs. -/
def bc1 (x : Int32) : Int32 := x - ((x.toUInt32 >>> ((1 : Int32).toUInt32 &&& Int32.toUInt32 31)).toInt32 &&& 1431655765)
def bc2 (x : Int32) : Int32 := (x &&& 858993459) + ((x.toUInt32 >>> ((2 : Int32).toUInt32 &&& Int32.toUInt32 31)).toInt32 &&& 858993459)
def bc3 (x : Int32) : Int32 := (x + (x.toUInt32 >>> ((4 : Int32).toUInt32 &&& Int32.toUInt32 31)).toInt32) &&& 252645135
def bc4 (x : Int32) : Int32 := x + (x.toUInt32 >>> ((8 : Int32).toUInt32 &&& Int32.toUInt32 31)).toInt32
def bc5 (x : Int32) : Int32 := x + (x.toUInt32 >>> ((16 : Int32).toUInt32 &&& Int32.toUInt32 31)).toInt32
theorem bc_ok : ∀ c, c < 16 → bc5 (bc4 (bc3 (bc2 (bc1 (nI c))))) &&& 63 = nI (pcn c) := by decide +kernel
theorem pcn_le : ∀ c, pcn c ≤ 4 := by
  intro c
  unfold pcn
  omega
/-- the sum of a choice, as it is summed -/
def sI (u : ab_S) (g : Nat → Nat) (c : Nat) : Nat → Int32
  | 0 => 0
  | i + 1 => sI u g c i + (if c / 2 ^ i % 2 = 1 then u.1 3 (g i) 9 else u.1 4 (2 * g i + 1) 2)
theorem sI_sel {u : ab_S} {g a b : Nat → Nat} {c : Nat} : ∀ n, (∀ i, i < n → u.1 3 (g i) 9 = nI (a i) ∧ u.1 4 (2 * g i + 1) 2 = nI (b i)) → sI u g c n = nI (sel a b n c) := by
  intro n
  induction n with
  | zero => intro _; rfl
  | succ n ih =>
    intro h
    obtain ⟨e1, e2⟩ := h n (by omega)
    show sI u g c n + (if c / 2 ^ n % 2 = 1 then u.1 3 (g n) 9 else u.1 4 (2 * g n + 1) 2) = nI (sel a b n c + (if c / 2 ^ n % 2 = 1 then a n else b n))
    rw [ih (fun i hi => h i (by omega)), ← nI_add]
    by_cases z : c / 2 ^ n % 2 = 1
    · rw [if_pos z, if_pos z, e1]
    · rw [if_neg z, if_neg z, e2]
theorem sI_all {u : ab_S} {g a : Nat → Nat} {c : Nat} : ∀ n, (∀ i, i < n → c / 2 ^ i % 2 = 1) → (∀ i, i < n → u.1 3 (g i) 9 = nI (a i)) → sI u g c n = nI (sm a n) := by
  intro n
  induction n with
  | zero => intro _ _; rfl
  | succ n ih =>
    intro hb h
    show sI u g c n + (if c / 2 ^ n % 2 = 1 then u.1 3 (g n) 9 else u.1 4 (2 * g n + 1) 2) = nI (sm a n + a n)
    rw [ih (fun i hi => hb i (by omega)) (fun i hi => h i (by omega)), ← nI_add, if_pos (hb n (by omega)), h n (by omega)]
theorem th_all0 : ∀ n, n < 5 → ∀ c, c < 16 → ∀ i, i < 4 → (c < 2 ^ n ∧ pcn c = n ∧ i < n) → c / 2 ^ i % 2 = 1 := by decide +kernel
theorem th_all (n : Nat) (hn : n < 5) (c : Nat) (hc : c < 16) (h1 : c < 2 ^ n) (h2 : pcn c = n) (i : Nat) (hi : i < 4) (h3 : i < n) : c / 2 ^ i % 2 = 1 := th_all0 n hn c hc i hi ⟨h1, h2, h3⟩
theorem mx_nI {a b : Nat} (ha : a < 2 ^ 31) (hb : b < 2 ^ 31) : (if nI a < nI b then nI b else nI a) = nI (max a b) := by
  by_cases z : a < b
  · rw [if_pos (nI_lt z hb), Nat.max_eq_right (by omega)]
  · rw [if_neg (nI_nlt (by omega) ha), Nat.max_eq_left (by omega)]
section SaXForm
variable {l : Launch} {D : va_G} {ca : Nat → ClassId}
set_option maxRecDepth 100000 in
set_option maxHeartbeats 1000000 in
theorem t_JI_bc (u : ab_S) (c1 : Nat) (hc : c1 < 16) : ab_C false l D ca y_JI_bitCount b_JI_bitCount 1 (some FieldType.int) 0 ab_nQ u [ab_I (nI c1)] (fun u' v => u' = u ∧ v = some (ab_I (nI (pcn c1)))) := by
  refine ab_C.of (by decide) (Nat.le_of_ble_eq_true rfl) ?_
  intro p e s m args below meth c ad X hZ hr0 hlk
  refine ab_iload_n X 0 d_JI_bitCount_0 rfl rfl ?_
  refine ab_iload_n X 0 d_JI_bitCount_1 rfl rfl ?_
  refine ab_iconst (v := 1) X d_JI_bitCount_2 (by decide) ?_
  refine ab_iushr X d_JI_bitCount_3 ?_
  refine ab_ldcw X (v := 1431655765) (ab_in 639 (by decide +kernel) (by decide +kernel)) d_JI_bitCount_4 ?_
  refine ab_iand X d_JI_bitCount_7 ?_
  refine ab_isub X d_JI_bitCount_8 ?_
  refine ab_top (show _ = bc1 (nI c1) from rfl) ?_
  refine ab_istore_n0 X  d_JI_bitCount_9 rfl (by decide)  ?_
  refine ab_iload_n X 0 d_JI_bitCount_10 rfl rfl ?_
  refine ab_ldcw X (v := 858993459) (ab_in 640 (by decide +kernel) (by decide +kernel)) d_JI_bitCount_11 ?_
  refine ab_iand X d_JI_bitCount_14 ?_
  refine ab_iload_n X 0 d_JI_bitCount_15 rfl rfl ?_
  refine ab_iconst (v := 2) X d_JI_bitCount_16 (by decide) ?_
  refine ab_iushr X d_JI_bitCount_17 ?_
  refine ab_ldcw X (v := 858993459) (ab_in 640 (by decide +kernel) (by decide +kernel)) d_JI_bitCount_18 ?_
  refine ab_iand X d_JI_bitCount_21 ?_
  refine ab_iadd X d_JI_bitCount_22 ?_
  refine ab_top (show _ = bc2 (bc1 (nI c1)) from rfl) ?_
  refine ab_istore_n0 X  d_JI_bitCount_23 rfl (by decide)  ?_
  refine ab_iload_n X 0 d_JI_bitCount_24 rfl rfl ?_
  refine ab_iload_n X 0 d_JI_bitCount_25 rfl rfl ?_
  refine ab_iconst (v := 4) X d_JI_bitCount_26 (by decide) ?_
  refine ab_iushr X d_JI_bitCount_27 ?_
  refine ab_iadd X d_JI_bitCount_28 ?_
  refine ab_ldcw X (v := 252645135) (ab_in 641 (by decide +kernel) (by decide +kernel)) d_JI_bitCount_29 ?_
  refine ab_iand X d_JI_bitCount_32 ?_
  refine ab_top (show _ = bc3 (bc2 (bc1 (nI c1))) from rfl) ?_
  refine ab_istore_n0 X  d_JI_bitCount_33 rfl (by decide)  ?_
  refine ab_iload_n X 0 d_JI_bitCount_34 rfl rfl ?_
  refine ab_iload_n X 0 d_JI_bitCount_35 rfl rfl ?_
  refine ab_bipush (v := 8) X d_JI_bitCount_36 (by decide) ?_
  refine ab_iushr X d_JI_bitCount_38 ?_
  refine ab_iadd X d_JI_bitCount_39 ?_
  refine ab_top (show _ = bc4 (bc3 (bc2 (bc1 (nI c1)))) from rfl) ?_
  refine ab_istore_n0 X  d_JI_bitCount_40 rfl (by decide)  ?_
  refine ab_iload_n X 0 d_JI_bitCount_41 rfl rfl ?_
  refine ab_iload_n X 0 d_JI_bitCount_42 rfl rfl ?_
  refine ab_bipush (v := 16) X d_JI_bitCount_43 (by decide) ?_
  refine ab_iushr X d_JI_bitCount_45 ?_
  refine ab_iadd X d_JI_bitCount_46 ?_
  refine ab_top (show _ = bc5 (bc4 (bc3 (bc2 (bc1 (nI c1))))) from rfl) ?_
  refine ab_istore_n0 X  d_JI_bitCount_47 rfl (by decide)  ?_
  refine ab_iload_n X 0 d_JI_bitCount_48 rfl rfl ?_
  refine ab_bipush (v := 63) X d_JI_bitCount_49 (by decide) ?_
  refine ab_iand X d_JI_bitCount_51 ?_
  refine ab_top (bc_ok c1 hc) ?_
  exact ab_reti X hr0 hlk d_JI_bitCount_52 ⟨rfl, rfl⟩
set_option maxRecDepth 100000 in
set_option maxHeartbeats 1000000 in
theorem t_FM_lw (u : ab_S) (f k a : Nat) (e5 : u.1 3 f 5 = nI (1000 * k + a)) (ha : a < 1000) (hk : k < 8) (h : CI u) (hf : f < 61) : ab_C false l D ca y_FM_leafWeight b_FM_leafWeight 2 (some FieldType.int) 1 ab_nQ u [ab_O 3 f] (fun u' v => u' = u ∧ v = some (ab_I (nI (if k = 1 then 9 else if k = 2 then 5 else 0)))) := by
  refine ab_C.of (by decide) (Nat.le_of_ble_eq_true rfl) ?_
  intro p e s m args below meth c ad X hZ hr0 hlk
  have P0 : cP [4, 8] u u := cQ.rf h
  have ed : nI (1000 * k + a) / 1000 = nI k := (pk_div (d := 1000) (by omega) (by decide) (by decide)).trans (by rw [show (1000 * k + a) / 1000 = k by omega])
  refine ab_aload_n X 0 d_FM_leafWeight_0 rfl rfl ?_
  refine ab_gI X fl_FM_28 d_FM_leafWeight_1 (by first | assumption | decide | (show _ < 124; omega) | (show _ < 61; omega) | (show _ < 20; omega)) (e5) ?_
  refine ab_sipush (v := 1000) X d_FM_leafWeight_4 (by decide) ?_
  refine ab_idiv X d_FM_leafWeight_7 (by decide) ?_
  refine ab_top ed ?_
  refine ab_istore_n1 X 0 d_FM_leafWeight_8 rfl (by decide) rfl rfl ?_
  refine ab_iload_n X 0 d_FM_leafWeight_9 rfl rfl ?_
  refine ab_iconst (v := 1) X d_FM_leafWeight_10 (by decide) ?_
  refine ab_icmp_ne X 20 d_FM_leafWeight_11 rfl (fun h11 => ?_) (fun h11 => ?_)
  ·
    have k1 : ¬ k = 1 := fun z => h11 (by rw [z]; rfl)
    refine ab_iload_n X 0 d_FM_leafWeight_20 rfl rfl ?_
    refine ab_iconst (v := 2) X d_FM_leafWeight_21 (by decide) ?_
    refine ab_icmp_ne X 33 d_FM_leafWeight_22 rfl (fun h22 => ?_) (fun h22 => ?_)
    ·
      have k2 : ¬ k = 2 := fun z => h22 (by rw [z]; rfl)
      refine ab_iconst (v := 0) X d_FM_leafWeight_33 (by decide) ?_
      exact ab_reti X hr0 hlk d_FM_leafWeight_34 ⟨rfl, by first | (rw [if_pos k1]; rfl) | (rw [if_neg k1, if_pos k2]; rfl) | (rw [if_neg k1, if_neg k2]; rfl)⟩
    ·
      have k2 : k = 2 := (nI_eq (b := 2) (by omega) (by decide)).mp h22
      refine ab_bipush (v := 20) X d_FM_leafWeight_25 (by decide) ?_
      refine ab_callS (as := [ab_I 20]) X (fun h => by cases h) (c_RW_weightOf (N := ab_nQ) u 20) ls_FM_78 d_FM_leafWeight_27 rfl rfl ⟨by first | exact Nat.le_of_ble_eq_true rfl | (simp only [ab_rm]; omega), by first | exact Nat.le_of_ble_eq_true rfl | (simp only [ab_rm]; omega)⟩ ⟨by first | exact Nat.le_of_ble_eq_true rfl | (simp only [ab_rm]; omega), by first | exact Nat.le_of_ble_eq_true rfl | (simp only [ab_rm]; omega)⟩ (Nat.le_of_ble_eq_true rfl) (fun u27 r27 h27 => ?_)
      obtain ⟨e27, rfl⟩ := h27
      subst u27
      refine ab_goto X 34 d_FM_leafWeight_30 rfl ?_
      exact ab_reti X hr0 hlk d_FM_leafWeight_34 ⟨rfl, by first | (rw [if_pos k1]; rfl) | (rw [if_neg k1, if_pos k2]; rfl) | (rw [if_neg k1, if_neg k2]; rfl)⟩
  ·
    have k1 : k = 1 := (nI_eq (b := 1) (by omega) (by decide)).mp h11
    refine ab_bipush (v := 10) X d_FM_leafWeight_14 (by decide) ?_
    refine ab_callS (as := [ab_I 10]) X (fun h => by cases h) (c_RW_weightOf (N := ab_nQ) u 10) ls_FM_78 d_FM_leafWeight_16 rfl rfl ⟨by first | exact Nat.le_of_ble_eq_true rfl | (simp only [ab_rm]; omega), by first | exact Nat.le_of_ble_eq_true rfl | (simp only [ab_rm]; omega)⟩ ⟨by first | exact Nat.le_of_ble_eq_true rfl | (simp only [ab_rm]; omega), by first | exact Nat.le_of_ble_eq_true rfl | (simp only [ab_rm]; omega)⟩ (Nat.le_of_ble_eq_true rfl) (fun u16 r16 h16 => ?_)
    obtain ⟨e16, rfl⟩ := h16
    subst u16
    exact ab_reti X hr0 hlk d_FM_leafWeight_19 ⟨rfl, by first | (rw [if_pos k1]; rfl) | (rw [if_neg k1, if_pos k2]; rfl) | (rw [if_neg k1, if_neg k2]; rfl)⟩
set_option maxRecDepth 100000 in
set_option maxHeartbeats 1000000 in
theorem t_FM_goc (u : ab_S) (f r nc nd : Nat) (mk : Int32) (g sf : Nat → Nat) (F : FD u f r mk (nI nd) nc g) (hc4 : nc ≤ 4) (hg : ∀ i, i < nc → g i < 61) (hnd : nd < 1000) (hs : ∀ c1, c1 < 2 ^ nc → pcn c1 = nd → sI u g c1 nc = nI (sf c1) ∧ sf c1 < 2 ^ 31) (h : CI u) (hf : f < 61) : ab_C false l D ca y_FM_greatestOfChoices b_FM_greatestOfChoices 6 (some FieldType.int) 1 ab_nQ u [ab_O 3 f] (fun u' v => u' = u ∧ v = some (ab_I (nI (gm nd sf (2 ^ nc))))) := by
  refine ab_C.of (by decide) (Nat.le_of_ble_eq_true rfl) ?_
  intro p e s m args below meth c ad X hZ hr0 hlk
  have P0 : cP [4, 8] u u := cQ.rf h
  obtain ⟨F1, F2, F3, en, F5⟩ := F
  have tw := ci_tw hc4
  have gl : ∀ c1, c1 ≤ 2 ^ nc → gm nd sf c1 < 2 ^ 31 := fun c1 hc => Nat.lt_of_le_of_lt (gm_le (B := 2 ^ 31 - 1) c1 (fun c2 h2 hp => by have := (hs c2 (by omega) hp).2; omega)) (by decide)
  have outer : ∀ (k c1 : Nat), k + c1 = 2 ^ nc → ab_J p l e (ab_rm 1 0 0) s m args below meth c (MQ below (ab_Q D ca ad ab_nQ s.heap.size (fun u' v => u' = u ∧ v = some (ab_I (nI (gm nd sf (2 ^ nc)))))) args s 0 0 (ab_A ad ab_nQ s.heap.size)) D ca (ab_A ad ab_nQ s.heap.size) s.heap 6 0 0 ad ab_nQ u 4 [(2, ab_I (nI c1)), (1, ab_I (nI (gm nd sf c1))), (0, ab_O 3 f)] [] := by
    intro k
    induction k with
    | zero =>
      intro c1 hc
      obtain rfl : c1 = 2 ^ nc := by omega
      refine ab_iload_n X 0 d_FM_greatestOfChoices_4 rfl rfl ?_
      refine ab_iconst (v := 1) X d_FM_greatestOfChoices_5 (by decide) ?_
      refine ab_aload_n X 2 d_FM_greatestOfChoices_6 rfl rfl ?_
      refine ab_gI X fl_FM_34 d_FM_greatestOfChoices_7 (by first | assumption | decide | (show _ < 124; omega) | (show _ < 61; omega) | (show _ < 20; omega)) (en) ?_
      refine ab_ishl X d_FM_greatestOfChoices_10 ?_
      refine ab_top tw.1 ?_
      refine ab_icmp_ge X 109 d_FM_greatestOfChoices_11 rfl (fun _ => ?_) (fun hb => absurd ((nI_le (by omega) (by omega))) hb)
      refine ab_iload_n X 1 d_FM_greatestOfChoices_109 rfl rfl ?_
      exact ab_reti X hr0 hlk d_FM_greatestOfChoices_110 ⟨rfl, rfl⟩
    | succ k ih =>
      intro c1 hc
      have hc2 : c1 < 2 ^ nc := by omega
      have hc16 : c1 < 16 := by omega
      have nx := ih (c1 + 1) (by omega)
      have es : gm nd sf (c1 + 1) = if pcn c1 = nd ∧ gm nd sf c1 < sf c1 then sf c1 else gm nd sf c1 := rfl
      have g1 := gl c1 (by omega)
      have p4 := pcn_le c1
      have inner : ∀ (k j : Nat), k + j = nc → ab_J p l e (ab_rm 1 0 0) s m args below meth c (MQ below (ab_Q D ca ad ab_nQ s.heap.size (fun u' v => u' = u ∧ v = some (ab_I (nI (gm nd sf (2 ^ nc)))))) args s 0 0 (ab_A ad ab_nQ s.heap.size)) D ca (ab_A ad ab_nQ s.heap.size) s.heap 6 0 0 ad ab_nQ u 19 [(4, ab_I (nI j)), (3, ab_I (sI u g c1 j)), (2, ab_I (nI c1)), (1, ab_I (nI (gm nd sf c1))), (0, ab_O 3 f)] [] := by
        intro k
        induction k with
        | zero =>
          intro j hj
          obtain rfl : j = nc := by omega
          refine ab_iload X 0 d_FM_greatestOfChoices_19 rfl ?_
          refine ab_aload_n X 4 d_FM_greatestOfChoices_21 rfl rfl ?_
          refine ab_gI X fl_FM_34 d_FM_greatestOfChoices_22 (by first | assumption | decide | (show _ < 124; omega) | (show _ < 61; omega) | (show _ < 20; omega)) (en) ?_
          refine ab_icmp_ge X 85 d_FM_greatestOfChoices_25 rfl (fun _ => ?_) (fun hb => absurd ((nI_le (by omega) (by omega))) hb)
          refine ab_iload_n X 2 d_FM_greatestOfChoices_85 rfl rfl ?_
          refine ab_callS (as := [ab_I (nI c1)]) X (fun h => by cases h) (t_JI_bc u c1 hc16) ls_FM_82 d_FM_greatestOfChoices_86 rfl rfl ⟨by first | exact Nat.le_of_ble_eq_true rfl | (simp only [ab_rm]; omega), by first | exact Nat.le_of_ble_eq_true rfl | (simp only [ab_rm]; omega)⟩ ⟨by first | exact Nat.le_of_ble_eq_true rfl | (simp only [ab_rm]; omega), by first | exact Nat.le_of_ble_eq_true rfl | (simp only [ab_rm]; omega)⟩ (Nat.le_of_ble_eq_true rfl) (fun u86 r86 h86 => ?_)
          obtain ⟨e86, rfl⟩ := h86
          subst u86
          refine ab_aload_n X 4 d_FM_greatestOfChoices_89 rfl rfl ?_
          refine ab_gI X fl_FM_31 d_FM_greatestOfChoices_90 (by first | assumption | decide | (show _ < 124; omega) | (show _ < 61; omega) | (show _ < 20; omega)) (F3) ?_
          refine ab_icmp_ne X 103 d_FM_greatestOfChoices_93 rfl (fun h93 => ?_) (fun h93 => ?_)
          ·
            have eq1 : gm nd sf (c1 + 1) = gm nd sf c1 := by rw [es, if_neg (fun z => h93 (by rw [z.1]))]
            refine ab_iinc4 X 2 0 1 3 4 d_FM_greatestOfChoices_103 rfl (by decide) rfl rfl rfl rfl rfl rfl rfl rfl ?_
            refine ab_goto X 4 d_FM_greatestOfChoices_106 rfl ?_
            refine ab_lv (List.forall_mem_cons.mpr ⟨List.mem_of_getElem? (i := 0) rfl, List.forall_mem_cons.mpr ⟨List.mem_of_getElem? (i := 3) rfl, List.forall_mem_cons.mpr ⟨List.mem_of_getElem? (i := 4) rfl, fun _ h => absurd h List.not_mem_nil⟩⟩⟩) ?_
            rw [show nI c1 + Int32.ofInt 1 = nI (c1 + 1) from nI_1 c1]
            rw [eq1] at nx
            exact nx
          ·
            have pe : pcn c1 = nd := (nI_eq (by omega) (by omega)).mp h93
            obtain ⟨s1, s2⟩ := hs c1 hc2 pe
            rw [s1]
            refine ab_iload_n X 1 d_FM_greatestOfChoices_96 rfl rfl ?_
            refine ab_iload_n X 3 d_FM_greatestOfChoices_97 rfl rfl ?_
            refine ab_icmp_le X 103 d_FM_greatestOfChoices_98 rfl (fun h98 => ?_) (fun h98 => ?_)
            ·
              have eq1 : gm nd sf (c1 + 1) = gm nd sf c1 := by rw [es, if_neg (fun z => absurd h98 (nI_ge z.2 s2))]
              refine ab_iinc4 X 2 0 1 3 4 d_FM_greatestOfChoices_103 rfl (by decide) rfl rfl rfl rfl rfl rfl rfl rfl ?_
              refine ab_goto X 4 d_FM_greatestOfChoices_106 rfl ?_
              refine ab_lv (List.forall_mem_cons.mpr ⟨List.mem_of_getElem? (i := 0) rfl, List.forall_mem_cons.mpr ⟨List.mem_of_getElem? (i := 3) rfl, List.forall_mem_cons.mpr ⟨List.mem_of_getElem? (i := 4) rfl, fun _ h => absurd h List.not_mem_nil⟩⟩⟩) ?_
              rw [show nI c1 + Int32.ofInt 1 = nI (c1 + 1) from nI_1 c1]
              rw [eq1] at nx
              exact nx
            ·
              have eq1 : gm nd sf (c1 + 1) = sf c1 := by rw [es, if_pos ⟨pe, nI_lt_of h98 g1⟩]
              refine ab_iload_n X 1 d_FM_greatestOfChoices_101 rfl rfl ?_
              refine ab_istore_n4 X 0 1 2 4 d_FM_greatestOfChoices_102 rfl (by decide) rfl rfl rfl rfl rfl rfl rfl rfl ?_
              refine ab_iinc4 X 3 0 1 2 4 d_FM_greatestOfChoices_103 rfl (by decide) rfl rfl rfl rfl rfl rfl rfl rfl ?_
              refine ab_goto X 4 d_FM_greatestOfChoices_106 rfl ?_
              refine ab_lv (List.forall_mem_cons.mpr ⟨List.mem_of_getElem? (i := 0) rfl, List.forall_mem_cons.mpr ⟨List.mem_of_getElem? (i := 1) rfl, List.forall_mem_cons.mpr ⟨List.mem_of_getElem? (i := 4) rfl, fun _ h => absurd h List.not_mem_nil⟩⟩⟩) ?_
              rw [show nI c1 + Int32.ofInt 1 = nI (c1 + 1) from nI_1 c1]
              rw [eq1] at nx
              exact nx
        | succ k ih2 =>
          intro j hj
          have gj := hg j (by omega)
          have nx2 := ih2 (j + 1) (by omega)
          have st : sI u g c1 (j + 1) = sI u g c1 j + (if c1 / 2 ^ j % 2 = 1 then u.1 3 (g j) 9 else u.1 4 (2 * g j + 1) 2) := rfl
          refine ab_iload X 0 d_FM_greatestOfChoices_19 rfl ?_
          refine ab_aload_n X 4 d_FM_greatestOfChoices_21 rfl rfl ?_
          refine ab_gI X fl_FM_34 d_FM_greatestOfChoices_22 (by first | assumption | decide | (show _ < 124; omega) | (show _ < 61; omega) | (show _ < 20; omega)) (en) ?_
          refine ab_icmp_ge X 85 d_FM_greatestOfChoices_25 rfl (fun hb => absurd hb ((nI_ge (by omega) (by omega)))) (fun _ => ?_)
          refine ab_iload_n X 2 d_FM_greatestOfChoices_28 rfl rfl ?_
          refine ab_iload X 0 d_FM_greatestOfChoices_29 rfl ?_
          refine ab_ishr X d_FM_greatestOfChoices_31 ?_
          refine ab_iconst (v := 1) X d_FM_greatestOfChoices_32 (by decide) ?_
          refine ab_iand X d_FM_greatestOfChoices_33 ?_
          refine ab_top (th_bit c1 hc16 j (by omega)) ?_
          refine ab_iconst (v := 1) X d_FM_greatestOfChoices_34 (by decide) ?_
          refine ab_icmp_ne X 42 d_FM_greatestOfChoices_35 rfl (fun h35 => ?_) (fun h35 => ?_)
          ·
            have bt1 : ¬ c1 / 2 ^ j % 2 = 1 := fun z => h35 (by rw [z]; rfl)
            rw [if_neg bt1] at st
            refine ab_iconst (v := 0) X d_FM_greatestOfChoices_42 (by decide) ?_
            refine ab_istore5 X 0 1 2 3 4 d_FM_greatestOfChoices_43 (by decide) rfl rfl rfl rfl rfl rfl rfl rfl rfl rfl ?_
            refine ab_iload_n X 2 d_FM_greatestOfChoices_45 rfl rfl ?_
            refine ab_iload X 0 d_FM_greatestOfChoices_46 rfl ?_
            refine ab_if_eq X 64 d_FM_greatestOfChoices_48 rfl (fun _ => ?_) (fun hb => absurd ((by decide)) hb)
            refine ab_aload_n X 5 d_FM_greatestOfChoices_64 rfl rfl ?_
            refine ab_gR X fl_FM_11 d_FM_greatestOfChoices_65 (by first | assumption | decide | (show _ < 124; omega) | (show _ < 61; omega) | (show _ < 20; omega)) (P0.1.fm0 (by first | assumption | decide | omega)) ?_
            refine ab_iload X 1 d_FM_greatestOfChoices_68 rfl ?_
            refine ab_aalv X (j) ⟨rfl, _, fun _ => rfl⟩ d_FM_greatestOfChoices_70 (by first | assumption | decide | (show _ < 124; omega) | (show _ < 61; omega) | (show _ < 20; omega)) (rfl) (show j < 4 by omega) (ab_ln_lt _ _) (F5 j (by omega)) ?_
            refine ab_gR X fl_FM_47 d_FM_greatestOfChoices_71 (by first | assumption | decide | (show _ < 124; omega) | (show _ < 61; omega) | (show _ < 20; omega)) (P0.1.fm2 (by first | assumption | decide | omega)) ?_
            refine ab_gI X fl_FM_74 d_FM_greatestOfChoices_74 (by first | assumption | decide | (show _ < 124; omega) | (show _ < 61; omega) | (show _ < 20; omega)) (rfl) ?_
            refine ab_iadd X d_FM_greatestOfChoices_77 ?_
            refine ab_istore_n5 X 0 1 3 4 5 d_FM_greatestOfChoices_78 rfl (by decide) rfl rfl rfl rfl rfl rfl rfl rfl rfl rfl ?_
            refine ab_iinc5 X 2 0 1 3 4 5 d_FM_greatestOfChoices_79 rfl (by decide) rfl rfl rfl rfl rfl rfl rfl rfl rfl rfl ?_
            refine ab_goto X 19 d_FM_greatestOfChoices_82 rfl ?_
            refine ab_lv (List.forall_mem_cons.mpr ⟨List.mem_of_getElem? (i := 0) rfl, List.forall_mem_cons.mpr ⟨List.mem_of_getElem? (i := 1) rfl, List.forall_mem_cons.mpr ⟨List.mem_of_getElem? (i := 3) rfl, List.forall_mem_cons.mpr ⟨List.mem_of_getElem? (i := 4) rfl, List.forall_mem_cons.mpr ⟨List.mem_of_getElem? (i := 5) rfl, fun _ h => absurd h List.not_mem_nil⟩⟩⟩⟩⟩) ?_
            rw [show nI j + Int32.ofInt 1 = nI (j + 1) from nI_1 j]
            rw [st] at nx2
            exact nx2
          ·
            have bt1 : c1 / 2 ^ j % 2 = 1 := (nI_eq (b := 1) (by omega) (by decide)).mp h35
            rw [if_pos bt1] at st
            refine ab_iconst (v := 1) X d_FM_greatestOfChoices_38 (by decide) ?_
            refine ab_goto X 43 d_FM_greatestOfChoices_39 rfl ?_
            refine ab_istore5 X 0 1 2 3 4 d_FM_greatestOfChoices_43 (by decide) rfl rfl rfl rfl rfl rfl rfl rfl rfl rfl ?_
            refine ab_iload_n X 2 d_FM_greatestOfChoices_45 rfl rfl ?_
            refine ab_iload X 0 d_FM_greatestOfChoices_46 rfl ?_
            refine ab_if_eq X 64 d_FM_greatestOfChoices_48 rfl (fun hb => absurd hb ((by decide))) (fun _ => ?_)
            refine ab_aload_n X 5 d_FM_greatestOfChoices_51 rfl rfl ?_
            refine ab_gR X fl_FM_11 d_FM_greatestOfChoices_52 (by first | assumption | decide | (show _ < 124; omega) | (show _ < 61; omega) | (show _ < 20; omega)) (P0.1.fm0 (by first | assumption | decide | omega)) ?_
            refine ab_iload X 1 d_FM_greatestOfChoices_55 rfl ?_
            refine ab_aalv X (j) ⟨rfl, _, fun _ => rfl⟩ d_FM_greatestOfChoices_57 (by first | assumption | decide | (show _ < 124; omega) | (show _ < 61; omega) | (show _ < 20; omega)) (rfl) (show j < 4 by omega) (ab_ln_lt _ _) (F5 j (by omega)) ?_
            refine ab_gI X fl_FM_40 d_FM_greatestOfChoices_58 (by first | assumption | decide | (show _ < 124; omega) | (show _ < 61; omega) | (show _ < 20; omega)) (rfl) ?_
            refine ab_goto X 77 d_FM_greatestOfChoices_61 rfl ?_
            refine ab_iadd X d_FM_greatestOfChoices_77 ?_
            refine ab_istore_n5 X 0 1 3 4 5 d_FM_greatestOfChoices_78 rfl (by decide) rfl rfl rfl rfl rfl rfl rfl rfl rfl rfl ?_
            refine ab_iinc5 X 2 0 1 3 4 5 d_FM_greatestOfChoices_79 rfl (by decide) rfl rfl rfl rfl rfl rfl rfl rfl rfl rfl ?_
            refine ab_goto X 19 d_FM_greatestOfChoices_82 rfl ?_
            refine ab_lv (List.forall_mem_cons.mpr ⟨List.mem_of_getElem? (i := 0) rfl, List.forall_mem_cons.mpr ⟨List.mem_of_getElem? (i := 1) rfl, List.forall_mem_cons.mpr ⟨List.mem_of_getElem? (i := 3) rfl, List.forall_mem_cons.mpr ⟨List.mem_of_getElem? (i := 4) rfl, List.forall_mem_cons.mpr ⟨List.mem_of_getElem? (i := 5) rfl, fun _ h => absurd h List.not_mem_nil⟩⟩⟩⟩⟩) ?_
            rw [show nI j + Int32.ofInt 1 = nI (j + 1) from nI_1 j]
            rw [st] at nx2
            exact nx2
      refine ab_iload_n X 0 d_FM_greatestOfChoices_4 rfl rfl ?_
      refine ab_iconst (v := 1) X d_FM_greatestOfChoices_5 (by decide) ?_
      refine ab_aload_n X 2 d_FM_greatestOfChoices_6 rfl rfl ?_
      refine ab_gI X fl_FM_34 d_FM_greatestOfChoices_7 (by first | assumption | decide | (show _ < 124; omega) | (show _ < 61; omega) | (show _ < 20; omega)) (en) ?_
      refine ab_ishl X d_FM_greatestOfChoices_10 ?_
      refine ab_top tw.1 ?_
      refine ab_icmp_ge X 109 d_FM_greatestOfChoices_11 rfl (fun hb => absurd hb ((nI_ge (by omega) (by omega)))) (fun _ => ?_)
      refine ab_iconst (v := 0) X d_FM_greatestOfChoices_14 (by decide) ?_
      refine ab_istore_n3 X 0 1 2 d_FM_greatestOfChoices_15 rfl (by decide) rfl rfl rfl rfl rfl rfl ?_
      refine ab_iconst (v := 0) X d_FM_greatestOfChoices_16 (by decide) ?_
      refine ab_istore4 X 0 1 2 3 d_FM_greatestOfChoices_17 (by decide) rfl rfl rfl rfl rfl rfl rfl rfl ?_
      exact inner nc 0 (by omega)
  refine ab_iconst (v := 0) X d_FM_greatestOfChoices_0 (by decide) ?_
  refine ab_istore_n1 X 0 d_FM_greatestOfChoices_1 rfl (by decide) rfl rfl ?_
  refine ab_iconst (v := 0) X d_FM_greatestOfChoices_2 (by decide) ?_
  refine ab_istore_n2 X 0 1 d_FM_greatestOfChoices_3 rfl (by decide) rfl rfl rfl rfl ?_
  exact outer (2 ^ nc) 0 (by omega)
def shx (r nc : Nat) : Prop := (r = 1 → nc = 0) ∧ (r = 3 ∨ r = 6 → nc = 1) ∧ (r = 4 → 1 ≤ nc) ∧ (r = 5 ∨ r = 7 ∨ r = 8 → nc = 2)
set_option maxRecDepth 100000 in
set_option maxHeartbeats 1000000 in
theorem t_FM_gwv (u : ab_S) (f r nc v : Nat) (mk nd : Int32) (g : Nat → Nat) (F : FD u f r mk nd nc g) (hr : 1 ≤ r ∧ r ≤ 8) (hg : ∀ i, i < nc → g i < 61) (sh : shx r nc) (h1 : r = 1 → ∃ k a, mk = nI (1000 * k + a) ∧ a < 1000 ∧ k < 8 ∧ v = if k = 1 then 9 else if k = 2 then 5 else 0) (h5 : r = 5 → (1 : Int32) + (if u.1 3 (g 0) 9 < u.1 3 (g 1) 9 then u.1 3 (g 1) 9 else u.1 3 (g 0) 9) = nI v) (h6 : r = 6 → (1 : Int32) + u.1 3 (g 0) 9 = nI v) (h7 : r = 7 ∨ r = 8 → (if u.1 3 (g 0) 9 < u.1 4 (2 * g 0 + 1) 2 + u.1 3 (g 1) 9 then u.1 4 (2 * g 0 + 1) 2 + u.1 3 (g 1) 9 else u.1 3 (g 0) 9) = nI v) (t_hG : r = 2 ∨ r = 3 ∨ r = 4 → ab_C false l D ca y_FM_greatestOfChoices b_FM_greatestOfChoices 6 (some FieldType.int) 1 ab_nQ u [ab_O 3 f] (fun u' x => u' = u ∧ x = some (ab_I (nI v)))) (h : CI u) (hf : f < 61) : ab_C false l D ca y_FM_greatestWeight b_FM_greatestWeight 1 (some FieldType.int) 2 ab_nQ u [ab_O 3 f] (fun u' x => u' = u ∧ x = some (ab_I (nI v))) := by
  refine ab_C.of (by decide) (Nat.le_of_ble_eq_true rfl) ?_
  intro p e s m args below meth c ad X hZ hr0 hlk
  have P0 : cP [4, 8] u u := cQ.rf h
  obtain ⟨F1, F2, F3, en, F5⟩ := F
  obtain ⟨r1, r8⟩ := hr
  obtain ⟨s1, s3, s4, s5⟩ := sh
  have rr : ∀ {j : Nat}, nI r = nI j → j ≤ 8 → r = j := fun z hj => (nI_eq (by omega) (by omega)).mp z
  refine ab_aload_n X 0 d_FM_greatestWeight_0 rfl rfl ?_
  refine ab_gI X fl_FM_24 d_FM_greatestWeight_1 (by first | assumption | decide | (show _ < 124; omega) | (show _ < 61; omega) | (show _ < 20; omega)) (F1) ?_
  refine ab_tsw X [(1, 52), (5, 57), (6, 81), (7, 93), (8, 93)] 128 d_FM_greatestWeight_4 (by decide +kernel) rfl (List.forall_mem_cons.mpr ⟨fun h4_1 => ?_, List.forall_mem_cons.mpr ⟨fun h4_5 => ?_, List.forall_mem_cons.mpr ⟨fun h4_6 => ?_, List.forall_mem_cons.mpr ⟨fun h4_7 => ?_, List.forall_mem_cons.mpr ⟨fun h4_8 => ?_, fun _ h => absurd h List.not_mem_nil⟩⟩⟩⟩⟩) (fun h4 => ?_)
  ·
    obtain ⟨k, a, e5, ha, hk, hv⟩ := h1 (rr h4_1 (by decide))
    have ev : nI v = nI v := rfl
    refine ab_aload_n X 0 d_FM_greatestWeight_52 rfl rfl ?_
    refine ab_callV (as := []) X (fun h => by cases h) (t_FM_lw u f k a (F2.trans e5) ha hk h hf) lk_FM_65 d_FM_greatestWeight_53 rfl rfl (by first | assumption | decide | (show _ < 124; omega) | (show _ < 61; omega) | (show _ < 20; omega)) ⟨by first | exact Nat.le_of_ble_eq_true rfl | (simp only [ab_rm]; omega), by first | exact Nat.le_of_ble_eq_true rfl | (simp only [ab_rm]; omega)⟩ ⟨by first | exact Nat.le_of_ble_eq_true rfl | (simp only [ab_rm]; omega), by first | exact Nat.le_of_ble_eq_true rfl | (simp only [ab_rm]; omega)⟩ (Nat.le_of_ble_eq_true rfl) (fun u53 r53 h53 => ?_)
    obtain ⟨e53, rfl⟩ := h53
    subst u53
    first | exact ab_reti X hr0 hlk d_FM_greatestWeight_56 ⟨rfl, congrArg (fun z => some (ab_I z)) ev⟩ | exact ab_reti X hr0 hlk d_FM_greatestWeight_56 ⟨rfl, by rw [hv]⟩
  ·
    have re := rr h4_5 (by decide)
    have n2 := s5 (Or.inl re)
    have ev := h5 re
    have g0 := hg 0 (by omega)
    have g1 := hg 1 (by omega)
    refine ab_iconst (v := 1) X d_FM_greatestWeight_57 (by decide) ?_
    refine ab_aload_n X 0 d_FM_greatestWeight_58 rfl rfl ?_
    refine ab_gR X fl_FM_11 d_FM_greatestWeight_59 (by first | assumption | decide | (show _ < 124; omega) | (show _ < 61; omega) | (show _ < 20; omega)) (P0.1.fm0 (by first | assumption | decide | omega)) ?_
    refine ab_iconst (v := 0) X d_FM_greatestWeight_62 (by decide) ?_
    refine ab_aalv X (0) ⟨rfl, _, fun _ => rfl⟩ d_FM_greatestWeight_63 (by first | assumption | decide | (show _ < 124; omega) | (show _ < 61; omega) | (show _ < 20; omega)) (rfl) (show 0 < 4 by decide) (ab_ln_lt _ _) (F5 0 (by omega)) ?_
    refine ab_gI X fl_FM_40 d_FM_greatestWeight_64 (by first | assumption | decide | (show _ < 124; omega) | (show _ < 61; omega) | (show _ < 20; omega)) (rfl) ?_
    refine ab_aload_n X 0 d_FM_greatestWeight_67 rfl rfl ?_
    refine ab_gR X fl_FM_11 d_FM_greatestWeight_68 (by first | assumption | decide | (show _ < 124; omega) | (show _ < 61; omega) | (show _ < 20; omega)) (P0.1.fm0 (by first | assumption | decide | omega)) ?_
    refine ab_iconst (v := 1) X d_FM_greatestWeight_71 (by decide) ?_
    refine ab_aalv X (1) ⟨rfl, _, fun _ => rfl⟩ d_FM_greatestWeight_72 (by first | assumption | decide | (show _ < 124; omega) | (show _ < 61; omega) | (show _ < 20; omega)) (rfl) (show 1 < 4 by decide) (ab_ln_lt _ _) (F5 1 (by omega)) ?_
    refine ab_gI X fl_FM_40 d_FM_greatestWeight_73 (by first | assumption | decide | (show _ < 124; omega) | (show _ < 61; omega) | (show _ < 20; omega)) (rfl) ?_
    refine ab_mmax X mm_FM_68 ⟨Nat.le_of_ble_eq_true rfl, Nat.le_of_ble_eq_true rfl⟩ ⟨Nat.le_of_ble_eq_true rfl, Nat.le_of_ble_eq_true rfl⟩ (Nat.le_of_ble_eq_true rfl) d_FM_greatestWeight_76 ?_
    refine ab_iadd X d_FM_greatestWeight_79 ?_
    first | exact ab_reti X hr0 hlk d_FM_greatestWeight_80 ⟨rfl, congrArg (fun z => some (ab_I z)) ev⟩ | exact ab_reti X hr0 hlk d_FM_greatestWeight_80 ⟨rfl, by rw [hv]⟩
  ·
    have re := rr h4_6 (by decide)
    have n2 := s3 (Or.inr re)
    have ev := h6 re
    have g0 := hg 0 (by omega)
    refine ab_iconst (v := 1) X d_FM_greatestWeight_81 (by decide) ?_
    refine ab_aload_n X 0 d_FM_greatestWeight_82 rfl rfl ?_
    refine ab_gR X fl_FM_11 d_FM_greatestWeight_83 (by first | assumption | decide | (show _ < 124; omega) | (show _ < 61; omega) | (show _ < 20; omega)) (P0.1.fm0 (by first | assumption | decide | omega)) ?_
    refine ab_iconst (v := 0) X d_FM_greatestWeight_86 (by decide) ?_
    refine ab_aalv X (0) ⟨rfl, _, fun _ => rfl⟩ d_FM_greatestWeight_87 (by first | assumption | decide | (show _ < 124; omega) | (show _ < 61; omega) | (show _ < 20; omega)) (rfl) (show 0 < 4 by decide) (ab_ln_lt _ _) (F5 0 (by omega)) ?_
    refine ab_gI X fl_FM_40 d_FM_greatestWeight_88 (by first | assumption | decide | (show _ < 124; omega) | (show _ < 61; omega) | (show _ < 20; omega)) (rfl) ?_
    refine ab_iadd X d_FM_greatestWeight_91 ?_
    first | exact ab_reti X hr0 hlk d_FM_greatestWeight_92 ⟨rfl, congrArg (fun z => some (ab_I z)) ev⟩ | exact ab_reti X hr0 hlk d_FM_greatestWeight_92 ⟨rfl, by rw [hv]⟩
  ·
    have re := rr h4_7 (by decide)
    have n2 := s5 (Or.inr (Or.inl re))
    have ev := h7 (Or.inl re)
    have g0 := hg 0 (by omega)
    have g1 := hg 1 (by omega)
    refine ab_aload_n X 0 d_FM_greatestWeight_93 rfl rfl ?_
    refine ab_gR X fl_FM_11 d_FM_greatestWeight_94 (by first | assumption | decide | (show _ < 124; omega) | (show _ < 61; omega) | (show _ < 20; omega)) (P0.1.fm0 (by first | assumption | decide | omega)) ?_
    refine ab_iconst (v := 0) X d_FM_greatestWeight_97 (by decide) ?_
    refine ab_aalv X (0) ⟨rfl, _, fun _ => rfl⟩ d_FM_greatestWeight_98 (by first | assumption | decide | (show _ < 124; omega) | (show _ < 61; omega) | (show _ < 20; omega)) (rfl) (show 0 < 4 by decide) (ab_ln_lt _ _) (F5 0 (by omega)) ?_
    refine ab_gI X fl_FM_40 d_FM_greatestWeight_99 (by first | assumption | decide | (show _ < 124; omega) | (show _ < 61; omega) | (show _ < 20; omega)) (rfl) ?_
    refine ab_aload_n X 0 d_FM_greatestWeight_102 rfl rfl ?_
    refine ab_gR X fl_FM_11 d_FM_greatestWeight_103 (by first | assumption | decide | (show _ < 124; omega) | (show _ < 61; omega) | (show _ < 20; omega)) (P0.1.fm0 (by first | assumption | decide | omega)) ?_
    refine ab_iconst (v := 0) X d_FM_greatestWeight_106 (by decide) ?_
    refine ab_aalv X (0) ⟨rfl, _, fun _ => rfl⟩ d_FM_greatestWeight_107 (by first | assumption | decide | (show _ < 124; omega) | (show _ < 61; omega) | (show _ < 20; omega)) (rfl) (show 0 < 4 by decide) (ab_ln_lt _ _) (F5 0 (by omega)) ?_
    refine ab_gR X fl_FM_47 d_FM_greatestWeight_108 (by first | assumption | decide | (show _ < 124; omega) | (show _ < 61; omega) | (show _ < 20; omega)) (P0.1.fm2 (by first | assumption | decide | omega)) ?_
    refine ab_gI X fl_FM_74 d_FM_greatestWeight_111 (by first | assumption | decide | (show _ < 124; omega) | (show _ < 61; omega) | (show _ < 20; omega)) (rfl) ?_
    refine ab_aload_n X 0 d_FM_greatestWeight_114 rfl rfl ?_
    refine ab_gR X fl_FM_11 d_FM_greatestWeight_115 (by first | assumption | decide | (show _ < 124; omega) | (show _ < 61; omega) | (show _ < 20; omega)) (P0.1.fm0 (by first | assumption | decide | omega)) ?_
    refine ab_iconst (v := 1) X d_FM_greatestWeight_118 (by decide) ?_
    refine ab_aalv X (1) ⟨rfl, _, fun _ => rfl⟩ d_FM_greatestWeight_119 (by first | assumption | decide | (show _ < 124; omega) | (show _ < 61; omega) | (show _ < 20; omega)) (rfl) (show 1 < 4 by decide) (ab_ln_lt _ _) (F5 1 (by omega)) ?_
    refine ab_gI X fl_FM_40 d_FM_greatestWeight_120 (by first | assumption | decide | (show _ < 124; omega) | (show _ < 61; omega) | (show _ < 20; omega)) (rfl) ?_
    refine ab_iadd X d_FM_greatestWeight_123 ?_
    refine ab_mmax X mm_FM_68 ⟨Nat.le_of_ble_eq_true rfl, Nat.le_of_ble_eq_true rfl⟩ ⟨Nat.le_of_ble_eq_true rfl, Nat.le_of_ble_eq_true rfl⟩ (Nat.le_of_ble_eq_true rfl) d_FM_greatestWeight_124 ?_
    first | exact ab_reti X hr0 hlk d_FM_greatestWeight_127 ⟨rfl, congrArg (fun z => some (ab_I z)) ev⟩ | exact ab_reti X hr0 hlk d_FM_greatestWeight_127 ⟨rfl, by rw [hv]⟩
  ·
    have re := rr h4_8 (by decide)
    have n2 := s5 (Or.inr (Or.inr re))
    have ev := h7 (Or.inr re)
    have g0 := hg 0 (by omega)
    have g1 := hg 1 (by omega)
    refine ab_aload_n X 0 d_FM_greatestWeight_93 rfl rfl ?_
    refine ab_gR X fl_FM_11 d_FM_greatestWeight_94 (by first | assumption | decide | (show _ < 124; omega) | (show _ < 61; omega) | (show _ < 20; omega)) (P0.1.fm0 (by first | assumption | decide | omega)) ?_
    refine ab_iconst (v := 0) X d_FM_greatestWeight_97 (by decide) ?_
    refine ab_aalv X (0) ⟨rfl, _, fun _ => rfl⟩ d_FM_greatestWeight_98 (by first | assumption | decide | (show _ < 124; omega) | (show _ < 61; omega) | (show _ < 20; omega)) (rfl) (show 0 < 4 by decide) (ab_ln_lt _ _) (F5 0 (by omega)) ?_
    refine ab_gI X fl_FM_40 d_FM_greatestWeight_99 (by first | assumption | decide | (show _ < 124; omega) | (show _ < 61; omega) | (show _ < 20; omega)) (rfl) ?_
    refine ab_aload_n X 0 d_FM_greatestWeight_102 rfl rfl ?_
    refine ab_gR X fl_FM_11 d_FM_greatestWeight_103 (by first | assumption | decide | (show _ < 124; omega) | (show _ < 61; omega) | (show _ < 20; omega)) (P0.1.fm0 (by first | assumption | decide | omega)) ?_
    refine ab_iconst (v := 0) X d_FM_greatestWeight_106 (by decide) ?_
    refine ab_aalv X (0) ⟨rfl, _, fun _ => rfl⟩ d_FM_greatestWeight_107 (by first | assumption | decide | (show _ < 124; omega) | (show _ < 61; omega) | (show _ < 20; omega)) (rfl) (show 0 < 4 by decide) (ab_ln_lt _ _) (F5 0 (by omega)) ?_
    refine ab_gR X fl_FM_47 d_FM_greatestWeight_108 (by first | assumption | decide | (show _ < 124; omega) | (show _ < 61; omega) | (show _ < 20; omega)) (P0.1.fm2 (by first | assumption | decide | omega)) ?_
    refine ab_gI X fl_FM_74 d_FM_greatestWeight_111 (by first | assumption | decide | (show _ < 124; omega) | (show _ < 61; omega) | (show _ < 20; omega)) (rfl) ?_
    refine ab_aload_n X 0 d_FM_greatestWeight_114 rfl rfl ?_
    refine ab_gR X fl_FM_11 d_FM_greatestWeight_115 (by first | assumption | decide | (show _ < 124; omega) | (show _ < 61; omega) | (show _ < 20; omega)) (P0.1.fm0 (by first | assumption | decide | omega)) ?_
    refine ab_iconst (v := 1) X d_FM_greatestWeight_118 (by decide) ?_
    refine ab_aalv X (1) ⟨rfl, _, fun _ => rfl⟩ d_FM_greatestWeight_119 (by first | assumption | decide | (show _ < 124; omega) | (show _ < 61; omega) | (show _ < 20; omega)) (rfl) (show 1 < 4 by decide) (ab_ln_lt _ _) (F5 1 (by omega)) ?_
    refine ab_gI X fl_FM_40 d_FM_greatestWeight_120 (by first | assumption | decide | (show _ < 124; omega) | (show _ < 61; omega) | (show _ < 20; omega)) (rfl) ?_
    refine ab_iadd X d_FM_greatestWeight_123 ?_
    refine ab_mmax X mm_FM_68 ⟨Nat.le_of_ble_eq_true rfl, Nat.le_of_ble_eq_true rfl⟩ ⟨Nat.le_of_ble_eq_true rfl, Nat.le_of_ble_eq_true rfl⟩ (Nat.le_of_ble_eq_true rfl) d_FM_greatestWeight_124 ?_
    first | exact ab_reti X hr0 hlk d_FM_greatestWeight_127 ⟨rfl, congrArg (fun z => some (ab_I z)) ev⟩ | exact ab_reti X hr0 hlk d_FM_greatestWeight_127 ⟨rfl, by rw [hv]⟩
  ·
    have re : r = 2 ∨ r = 3 ∨ r = 4 := by
      have q : ∀ (a : Nat) (pc : Nat), (nI a, pc) ∈ [((1 : Int32), 52), (5, 57), (6, 81), (7, 93), (8, 93)] → ¬ r = a := fun a pc hm e => h4 _ hm (by rw [e])
      have q1 := q 1 52 (by decide)
      have q5 := q 5 57 (by decide)
      have q6 := q 6 81 (by decide)
      have q7 := q 7 93 (by decide)
      have q8 := q 8 93 (by decide)
      omega
    have ev : nI v = nI v := rfl
    refine ab_aload_n X 0 d_FM_greatestWeight_128 rfl rfl ?_
    refine ab_callV (as := []) X (fun h => by cases h) (t_hG re) lk_FM_75 d_FM_greatestWeight_129 rfl rfl (by first | assumption | decide | (show _ < 124; omega) | (show _ < 61; omega) | (show _ < 20; omega)) ⟨by first | exact Nat.le_of_ble_eq_true rfl | (simp only [ab_rm]; omega), by first | exact Nat.le_of_ble_eq_true rfl | (simp only [ab_rm]; omega)⟩ ⟨by first | exact Nat.le_of_ble_eq_true rfl | (simp only [ab_rm]; omega), by first | exact Nat.le_of_ble_eq_true rfl | (simp only [ab_rm]; omega)⟩ (Nat.le_of_ble_eq_true rfl) (fun u129 r129 h129 => ?_)
    obtain ⟨e129, rfl⟩ := h129
    subst u129
    first | exact ab_reti X hr0 hlk d_FM_greatestWeight_132 ⟨rfl, congrArg (fun z => some (ab_I z)) ev⟩ | exact ab_reti X hr0 hlk d_FM_greatestWeight_132 ⟨rfl, by rw [hv]⟩
end SaXForm

