/-! The claim. -/
theorem ab_lz : ab_nx (ab_nl []) 0 = ab_nl [1] := ab_m_ext (by decide +kernel) (fun c h => by unfold ab_nx; rw [if_neg (by omega)]; exact ab_nl_out (by simp)) (fun c h => ab_nl_out (by simp; omega))
theorem ab_lq1 : ab_nx ab_nM 20 = ab_nQ := ab_m_ext (by decide +kernel) (fun c h => by unfold ab_nx; rw [if_neg (by omega)]; exact ab_nl_out (by simp; omega)) (fun c h => ab_nl_out (by simp; omega))
theorem li_a1 : ∀ i, i < 19 → ab_uM.2.1 12 0 i = some (2, i + 1) := by decide +kernel
theorem li_a2 : ∀ p, p < 20 → ab_uM.2.1 2 p 0 = some (10, p) ∧ ab_uM.2.1 2 p 1 = some (3, 3 * p) ∧ ab_uM.2.1 2 p 2 = some (3, 3 * p + 1) ∧ ab_uM.2.1 2 p 3 = some (3, 3 * p + 2) := by decide +kernel
theorem li_a3 : ∀ g, g < 61 → ab_uM.2.1 3 g 0 = some (9, g) ∧ ab_uM.2.1 3 g 2 = some (4, 2 * g + 1) ∧ ab_uM.2.1 3 g 3 = some (4, 2 * g) := by decide +kernel
theorem li_a4 : ∀ r, r < 124 → ab_uM.2.1 4 r 0 = some (8, r) := by decide +kernel
theorem li_R : ci_R ab_uM.2.1 := ⟨⟨by decide +kernel, by decide +kernel, by decide +kernel, by decide +kernel, by decide +kernel, by decide +kernel, by decide +kernel⟩, ⟨by decide +kernel, by decide +kernel, by decide +kernel, by decide +kernel, by decide +kernel, by decide +kernel, by decide +kernel⟩, li_a1, li_a2, li_a3, li_a4⟩
theorem li_b1 : ∀ r, r < 124 → ab_uM.1 4 r 1 = nI 0 := by decide +kernel
theorem li_b2 : ∀ f, f < 61 → ab_uM.1 3 f 7 = nI 0 ∧ ab_uM.1 3 f 4 = 0 := by decide +kernel
theorem li_b3 : ∀ p, p < 20 → ab_uM.1 2 p 6 = nI 0 ∧ (ab_uM.1 2 p 7 = 0 ∨ ab_uM.1 2 p 7 = 1) := by decide +kernel
theorem li_z {u : Nat → Nat → Nat → Int32} {c i k m : Nat} (h : u c i k = nI 0) : ∃ n, n ≤ m ∧ u c i k = nI n := ⟨0, Nat.zero_le _, h⟩
theorem li_C : CI ab_uM := by
  refine ⟨li_R, fun r hr => ⟨0, Nat.zero_le _, li_b1 r hr⟩, fun f hf => ⟨0, Nat.zero_le _, (li_b2 f hf).1, fun j hj => absurd hj (Nat.not_lt_zero j), fun _ => ?_⟩, fun p hp => ⟨⟨0, Nat.zero_le _, (li_b3 p hp).1, fun j hj => absurd hj (Nat.not_lt_zero j)⟩, (li_b3 p hp).2⟩, ⟨⟨0, by decide, by decide +kernel⟩, 0, by decide, by decide +kernel, fun j hj => absurd hj (Nat.not_lt_zero j)⟩, ⟨⟨0, by decide, by decide +kernel⟩, ⟨0, by decide, by decide +kernel⟩, 0, by decide, by decide +kernel⟩, Or.inl (by decide +kernel), ⟨0, by decide, by decide +kernel⟩, ⟨0, by decide, by decide +kernel⟩, 0, by decide, by decide +kernel⟩
  rw [(li_b2 f hf).2]
  exact ⟨fun h => absurd h (by decide), fun h => absurd h (by decide)⟩
theorem li_M : MI ab_uM := ⟨⟨by decide +kernel, by decide +kernel⟩, ⟨0, by decide, by decide +kernel⟩, ⟨0, by decide, by decide +kernel⟩, Or.inl (by decide +kernel)⟩
theorem li_0 : LT ab_uM := ⟨li_C, li_M, ⟨0, by decide, by decide +kernel, by decide +kernel, fun k hk => absurd hk (Nat.not_lt_zero k)⟩, Or.inl ⟨by decide +kernel, by decide +kernel, by decide +kernel, fun i hi => absurd hi (Nat.not_lt_zero i), by decide +kernel, fun i hi => absurd hi (Nat.not_lt_zero i)⟩, by unfold dnn; decide +kernel⟩
theorem lv_0 : LV ab_uM := ⟨li_0, wE.nil (by decide +kernel) (by decide +kernel), by unfold dE; decide +kernel⟩
section AbFin
variable {l : Launch} {D : va_G} {ca : Nat → ClassId} {p : Program} {e : Env} {s : State} {m : MethodId} {below : List Frame} {meth : Method} {c : Code} {b : Nat} {ad : ab_Ad} {xs : Nat → Int32}
set_option maxRecDepth 100000 in
set_option maxHeartbeats 4000000 in
theorem la_start (hfl : ab_fl0 l) (X : ab_X p s m #[Value.ref b] c code "PolicyForgeLaw" 7 D ca (fun q => s.heap.size ≤ q) s.heap) (hZ : ab_Zs ad (fun q => s.heap.size ≤ q) s s.heap) {L : Nat} (hL : L ≤ 3072) (hX : va_X (ad 23 0) L xs s s.heap) (hbl : ad 23 0 < s.heap.size) (hr : meth.sig.returnType = ret) (hlk : meth.locks = false) : ab_J p l e room_1 s m #[Value.ref b] below meth c (lw_Z below #[Value.ref b] s) D ca (fun q => s.heap.size ≤ q) s.heap 7 0 0 ad (ab_nl []) ab_Z 0 [(0, ab_O 23 0)] [] := by
  refine ab_new X nw_LW_8 d_LW_law_0 (by decide) (ab_G_Z _) (by (repeat' (first | (intro q hq; exact absurd hq (List.not_mem_nil)) | refine List.forall_mem_cons.mpr ⟨?_, ?_⟩)) <;> (first | trivial | exact Or.inr (by decide) | (refine Or.inl ?_; first | assumption | exact Nat.le_of_ble_eq_true rfl | exact Nat.lt_succ_self _ | (simp [ab_nx]; done) | (simp [ab_nx]; omega)))) (by (repeat' (first | (intro q hq; exact absurd hq (List.not_mem_nil)) | refine List.forall_mem_cons.mpr ⟨?_, ?_⟩)) <;> (first | trivial | exact Or.inr (by decide) | (refine Or.inl ?_; first | assumption | exact Nat.le_of_ble_eq_true rfl | exact Nat.lt_succ_self _ | (simp [ab_nx]; done) | (simp [ab_nx]; omega)))) ⟨by first | exact Nat.le_of_ble_eq_true rfl | (simp only [ab_rm, room_1]; omega), by first | exact Nat.le_of_ble_eq_true rfl | (simp only [ab_rm, room_1]; omega)⟩ (fun ad0 x0 => ?_)
  refine ab_widen (k := 1) (n := 8) (Nat.le_of_ble_eq_true rfl) (Nat.le_of_ble_eq_true rfl) ?_
  refine ab_dup X d_LW_law_3 rfl ?_
  refine ab_Nr ab_lz ?_
  refine ab_callI (as := []) X (c_PF_init) lI_LW_46 d_LW_law_4 rfl rfl (by (repeat' (first | (intro q hq; exact absurd hq (List.not_mem_nil)) | refine List.forall_mem_cons.mpr ⟨?_, ?_⟩)) <;> (first | trivial | exact Or.inr (by decide) | (refine Or.inl ?_; first | assumption | exact Nat.le_of_ble_eq_true rfl | exact Nat.lt_succ_self _ | (simp [ab_nx]; done) | (simp [ab_nx]; omega)))) (by (repeat' (first | (intro q hq; exact absurd hq (List.not_mem_nil)) | refine List.forall_mem_cons.mpr ⟨?_, ?_⟩)) <;> (first | trivial | exact Or.inr (by decide) | (refine Or.inl ?_; first | assumption | exact Nat.le_of_ble_eq_true rfl | exact Nat.lt_succ_self _ | (simp [ab_nx]; done) | (simp [ab_nx]; omega)))) ⟨by first | exact Nat.le_of_ble_eq_true rfl | (simp only [ab_rm, room_1]; omega), by first | exact Nat.le_of_ble_eq_true rfl | (simp only [ab_rm, room_1]; omega)⟩ ⟨by first | exact Nat.le_of_ble_eq_true rfl | (simp only [ab_rm, room_1]; omega), by first | exact Nat.le_of_ble_eq_true rfl | (simp only [ab_rm, room_1]; omega)⟩ (Nat.le_of_ble_eq_true rfl) (fun ad4 u4 x4 h4 => ?_)
  obtain rfl := h4
  refine ab_widen (k := 421) (n := 7182) (Nat.le_of_ble_eq_true rfl) (Nat.le_of_ble_eq_true rfl) ?_
  refine ab_astore_n1 X 0 d_LW_law_7 rfl (by decide) rfl rfl ?_
  refine ab_new X nw_LW_47 d_LW_law_8 (by decide) (ab_gC) (by (repeat' (first | (intro q hq; exact absurd hq (List.not_mem_nil)) | refine List.forall_mem_cons.mpr ⟨?_, ?_⟩)) <;> (first | trivial | exact Or.inr (by decide) | (refine Or.inl ?_; first | assumption | exact Nat.le_of_ble_eq_true rfl | exact Nat.lt_succ_self _ | (simp [ab_nx]; done) | (simp [ab_nx]; omega)))) (by (repeat' (first | (intro q hq; exact absurd hq (List.not_mem_nil)) | refine List.forall_mem_cons.mpr ⟨?_, ?_⟩)) <;> (first | trivial | exact Or.inr (by decide) | (refine Or.inl ?_; first | assumption | exact Nat.le_of_ble_eq_true rfl | exact Nat.lt_succ_self _ | (simp [ab_nx]; done) | (simp [ab_nx]; omega)))) ⟨by first | exact Nat.le_of_ble_eq_true rfl | (simp only [ab_rm, room_1]; omega), by first | exact Nat.le_of_ble_eq_true rfl | (simp only [ab_rm, room_1]; omega)⟩ (fun ad8 x8 => ?_)
  refine ab_widen (k := 422) (n := 7226) (Nat.le_of_ble_eq_true rfl) (Nat.le_of_ble_eq_true rfl) ?_
  refine ab_dup X d_LW_law_11 rfl ?_
  refine ab_callI (as := []) X (c_MO_init) lI_LW_49 d_LW_law_12 rfl rfl (by (repeat' (first | (intro q hq; exact absurd hq (List.not_mem_nil)) | refine List.forall_mem_cons.mpr ⟨?_, ?_⟩)) <;> (first | trivial | exact Or.inr (by decide) | (refine Or.inl ?_; first | assumption | exact Nat.le_of_ble_eq_true rfl | exact Nat.lt_succ_self _ | (simp [ab_nx]; done) | (simp [ab_nx]; omega)))) (by (repeat' (first | (intro q hq; exact absurd hq (List.not_mem_nil)) | refine List.forall_mem_cons.mpr ⟨?_, ?_⟩)) <;> (first | trivial | exact Or.inr (by decide) | (refine Or.inl ?_; first | assumption | exact Nat.le_of_ble_eq_true rfl | exact Nat.lt_succ_self _ | (simp [ab_nx]; done) | (simp [ab_nx]; omega)))) ⟨by first | exact Nat.le_of_ble_eq_true rfl | (simp only [ab_rm, room_1]; omega), by first | exact Nat.le_of_ble_eq_true rfl | (simp only [ab_rm, room_1]; omega)⟩ ⟨by first | exact Nat.le_of_ble_eq_true rfl | (simp only [ab_rm, room_1]; omega), by first | exact Nat.le_of_ble_eq_true rfl | (simp only [ab_rm, room_1]; omega)⟩ (Nat.le_of_ble_eq_true rfl) (fun ad12 u12 x12 h12 => ?_)
  obtain rfl := h12
  refine ab_widen (k := 444) (n := 20462) (Nat.le_of_ble_eq_true rfl) (Nat.le_of_ble_eq_true rfl) ?_
  refine ab_astore_n2 X 0 1 d_LW_law_15 rfl (by decide) rfl rfl rfl rfl ?_
  refine ab_iconst (v := 1) X d_LW_law_16 (by decide) ?_
  refine ab_newa (c' := 20) X rfl (ab_in 1321 (by decide +kernel) (by decide +kernel)) (Or.inr ⟨rfl, rfl⟩) (fun _ => rfl) d_LW_law_17 (by decide) (ab_ln_le _ _) (by decide) (ab_h23) (by (repeat' (first | (intro q hq; exact absurd hq (List.not_mem_nil)) | refine List.forall_mem_cons.mpr ⟨?_, ?_⟩)) <;> (first | trivial | exact Or.inr (by decide) | (refine Or.inl ?_; first | assumption | exact Nat.le_of_ble_eq_true rfl | exact Nat.lt_succ_self _ | (simp [ab_nx]; done) | (simp [ab_nx]; omega)))) (by (repeat' (first | (intro q hq; exact absurd hq (List.not_mem_nil)) | refine List.forall_mem_cons.mpr ⟨?_, ?_⟩)) <;> (first | trivial | exact Or.inr (by decide) | (refine Or.inl ?_; first | assumption | exact Nat.le_of_ble_eq_true rfl | exact Nat.lt_succ_self _ | (simp [ab_nx]; done) | (simp [ab_nx]; omega)))) ⟨by first | exact Nat.le_of_ble_eq_true rfl | (simp only [ab_rm, room_1]; omega), by first | exact Nat.le_of_ble_eq_true rfl | (simp only [ab_rm, room_1]; omega)⟩ (fun ad17 x17 => ?_)
  refine ab_widen (k := 445) (n := 20463) (Nat.le_of_ble_eq_true rfl) (Nat.le_of_ble_eq_true rfl) ?_
  refine ab_Nr ab_lq1 ?_
  have hZ1 := ((((hZ.ex x0).ex x4).ex x8).ex x12).ex x17
  have hb1 : ad17 23 0 = ad 23 0 := ((((x17 23 0 (Or.inr (by decide))).trans (x12 23 0 (Or.inr (by decide)))).trans (x8 23 0 (Or.inr (by decide)))).trans (x4 23 0 (Or.inr (by decide)))).trans (x0 23 0 (Or.inr (by decide)))
  rw [← hb1] at hX hbl
  have hbA : ¬ s.heap.size ≤ ad17 23 0 := Nat.not_le.mpr hbl
  refine ab_astore_n3 X 0 1 2 d_LW_law_19 rfl (by decide) rfl rfl rfl rfl rfl rfl ?_
  refine ab_iconst (v := 0) X d_LW_law_20 (by decide) ?_
  refine ab_istore4 X 0 1 2 3 d_LW_law_21 (by decide) rfl rfl rfl rfl rfl rfl rfl rfl ?_
  exact la_loop hfl X hZ1 hL hX hbl hr hlk 3078 0 445 20463 ab_uM rfl (by decide) (by decide) lv_0
end AbFin
def R_law : String := "PolicyForgeLaw"
def lw_P (b : Addr) (xs : List Int32) (args : Array Value) (s : State) : Prop := args = #[.ref b] ∧ s.IntsAt b xs ∧ xs.length ≤ 3072 ∧ (Jvm.Cond.and given_1 narrow_1).before args s = true
/-- what holds at the law's entry: the machine, the code, the tables' words (any of lw_tbl by 'hts w (by decide +kernel)'), the script of L ints xs at the cell b, what the Statement gives of the start (any of its parts by flat_of_before) -/
def lw_At (p : Program) (s : State) (m : MethodId) (meth : Method) (c : Code) (b L : Nat) (xs : Nat → Int32) : Prop :=
  p.tables.exec = Jvm.exec ∧ c.code = code ∧ meth.sig.returnType = ret ∧ c.maxLocals = 7 ∧ s.vm.findClass R_law = some m.cls ∧ (∀ w ∈ lw_tbl, w.before #[Value.ref b] s = true) ∧ va_X b L xs s s.heap ∧ b < s.heap.size ∧ meth.locks = false ∧ (Jvm.Cond.and given_1 narrow_1).before #[Value.ref b] s = true
theorem whole_start {p : Program} {e : Env} {s : State} {m : MethodId} {below : List Frame} {meth : Method} {c : Code} (l : Launch) (hfl : l.flags = flags0) {b L : Nat} {xs : Nat → Int32} (hL : L ≤ 3072) (C0 : lw_At p s m meth c b L xs) : W p l e room_1 s m #[Value.ref b] below meth c s.heap [] 0 0 (lw_Z below #[Value.ref b] s) (entryFrame m ([Value.ref b] : List Value).toArray 7) := by
  obtain ⟨hx, hcode, hr, hml, hown, hts, hX, hbl, hlk, hg⟩ := C0
  obtain ⟨D, ca, hK⟩ := en_K hts
  obtain ⟨ad, hb, hZ⟩ := en_Z (A := fun q => s.heap.size ≤ q) b hts hg (fun a h => Nat.not_le.mpr h)
  have X : ab_X p s m #[Value.ref b] c code "PolicyForgeLaw" 7 D ca (fun q => s.heap.size ≤ q) s.heap := ⟨hx, hcode, hml, hown, fun w h => hts w (List.mem_filter.mp h).1, hK, fun q h => h, en_Nw hts⟩
  have z0 : ∀ c : Nat, ab_nl [] c = 0 := fun c => ab_nl_out (by simp)
  have hW : ab_W D ca ad (ab_nl []) ab_Z (fun q => s.heap.size ≤ q) s.heap := ⟨fun c i c' i' hi => absurd (by rw [z0] at hi; exact hi) (Nat.not_lt_zero i), [], fun k q h => by simp at h, ⟨fun i j x y h => by simp at h, fun k q h => by simp at h⟩, fun c i hi => absurd (by rw [z0] at hi; exact hi) (Nat.not_lt_zero i), fun q h => by simp at h⟩
  rw [lg_entry_eq]
  have hl := lv_entry [Value.ref b] (n := 7) (Nat.le_of_ble_eq_true rfl)
  subst hb
  exact la_start hfl X hZ hL hX hbl hr hlk s.heap [] _ hW va_S.rf hl
set_option maxHeartbeats 4000000 in
theorem lw_walk (l : Launch) (hfl : l.flags = flags0) (b : Addr) (xs : List Int32) : MetFree l x (headSpec (Jvm.Cond.code x code maxLocals ret :: tables_1) room_1) (lw_P b xs) (fun _ _ _ _ _ => True) lw_Q := by
  refine MetFree.of_bodyS (code := code) (maxLocals := maxLocals) (ret := ret) (by decide) ?_ ?_
  · intro args s m h hn
    obtain ⟨meth, c, h1, h2, h3, h4, h5, h6, -, -⟩ := Cond.code_spec hn (atoms_spec (ws := Jvm.Cond.code x code maxLocals ret :: tables_1) h _ List.mem_cons_self)
    exact ⟨meth, c, h1, h2, h3, h4, h5, h6⟩
  · intro p e s m args below meth c s₁ B hml0 hP _
    obtain ⟨rfl, hx, hbd, hgv⟩ := hP
    obtain ⟨scr, harrAt, hlist, hof, hsmall⟩ := hx
    obtain ⟨hcb, hkn, -, -⟩ := State.arrayAt?_spec harrAt
    have hown : s.vm.findClass R_law = some m.cls := findClass_of_methodNamed B.named
    have hts0 : ∀ c ∈ (Jvm.Cond.code x code maxLocals ret :: tables_1), c.before #[Value.ref b] s = true := atoms_spec (ws := Jvm.Cond.code x code maxLocals ret :: tables_1) B.pre
    have hts : ∀ w ∈ lw_tbl, w.before #[Value.ref b] s = true := k2_hts_sels lw_privs (fun w hw => hts0 w (List.mem_cons_of_mem _ hw)) lw_privs_ok
    have hml : c.maxLocals = 7 := B.maxLocals_eq (hts0 _ List.mem_cons_self)
    have X₀ : Stand p l e room_1 s m #[Value.ref b] below meth c s₁ [] 0 0 := Stand.of_body B
    have hh0 : s₁.heap = s.heap := by rw [B.state]; rfl
    have hsz : scr.slots.size = xs.length := by rw [← Array.length_toList, hlist, List.length_map]
    have hval : ∀ j : Nat, j < xs.length → scr.slots[j]? = some (.int (xs.getD j 0)) := fun j hj => by
      rw [← Array.getElem?_toList, hlist]
      simp [hj]
    have hbl : b < s.heap.size := (Array.getElem?_eq_some_iff.mp hcb).1
    have hX : va_X b xs.length (fun j => xs.getD j 0) s s.heap := ⟨scr, hcb, hof, hkn, hsz, hval⟩
    have K : W p l e room_1 s m #[Value.ref b] below meth c s₁.heap [] 0 0 (lw_Z below #[Value.ref b] s) (entryFrame m ([Value.ref b] : List Value).toArray 7) := by
      rw [hh0]
      exact whole_start l hfl hbd ⟨B.exec, B.bytes, B.returns, hml, hown, hts, hX, hbl, B.notSynchronized, hgv⟩
    obtain ⟨t, a1, o, b1, b2, b3⟩ := K s₁ rfl X₀
    exact ⟨t, o, a1, b1, b2, b3⟩
theorem lw_pre_spec {args : Array Value} {s : State} (h : (Jvm.Cond.and given_1 narrow_1).before args s = true) (hr : rest_1_c.before args s = true) : ∃ (b : Addr) (xs : List Int32), lw_P b xs args s := by
  have hs := flat_of_before _ h
  have hq := flat_of_before _ hr
  have hc : (Cond.count 1).before args s = true := hs _ (by decide +kernel)
  have harr : (Cond.arrayOf (.arg 0) .int).before args s = true := hs _ (by decide +kernel)
  have hle : (Cond.le (.length (.arg 0)) (.int 3072)).before args s = true := hs _ (by decide +kernel)
  have hlen : (Cond.isInt (.length (.arg 0))).before args s = true := hq _ (by decide +kernel)
  have hall : (Cond.all (.arg 0) (.isInt (.elem (.arg 0) (.index 0)))).before args s = true := hq _ (by decide +kernel)
  obtain ⟨b, xs, hb, hx⟩ := State.ints_of_pre rfl harr hlen hall
  have hsm : xs.length < 2 ^ 31 := hx.choose_spec.2.2.2
  have hev : (Term.length (.arg 0)).eval args s none [] s = some (.int xs.length.toInt32) := hx.length_eval hb
  have hv := Cond.le_ints hev (show (Term.int 3072).eval args s none [] s = some (.int 3072) from rfl)
  have hd : xs.length.toInt32 ≤ 3072 := by
    simpa [Cond.before, Cond.holds, hv] using hle
  have hN : xs.length ≤ 3072 := (Int32.ofNat_le_ofNat hsm (by decide)).mp (show Int32.ofNat xs.length ≤ Int32.ofNat 3072 from hd)
  exact ⟨b, xs, Cond.one_arg hc (show args[0]? = some (.ref b) from hb), hx, hN, h⟩
theorem lw_comes (l : Launch) (hfl : l.flags = flags0) : Comes l x (Jvm.Cond.code x code maxLocals ret :: tables_1) room_1 (fun tb e args s => Calls_1 tb e args s ∧ rest_1 tb e args s ∧ Pre_1 tb e args s)
    (fun _ _ args s o t => lw_Q args s o t) := by
  intro p e ha hc hk s m args below hf hfit hheap happ hpre
  obtain ⟨b, xs, hP⟩ := lw_pre_spec hpre.2.2 hpre.2.1
  obtain ⟨k, o, h1, h2, h3, hQ⟩ := lw_walk l hfl b xs p e ha hc hk s m args below hf ((Spec.applies_iff_loose hf).mp happ).1 hP trivial
  exact ⟨k, o, h1, h2, h3, hQ⟩
theorem lw_frame {s t : State} {o : Outcome} {args : Array Value} (h : Framed s o t [] 601024 7293034) :
    Framed s o t (fieldLocs frame_1_writes args s ++ arrayLocs frame_1_arrays args s ++ staticLocs frame_1_statics s) 601024 7293034 := h
theorem lw_limb (L : Cond) (hL : ∀ (args : Array Value) (s t : State), L.after args s (.returned (some (.int 1))) t = true) :
    ArmFor flags0 classFile x code maxLocals ret World_1 tables_1 room_1 Calls_1 rest_1 Pre_1
      (fun tb e a s o t => postC L tb e a s o t ∧ Framed s o t (fieldLocs frame_1_writes a s ++ arrayLocs frame_1_arrays a s ++ staticLocs frame_1_statics s) 601024 7293034) := by
  intro l hfl _ _ p e ha hc hk s m args below hf hfit hheap happ hpre
  obtain ⟨k, o, h1, h2, h3, rfl, hF⟩ := lw_comes l hfl p e ha hc hk s m args below hf hfit hheap happ hpre
  exact ⟨k, _, h1, h2, h3, hL args s _, lw_frame hF⟩
theorem i_vc : Claimed_1_1 ∧ Claimed_1_2 := ⟨lw_limb limb_1_1 (fun args s t => by simp [limb_1_1, Cond.after, Cond.holds, Cond.value]), lw_limb limb_1_2 (fun args s t => Cond.after_iff.mpr (by
  first | (rw [show limb_1_2 = Cond.eq .result (.int 1) from rfl, Cond.eq_ints (x := 1) (y := 1) rfl rfl]; simp; done) | (simp [limb_1_2, Cond.value, Term.eval]; done)))⟩

