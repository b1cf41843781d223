/-! The law's helpers, on any state. -/

section AbYs
variable {p : Program} {l : Launch} {e : Env} {R : Room} {s : State} {m : MethodId} {args : Array Value} {below : List Frame} {meth : Method} {c : Code} {Q : State → Prop}
variable {cc : ByteArray} {own : String} {nL : Nat} {D : va_G} {ca : Nat → ClassId} {A : Nat → Prop} {H0 : Heap} {cells slots : Nat} {ad : ab_Ad} {N : Nat → Nat} {u : ab_S} {pc : Nat} {lv : List (Nat × ab_V)} {st : List ab_V}
/-- a virtual call that may throw what the first row of the table catches and lays into the local i -/
theorem ab_callTs {Post : ab_S → Option ab_V → Prop} {PT : ab_S → String → Prop} (X : ab_X p s m args c cc own nL D ca A H0) {y : MethodName} {cc' : ByteArray} {nL' d' idx c' i n : Nat} {ret' : Option FieldType} {as stk : List ab_V} (hz : ab_Zs ad A s H0) (hC : ab_CT l D ca y cc' nL' ret' d' N u (ab_O c' i :: as) Post PT) (hk : ab_lk own idx y cc' nL' ret' n c') (hd : decode cc pc = .ok (.invokevirtual idx, 3)) (hst : stk = as.reverse ++ ab_O c' i :: st) (hn : as.length = n) (hi : i < N c') (hR : d' + 1 ≤ R.frames ∧ 60 * (d' + 1) ≤ R.locals) (hc : cells + 1 ≤ R.cells ∧ slots + 6 ≤ R.slots) (hw : ab_len st ≤ 8)
    (x : ExceptionTableEntry) (rest : List ExceptionTableEntry) (htab : c.exceptionTable.toList = x :: rest) (hcov : covers x pc = true) (h0 : x.catchType ≠ 0) {name : String} (hcl : Cond.classLink own x.catchType name ∈ ab_T) (hcast : Cond.castable name name ∈ lw_tbl.filter ab_odd) (hPT : ∀ u' E, PT u' E → E = name) {j : Nat} (hda : decode cc x.handlerPc = .ok (.astore j, 2)) (hjn : j < nL)
    (kk : ∀ (u' : ab_S) (r : Option ab_V), Post u' r → ab_J p l e R s m args below meth c Q D ca A H0 nL (cells + 1) (slots + 6) ad N u' (pc + 3) lv (r.toList ++ st))
    (kt : ∀ u' : ab_S, PT u' name → ab_J p l e R s m args below meth c Q D ca A H0 nL (cells + 1) (slots + 6) ad N u' (x.handlerPc + 2) (ab_ft j lv) []) : ab_J p l e R s m args below meth c Q D ca A H0 nL cells slots ad N u pc lv stk := fun H locs ls hW hS hl => by
  obtain ⟨⟨t0, T0, k0, t1⟩, hws, hy, hnL⟩ := hk
  subst hst; subst hn
  obtain ⟨ws, q0, hP, hD, hq⟩ := hW.at hi
  rw [ab_ent_o t0] at hq
  obtain ⟨cellB, hcB, hoB, hclB⟩ := va_recv X.2.2.2.2.2.1 hP t1 hq
  intro T hT Y
  have w1 : ∀ w ∈ ([.methodLink own idx y, .instanceMethod y, .selects y.cls y y, .initialized y.cls, .code y cc' nL' ret'] : List Cond), w.before args s = true := fun w h => X.2.2.2.2.1 _ (hws w h)
  obtain ⟨mk, methM, hnamed, hmethM, hstM, habM⟩ := Cond.instanceMethod_spec (w1 (.instanceMethod y) (by simp))
  obtain ⟨methM', cM, hmethM', -, -, -, -, -, -, hsigM⟩ := Cond.code_spec hnamed (w1 (.code y cc' nL' ret') (by simp))
  cases hmethM.symm.trans hmethM'
  obtain ⟨c2, r2, m2, q1, q2, q3, q4, kP, hkP, hkPi⟩ := Cond.selects_spec (w1 (.selects y.cls y y) (by simp))
  cases hclB.symm.trans q1
  cases (State.methodFound?_of_named hnamed ⟨hy.1, hy.2.1⟩).symm.trans q2
  cases hnamed.symm.trans q3
  have hselP : selectMethod e.platform s.vm cellB.cls mk = .method mk := by rw [Launch.admits_selectMethod Y.admits]; exact q4
  have hlen : (as.map (ab_cv ad)).length = methM.sig.parameters.length := by
    have h2 := hy.2.2
    rw [hsigM] at h2
    rw [List.length_map]
    exact (Option.some.inj h2).symm
  obtain ⟨vm₁, Y₁, hstep₁⟩ := Y.invokevirtual X.1 X.2.2.2.1 (w1 (.methodLink own idx y) (by simp)) hnamed hmethM hstM hkP hkPi ⟨hy.1, hy.2.1⟩ (a := ad c' i) (cell := cellB) (by rw [hT]; exact hcB)
    (fun z h => by rw [h] at hoB; cases hoB) hselP hmethM habM hkP hkPi (g := F0 m pc ls ((as.reverse ++ ab_O c' i :: st).map (ab_cv ad))) rfl (argsL := as.map (ab_cv ad)) (rest := st.map (ab_cv ad)) hlen (by show (as.reverse ++ ab_O c' i :: st).map (ab_cv ad) = _; rw [List.map_append, List.map_reverse]; rfl) (by rw [X.2.1]; exact hd)
  have hG : ∀ w ∈ (Cond.code y cc' nL' ret' :: ab_T), w ∈ ab_T := fun w h => by
    rcases List.mem_cons.mp h with rfl | h
    · exact hws _ (by simp)
    · exact h
  have hpc : ab_Pc true D ca ad N u H.size (ab_O c' i :: as) (Value.ref (ad c' i) :: as.map (ab_cv ad)).toArray (T.setVm vm₁) := ⟨rfl, by show T.heap.size = _; rw [hT], by show ab_W _ _ _ _ _ _ T.heap; rw [hT]; exact hW.weaken (fun _ _ _ => trivial), va_K.moved Y₁.warmed.alike X.2.2.2.2.2.1, ab_Nw.moved Y₁.warmed X.2.2.2.2.2.2.2, fun _ => by show ab_Zs _ _ _ T.heap; rw [hT]; exact ab_Zs.go X hz hW hS Y₁.warmed⟩
  obtain ⟨o, t, T', L, Y', hL, e1, e2, hQ, go1, go2⟩ := ab_backT (bytes := cc') (maxL := nL') (ret := ret') (len := 3) (hC ad H.size) ab_Pc_blind rfl rfl hR.1 (by show 8 + (nL' + 11) + 60 * d' ≤ R.locals; omega) Y₁
    (fun w h a' => word_at Y₁.warmed (ab_T_good w (hG w h)).2 (X.2.2.2.2.1 w (hG w h))) List.mem_cons_self (fun a' => word_at Y₁.warmed (ab_T_good _ (hws (.initialized y.cls) (by simp))).2 (w1 (.initialized y.cls) (by simp)))
    (g := F0 m pc ls (st.map (ab_cv ad))) (ig := .invokevirtual idx) (mk := mk) rfl (by rw [X.2.2.1]; exact hl.1) (by rw [X.2.1]; exact hd) (lv_room (by rw [ab_wt]; exact hw)) (Y₁.named hnamed) hc hpc
  obtain ⟨hQ1, hk', hz', hkp⟩ := hQ
  have hT1 : ((T.setVm vm₁).calling (F0 m pc ls (st.map (ab_cv ad))) mk (Value.ref (ad c' i) :: as.map (ab_cv ad)).toArray).heap = H := hT
  rw [hT1] at hz' hkp
  have hin : ∀ q : Nat, ab_A ad N H.size q → A q := fun q h => by
    rcases h with ⟨c'', i', hi', rfl⟩ | h
    · exact hW.inA hi'
    · exact X.2.2.2.2.2.2.1 q (Nat.le_trans hS.1 h)
  have hS' : va_S A H0 T'.heap (locs ++ L) := ⟨Nat.le_trans hS.1 (by rw [e1]; exact hz'), fun q h1 h2 => by rw [e1, hkp q (Nat.lt_of_lt_of_le h1 hS.1) (fun z => h2 (hin q z))]; exact hS.2.1 q h1 h2, fun q hq => by
      rcases List.mem_append.mp hq with h | h
      · exact hS.2.2 q h
      · exact hin _ (hL q h)⟩
  rcases hQ1 with ⟨u', r, ho, hp, hw'⟩ | ⟨u', E, a, ce, cE, ho, hp, hw', g1, g2, g3, g4⟩
  · obtain ⟨t2, a1, b1⟩ := kk u' r hp T'.heap (locs ++ L) ls (by rw [e1]; exact hw'.weaken fun c'' i' hi' => hW.inA hi') hS' hl T' rfl Y'
    refine ⟨t2, hstep₁ _ (fun acts => ?_), b1⟩
    rw [doInvoke_state]
    refine (go1 _ ho).trans ?_
    have e4 : (r.map (ab_cv ad)).toList ++ st.map (ab_cv ad) = (r.toList ++ st).map (ab_cv ad) := by cases r <;> simp
    show Steps p.tables e below (T'.setTop { F0 m pc ls (st.map (ab_cv ad)) with pc := pc + 3, stack := (r.map (ab_cv ad)).toList ++ st.map (ab_cv ad) }) t2
    rw [e4]
    exact a1
  · have hE := hPT u' E hp
    subst hE
    have hfE : s.vm.findClass E = some cE := by rw [← Y'.warmed.alike.findClass, e2]; exact g4
    obtain ⟨c3, c4, hc3, hc4, hasg⟩ := Cond.castable_spec (X.2.2.2.2.2.2.2 _ hcast)
    cases hfE.symm.trans hc3
    cases hfE.symm.trans hc4
    obtain ⟨vm', Y2, hcatch⟩ := ab_caught Y' a (g := F0 m pc ls (st.map (ab_cv ad))) rfl X.2.2.2.1 x rest htab hcov h0 (X.2.2.2.2.1 _ hcl) hfE (by rw [e1]; exact g1) (by rw [g2]; rfl) (by rw [g3]; exact hasg)
    have hJ : W p l e R s m args below meth c T'.heap (locs ++ L) (cells + 1) (slots + 6) Q (F0 m x.handlerPc ls [.ref a]) := lv_astore X.1 X.2.1 hda hl hjn rfl fun ls' h' => kt u' hp T'.heap (locs ++ L) ls' (by rw [e1]; exact hw'.weaken fun c'' i' hi' => hW.inA hi') hS' ⟨h'.1, h'.2.1, fun q hq => h'.2.2 q (List.mem_cons_of_mem _ (by rw [ab_ft_map]; exact hq))⟩
    obtain ⟨t2, a1, b1⟩ := hJ (T'.setVm vm') rfl Y2
    refine ⟨t2, hstep₁ _ (fun acts => ?_), b1⟩
    rw [doInvoke_state]
    exact (go2 _ ho).trans (hcatch _ a1)
end AbYs
/-- the class's cells stand, the reference's are untouched -/
def hI (u u' : ab_S) : Prop := CI u' ∧ (∀ i k, u'.1 17 i k = u.1 17 i k) ∧ (∀ i k, u'.1 18 i k = u.1 18 i k) ∧ (∀ i k, u'.2.1 17 i k = u.2.1 17 i k)
def hJ (u u' : ab_S) : Prop := hI u u' ∧ u'.1 1 0 3 = u.1 1 0 3
theorem hJ.of {u u' : ab_S} (h : cP [0, 1, 2, 3, 4, 5, 6, 7, 8, 9, 10, 11, 12, 13, 14, 15, 16] u u') : hJ u u' := ⟨⟨h.1, fun i k => (h.2.2.1 17 i k (by decide)).1, fun i k => (h.2.2.1 18 i k (by decide)).1, fun i k => (h.2.2.1 17 i k (by decide)).2⟩, h.2.2.2⟩
theorem hJ.rf {u : ab_S} (h : CI u) : hJ u u := ⟨⟨h, fun _ _ => rfl, fun _ _ => rfl, fun _ _ => rfl⟩, rfl⟩
theorem hI.ofw {u u' : ab_S} (h : wP u u') : hI u u' ∧ u'.1 1 0 3 = 0 := ⟨⟨h.1, fun i k => (h.2.2.1 17 i k (by decide)).1, fun i k => (h.2.2.1 18 i k (by decide)).1, fun i k => (h.2.2.1 17 i k (by decide)).2⟩, h.2.2.2⟩
theorem hJ.ul {u u' : ab_S} {c i k : Nat} {v : Int64} (h : hJ u u') : hJ u (ab_ul u' c i k v) := h
theorem hI.ul {u u' : ab_S} {c i k : Nat} {v : Int64} (h : hI u u' ∧ u'.1 1 0 3 = 0) : hI u (ab_ul u' c i k v) ∧ (ab_ul u' c i k v).1 1 0 3 = 0 := h
/-- the class's policy, its forms, its script and what was typed stay -/
def kT (u u' : ab_S) : Prop := (∀ i k, u'.1 1 i k = u.1 1 i k) ∧ (∀ i k, k ≠ 7 → u'.1 2 i k = u.1 2 i k) ∧ (∀ c i k, c = 3 ∨ c = 5 ∨ c = 11 ∨ c = 13 → u'.1 c i k = u.1 c i k) ∧ (∀ c i k, c = 0 ∨ c = 9 ∨ c = 10 ∨ c = 14 → u'.2.1 c i k = u.2.1 c i k) ∧ kR u u'
def hK (u u' : ab_S) : Prop := hJ u u' ∧ kT u u'
theorem hK.of {u u' : ab_S} (h : cP [4, 6, 7, 8, 15, 16] u u') (r : kR u u') : hK u u' := ⟨hJ.of (h.wk (by decide)), fun i k => (h.2.2.1 1 i k (by decide)).1, fun i k _ => (h.2.2.1 2 i k (by decide)).1, fun c i k hc => (h.2.2.1 c i k (by rcases hc with rfl | rfl | rfl | rfl <;> decide)).1, fun c i k hc => (h.2.2.1 c i k (by rcases hc with rfl | rfl | rfl | rfl <;> decide)).2, r⟩
theorem hK.oh {u u' : ab_S} (h : kH u u') : hK u u' := ⟨hJ.of (h.2.1.wk (by decide)), fun i k => (h.2.1.2.2.1 1 i k (by decide)).1, h.2.2, fun c i k hc => (h.2.1.2.2.1 c i k (by rcases hc with rfl | rfl | rfl | rfl <;> decide)).1, fun c i k hc => (h.2.1.2.2.1 c i k (by rcases hc with rfl | rfl | rfl | rfl <;> decide)).2, kR.of h.2.1 (by decide) (by decide)⟩
theorem hK.rf {u : ab_S} (h : CI u) : hK u u := ⟨hJ.rf h, fun _ _ => rfl, fun _ _ _ => rfl, fun _ _ _ _ => rfl, fun _ _ _ _ => rfl, kR.rf⟩
theorem hK.ul {u u' : ab_S} {c i k : Nat} {v : Int64} (h : hK u u') : hK u (ab_ul u' c i k v) := h
/-- the witness's row stays -/
def kV (u u' : ab_S) : Prop := ((∀ k, u'.1 4 123 k = u.1 4 123 k) ∧ ∀ k, u'.1 8 123 k = u.1 8 123 k) ∧ u'.1 7 0 5 = u.1 7 0 5
def hV (u u' : ab_S) : Prop := hK u u' ∧ kV u u'
theorem hV.of {K : List Nat} {u u' : ab_S} (h : hK u u') (g : cP K u u') (h4 : ¬ 4 ∈ K) (h8 : ¬ 8 ∈ K) (h7 : ¬ 7 ∈ K) : hV u u' := ⟨h, ⟨fun k => (g.2.2.1 4 123 k h4).1, fun k => (g.2.2.1 8 123 k h8).1⟩, (g.2.2.1 7 0 5 h7).1⟩
theorem hV.oh {u u' : ab_S} (h : kH u u') : hV u u' := hV.of (hK.oh h) h.2.1 (by decide) (by decide) (by decide)
theorem hV.rf {u : ab_S} (h : CI u) : hV u u := ⟨hK.rf h, ⟨fun _ => rfl, fun _ => rfl⟩, rfl⟩
theorem hV.ul {u u' : ab_S} {c i k : Nat} {v : Int64} (h : hV u u') : hV u (ab_ul u' c i k v) := h
/-- one item more -/
def pV (n : Nat) (x : Int32) (u u' : ab_S) : Prop := u'.1 4 123 1 = nI (n + 1) ∧ (∀ k, k ≠ n → u'.1 8 123 k = u.1 8 123 k) ∧ u'.1 8 123 n = x
theorem pt_K {u u1 : ab_S} {n : Nat} {x w : Int32} (h : CI u) (h24 : n < 24) (e : u1 = ab_ui (ab_ui (ab_ui u 8 123 n x) 4 123 1 (nI (n + 1))) 4 123 2 w) : hK u u1 ∧ pV n x u u1 := by
  have P0 : cP [4, 6, 7, 8, 15, 16] u u := cQ.rf h
  subst e
  exact ⟨hK.of (((P0.ui rfl (by decide)).row (by decide) (show n + 1 ≤ 40 by omega)).ui rfl (by decide)) (fun i k _ hb => ⟨(ui_n _ (by omega)).trans ((ui_n _ (by omega)).trans (ui_n _ (by omega))), (ui_n _ (by omega)).trans ((ui_n _ (by omega)).trans (ui_n _ (by omega)))⟩), (ui_n _ (by omega)).trans (ui_s _), fun k hk => (ui_n _ (by omega)).trans ((ui_n _ (by omega)).trans (ui_n _ (by omega))), (ui_n _ (by omega)).trans ((ui_n _ (by omega)).trans (ui_s _))⟩
theorem ul_e {u : ab_S} {c i k : Nat} {v w : Int64} (h : v = w) : (ab_ul u c i k v).2.2 c i k = w := by rw [← h]; exact ab_up_s _ _ _ _ _
/-- a read's outcome, and what is told of it -/
def rdX (T : Nat → Int32) (t : Nat) (u u' : ab_S) (v : Option ab_V) : Prop := (hI u u' ∧ u'.1 1 0 3 = 0) ∧ dnn u' ∧ kW u u' ∧ ((parse T t = none ∧ u'.2.1 0 0 7 = none ∧ sX u' [] [] ∧ v = some (ab_I 1)) ∨ ∃ (q M O : Nat) (kd ar cn op lf : Nat → Nat) (ch : Nat → Nat → Nat) (Y : Nat → Nat → Nat × Nat × Nat) (R : Nat → List Nat), parse T t = some (q, M, O, kd, ar, cn, op, ch) ∧ tW M kd ar cn lf ch ∧ (∀ q, q < M → xF kd ar cn ch Y R q) ∧ u'.2.1 0 0 7 = some (2, 1) ∧ cT M kd ar cn ch u' ∧ cX M kd ar cn ch Y R 0 u' ∧ sX u' (Wd kd ar cn ch Y 0 0) (Fl cn ch Y 0 0) ∧ u'.2.2 20 0 0 = (nI (Y 0 0).2.1).toInt64 ∧ v = some (ab_I 0))
section AbHelp2
variable {l : Launch} {D : va_G} {ca : Nat → ClassId}
abbrev b_LW_read : ByteArray := method_3_code
def y_LW_read : MethodName := ⟨"PolicyForgeLaw", "read", "(LPolicyForge;[J)I"⟩
theorem d_LW_read_0 : decode b_LW_read 0 = .ok (.aload_n 1, 1) := by decide +kernel
theorem d_LW_read_1 : decode b_LW_read 1 = .ok (.iconst 0, 1) := by decide +kernel
theorem d_LW_read_2 : decode b_LW_read 2 = .ok (.aload_n 0, 1) := by decide +kernel
theorem d_LW_read_3 : decode b_LW_read 3 = .ok (.invokevirtual 7, 3) := by decide +kernel
theorem d_LW_read_6 : decode b_LW_read 6 = .ok (.i2l, 1) := by decide +kernel
theorem d_LW_read_7 : decode b_LW_read 7 = .ok (.lastore, 1) := by decide +kernel
theorem d_LW_read_8 : decode b_LW_read 8 = .ok (.goto 6, 3) := by decide +kernel
theorem d_LW_read_11 : decode b_LW_read 11 = .ok (.astore_n 2, 1) := by decide +kernel
theorem d_LW_read_12 : decode b_LW_read 12 = .ok (.iconst 1, 1) := by decide +kernel
theorem d_LW_read_13 : decode b_LW_read 13 = .ok (.ireturn, 1) := by decide +kernel
theorem d_LW_read_14 : decode b_LW_read 14 = .ok (.iconst 0, 1) := by decide +kernel
theorem d_LW_read_15 : decode b_LW_read 15 = .ok (.ireturn, 1) := by decide +kernel
theorem lk_LW_7 : ab_lk "PolicyForgeLaw" 7 y_PF_read b_PF_read 2 (some FieldType.int) 0 0 := ⟨⟨rfl, T_PF, 8, rfl⟩, List.forall_mem_cons.mpr ⟨(ab_in 404 (by decide +kernel) (by decide +kernel)), List.forall_mem_cons.mpr ⟨(ab_in 405 (by decide +kernel) (by decide +kernel)), List.forall_mem_cons.mpr ⟨(ab_in 406 (by decide +kernel) (by decide +kernel)), List.forall_mem_cons.mpr ⟨(ab_in 92 (by decide +kernel) (by decide +kernel)), List.forall_mem_cons.mpr ⟨(ab_in 407 (by decide +kernel) (by decide +kernel)), fun _ h => absurd h List.not_mem_nil⟩⟩⟩⟩⟩, ⟨by decide +kernel, by decide +kernel, by decide +kernel⟩, by decide⟩
set_option maxRecDepth 100000 in
set_option maxHeartbeats 1000000 in
theorem h_LW_read (hfl : ab_fl0 l) (u : ab_S) (T : Nat → Int32) (t : Nat) (ht : t ≤ 100) (eL : u.1 1 0 3 = nI t) (hT : ∀ k, k < t → u.1 11 0 k = T k) (dn : dnn u) (h : CI u) : ab_CW l D ca y_LW_read b_LW_read 3 (some .int) [(0, 8, 11, 13)] 101 ab_nQ u [ab_O 0 0, ab_O 20 0] (fun u' v => rdX T t u u' v) := by
  refine ab_CW.of (by decide) (Nat.le_of_ble_eq_true rfl) ?_
  intro p e s m args below meth c ad X hZ htb hr0 hlk
  refine ab_aload_n X 1 d_LW_read_0 rfl rfl ?_
  refine ab_iconst (v := 0) X d_LW_read_1 (by decide) ?_
  refine ab_aload_n X 0 d_LW_read_2 rfl rfl ?_
  refine ab_callT (as := []) (name := ab_IAE) X hZ (x_PF_read hfl u T t ht eL hT dn h) lk_LW_7 d_LW_read_3 rfl rfl (by decide) ⟨Nat.le_of_ble_eq_true rfl, Nat.le_of_ble_eq_true rfl⟩ ⟨Nat.le_of_ble_eq_true rfl, Nat.le_of_ble_eq_true rfl⟩ (Nat.le_of_ble_eq_true rfl) ⟨0, 8, 11, 13⟩ [] htb (by decide) (by decide) (ab_in 403 (by decide +kernel) (by decide +kernel)) (List.mem_filter.mpr ⟨List.mem_of_getElem? (i := 536) (by decide +kernel), by decide +kernel⟩) (fun u' E h => h.2) d_LW_read_11 rfl (by decide) (fun u1 r1 h1 => ?_) (fun u1 h1 => ?_)
  · obtain ⟨q, M, O, kd, ar, cn, op, lf, ch, Y, R, hp, W, F, w1, hg, C, Fx, Sx, Dn, Kw, rfl⟩ := h1
    refine ab_i2l X d_LW_read_6 ?_
    refine ab_last X (0) ⟨rfl, rfl⟩ d_LW_read_7 (by first | assumption | decide) (rfl) (by decide) (ab_ln_lt _ _) ?_
    refine ab_goto X 14 d_LW_read_8 rfl ?_
    refine ab_iconst (v := 0) X d_LW_read_14 (by decide) ?_
    exact ab_reti X hr0 hlk d_LW_read_15 ⟨hI.ul (hI.ofw w1), Dn, Kw, Or.inr ⟨q, M, O, kd, ar, cn, op, lf, ch, Y, R, hp, W, F, hg, C, Fx, Sx, ul_e rfl, rfl⟩⟩
  ·
    refine ab_iconst (v := 1) X d_LW_read_12 (by decide) ?_
    exact ab_reti X hr0 hlk d_LW_read_13 ⟨hI.ofw h1.1.1, h1.1.2.2.2.2.1, h1.1.2.2.2.2.2, Or.inl ⟨h1.1.2.1, h1.1.2.2.1, h1.1.2.2.2.1, rfl⟩⟩
abbrev b_LW_holds : ByteArray := method_4_code
def y_LW_holds : MethodName := ⟨"PolicyForgeLaw", "holds", "(LPolicyForge;IIII[J)I"⟩
theorem d_LW_holds_0 : decode b_LW_holds 0 = .ok (.aload 5, 2) := by decide +kernel
theorem d_LW_holds_2 : decode b_LW_holds 2 = .ok (.iconst 0, 1) := by decide +kernel
theorem d_LW_holds_3 : decode b_LW_holds 3 = .ok (.aload_n 0, 1) := by decide +kernel
theorem d_LW_holds_4 : decode b_LW_holds 4 = .ok (.iload_n 1, 1) := by decide +kernel
theorem d_LW_holds_5 : decode b_LW_holds 5 = .ok (.iload_n 2, 1) := by decide +kernel
theorem d_LW_holds_6 : decode b_LW_holds 6 = .ok (.iload_n 3, 1) := by decide +kernel
theorem d_LW_holds_7 : decode b_LW_holds 7 = .ok (.iload 4, 2) := by decide +kernel
theorem d_LW_holds_9 : decode b_LW_holds 9 = .ok (.invokevirtual 15, 3) := by decide +kernel
theorem d_LW_holds_12 : decode b_LW_holds 12 = .ok (.ifCond .eq 7, 3) := by decide +kernel
theorem d_LW_holds_15 : decode b_LW_holds 15 = .ok (.lconst 1, 1) := by decide +kernel
theorem d_LW_holds_16 : decode b_LW_holds 16 = .ok (.goto 4, 3) := by decide +kernel
theorem d_LW_holds_19 : decode b_LW_holds 19 = .ok (.lconst 0, 1) := by decide +kernel
theorem d_LW_holds_20 : decode b_LW_holds 20 = .ok (.lastore, 1) := by decide +kernel
theorem d_LW_holds_21 : decode b_LW_holds 21 = .ok (.goto 7, 3) := by decide +kernel
theorem d_LW_holds_24 : decode b_LW_holds 24 = .ok (.astore 6, 2) := by decide +kernel
theorem d_LW_holds_26 : decode b_LW_holds 26 = .ok (.iconst 1, 1) := by decide +kernel
theorem d_LW_holds_27 : decode b_LW_holds 27 = .ok (.ireturn, 1) := by decide +kernel
theorem d_LW_holds_28 : decode b_LW_holds 28 = .ok (.iconst 0, 1) := by decide +kernel
theorem d_LW_holds_29 : decode b_LW_holds 29 = .ok (.ireturn, 1) := by decide +kernel
theorem lk_LW_15 : ab_lk "PolicyForgeLaw" 15 y_PF_holds b_PF_holds 6 (some FieldType.boolean) 4 0 := ⟨⟨rfl, T_PF, 8, rfl⟩, List.forall_mem_cons.mpr ⟨(ab_in 718 (by decide +kernel) (by decide +kernel)), List.forall_mem_cons.mpr ⟨(ab_in 719 (by decide +kernel) (by decide +kernel)), List.forall_mem_cons.mpr ⟨(ab_in 720 (by decide +kernel) (by decide +kernel)), List.forall_mem_cons.mpr ⟨(ab_in 92 (by decide +kernel) (by decide +kernel)), List.forall_mem_cons.mpr ⟨(ab_in 721 (by decide +kernel) (by decide +kernel)), fun _ h => absurd h List.not_mem_nil⟩⟩⟩⟩⟩, ⟨by decide +kernel, by decide +kernel, by decide +kernel⟩, by decide⟩
set_option maxRecDepth 100000 in
set_option maxHeartbeats 1000000 in
theorem h_LW_holds (hfl : ab_fl0 l) (u : ab_S) (a1 a2 a3 a4 : Int32) (M : Nat) (kd ar cn lf : Nat → Nat) (ch : Nat → Nat → Nat) (hp : u.2.1 0 0 7 = none ∨ (u.2.1 0 0 7 = some (2, 1) ∧ tW M kd ar cn lf ch ∧ cT M kd ar cn ch u)) (h : CI u) : ab_CW l D ca y_LW_holds b_LW_holds 7 (some .int) [(0, 21, 24, 19)] 9 ab_nQ u [ab_O 0 0, ab_I a1, ab_I a2, ab_I a3, ab_I a4, ab_O 20 0] (fun u' v => (u.2.1 0 0 7 = none ∧ u' = u ∧ v = some (ab_I 1)) ∨ (u.2.1 0 0 7 = some (2, 1) ∧ hV u u' ∧ u'.2.2 20 0 0 = (if hF kd ar cn ch a1 a2 a3 a4 M M 0 = 0 then 0 else 1) ∧ v = some (ab_I 0))) := by
  refine ab_CW.of (by decide) (Nat.le_of_ble_eq_true rfl) ?_
  intro p e s m args below meth c ad X hZ htb hr0 hlk
  refine ab_aload X 5 d_LW_holds_0 rfl ?_
  refine ab_iconst (v := 0) X d_LW_holds_2 (by decide) ?_
  refine ab_aload_n X 0 d_LW_holds_3 rfl rfl ?_
  refine ab_iload_n X 1 d_LW_holds_4 rfl rfl ?_
  refine ab_iload_n X 2 d_LW_holds_5 rfl rfl ?_
  refine ab_iload_n X 3 d_LW_holds_6 rfl rfl ?_
  refine ab_iload X 4 d_LW_holds_7 rfl ?_
  refine ab_callTs (as := [ab_I a1, ab_I a2, ab_I a3, ab_I a4]) (name := ab_NSE) X hZ (f_PF_holds hfl u a1 a2 a3 a4 M kd ar cn lf ch h hp) lk_LW_15 d_LW_holds_9 rfl rfl (by decide) ⟨Nat.le_of_ble_eq_true rfl, Nat.le_of_ble_eq_true rfl⟩ ⟨Nat.le_of_ble_eq_true rfl, Nat.le_of_ble_eq_true rfl⟩ (Nat.le_of_ble_eq_true rfl) ⟨0, 21, 24, 19⟩ [] htb (by decide) (by decide) (ab_in 717 (by decide +kernel) (by decide +kernel)) (List.mem_filter.mpr ⟨List.mem_of_getElem? (i := 724) (by decide +kernel), by decide +kernel⟩) (fun u' E h => h.2) d_LW_holds_24 (by decide) (fun u1 r1 h1 => ?_) (fun u1 h1 => ?_)
  · obtain ⟨g1, w1, rfl⟩ := h1
    refine ab_if_eq X 19 d_LW_holds_12 rfl (fun h12 => ?_) (fun h12 => ?_)
    ·
      have hv : (if hF kd ar cn ch a1 a2 a3 a4 M M 0 = 0 then 0 else 1) = (0 : Int64) := if_pos h12
      refine ab_lconst X d_LW_holds_19 rfl ?_
      refine ab_last X (0) ⟨rfl, rfl⟩ d_LW_holds_20 (by first | assumption | decide) (rfl) (by decide) (ab_ln_lt _ _) ?_
      refine ab_goto X 28 d_LW_holds_21 rfl ?_
      refine ab_iconst (v := 0) X d_LW_holds_28 (by decide) ?_
      exact ab_reti X hr0 hlk d_LW_holds_29 (Or.inr ⟨g1, (hV.oh w1).ul, by rw [hv]; exact ul_e (by decide), rfl⟩)
    ·
      have hv : (if hF kd ar cn ch a1 a2 a3 a4 M M 0 = 0 then 0 else 1) = (1 : Int64) := if_neg h12
      refine ab_lconst X d_LW_holds_15 rfl ?_
      refine ab_goto X 20 d_LW_holds_16 rfl ?_
      refine ab_last X (0) ⟨rfl, rfl⟩ d_LW_holds_20 (by first | assumption | decide) (rfl) (by decide) (ab_ln_lt _ _) ?_
      refine ab_goto X 28 d_LW_holds_21 rfl ?_
      refine ab_iconst (v := 0) X d_LW_holds_28 (by decide) ?_
      exact ab_reti X hr0 hlk d_LW_holds_29 (Or.inr ⟨g1, (hV.oh w1).ul, by rw [hv]; exact ul_e (by decide), rfl⟩)
  ·
    refine ab_iconst (v := 1) X d_LW_holds_26 (by decide) ?_
    exact ab_reti X hr0 hlk d_LW_holds_27 (Or.inl ⟨h1.1.2, h1.1.1, rfl⟩)
abbrev b_LW_satisfy : ByteArray := method_7_code
def y_LW_satisfy : MethodName := ⟨"PolicyForgeLaw", "satisfy", "(LPolicyForge;IIII[J)I"⟩
theorem d_LW_satisfy_0 : decode b_LW_satisfy 0 = .ok (.aload 5, 2) := by decide +kernel
theorem d_LW_satisfy_2 : decode b_LW_satisfy 2 = .ok (.iconst 0, 1) := by decide +kernel
theorem d_LW_satisfy_3 : decode b_LW_satisfy 3 = .ok (.aload_n 0, 1) := by decide +kernel
theorem d_LW_satisfy_4 : decode b_LW_satisfy 4 = .ok (.iload_n 1, 1) := by decide +kernel
theorem d_LW_satisfy_5 : decode b_LW_satisfy 5 = .ok (.iload_n 2, 1) := by decide +kernel
theorem d_LW_satisfy_6 : decode b_LW_satisfy 6 = .ok (.iload_n 3, 1) := by decide +kernel
theorem d_LW_satisfy_7 : decode b_LW_satisfy 7 = .ok (.iload 4, 2) := by decide +kernel
theorem d_LW_satisfy_9 : decode b_LW_satisfy 9 = .ok (.invokevirtual 30, 3) := by decide +kernel
theorem d_LW_satisfy_12 : decode b_LW_satisfy 12 = .ok (.i2l, 1) := by decide +kernel
theorem d_LW_satisfy_13 : decode b_LW_satisfy 13 = .ok (.lastore, 1) := by decide +kernel
theorem d_LW_satisfy_14 : decode b_LW_satisfy 14 = .ok (.goto 7, 3) := by decide +kernel
theorem d_LW_satisfy_17 : decode b_LW_satisfy 17 = .ok (.astore 6, 2) := by decide +kernel
theorem d_LW_satisfy_19 : decode b_LW_satisfy 19 = .ok (.iconst 1, 1) := by decide +kernel
theorem d_LW_satisfy_20 : decode b_LW_satisfy 20 = .ok (.ireturn, 1) := by decide +kernel
theorem d_LW_satisfy_21 : decode b_LW_satisfy 21 = .ok (.iconst 0, 1) := by decide +kernel
theorem d_LW_satisfy_22 : decode b_LW_satisfy 22 = .ok (.ireturn, 1) := by decide +kernel
theorem lk_LW_30 : ab_lk "PolicyForgeLaw" 30 y_PF_satisfy b_PF_satisfy 6 (some FieldType.int) 4 0 := ⟨⟨rfl, T_PF, 8, rfl⟩, List.forall_mem_cons.mpr ⟨(ab_in 782 (by decide +kernel) (by decide +kernel)), List.forall_mem_cons.mpr ⟨(ab_in 783 (by decide +kernel) (by decide +kernel)), List.forall_mem_cons.mpr ⟨(ab_in 784 (by decide +kernel) (by decide +kernel)), List.forall_mem_cons.mpr ⟨(ab_in 92 (by decide +kernel) (by decide +kernel)), List.forall_mem_cons.mpr ⟨(ab_in 785 (by decide +kernel) (by decide +kernel)), fun _ h => absurd h List.not_mem_nil⟩⟩⟩⟩⟩, ⟨by decide +kernel, by decide +kernel, by decide +kernel⟩, by decide⟩
set_option maxRecDepth 100000 in
set_option maxHeartbeats 1000000 in
theorem h_LW_satisfy (hfl : ab_fl0 l) (u : ab_S) (a1 a2 a3 a4 : Int32) (M : Nat) (kd ar cn lf : Nat → Nat) (ch : Nat → Nat → Nat) (Y : Nat → Nat → Nat × Nat × Nat) (R : Nat → List Nat) (W : tW M kd ar cn lf ch) (F : ∀ q, q < M → xF kd ar cn ch Y R q) (hp : u.2.1 0 0 7 = none ∨ (u.2.1 0 0 7 = some (2, 1) ∧ (∀ q, q < M → ∀ j, j < 3 → Fw kd ar cn ch u q (3 * (q + 1) + j) (Y q j).1) ∧ (∀ c, c < M → Rw u (2 * (3 * (c + 1) + 1) + 1) (R c)) ∧ sX u (Wd kd ar cn ch Y 0 0) (Fl cn ch Y 0 0))) (h : CI u) : ab_CW l D ca y_LW_satisfy b_LW_satisfy 7 (some .int) [(0, 14, 17, 19)] 9 ab_nQ u [ab_O 0 0, ab_I a1, ab_I a2, ab_I a3, ab_I a4, ab_O 20 0] (fun u' v => (u.2.1 0 0 7 = none ∧ u' = u ∧ v = some (ab_I 1)) ∨ (u.2.1 0 0 7 = some (2, 1) ∧ hK u u' ∧ u'.1 7 0 5 = u.1 7 0 5 ∧ v = some (ab_I 0) ∧ (((SV kd ar cn ch Y R (slf kd ar a1 a2 a3 a4) 0 0) = none ∧ kV u u') ∨ ∃ xs, (SV kd ar cn ch Y R (slf kd ar a1 a2 a3 a4) 0 0) = some xs ∧ Rw u' 123 xs))) := by
  refine ab_CW.of (by decide) (Nat.le_of_ble_eq_true rfl) ?_
  intro p e s m args below meth c ad X hZ htb hr0 hlk
  refine ab_aload X 5 d_LW_satisfy_0 rfl ?_
  refine ab_iconst (v := 0) X d_LW_satisfy_2 (by decide) ?_
  refine ab_aload_n X 0 d_LW_satisfy_3 rfl rfl ?_
  refine ab_iload_n X 1 d_LW_satisfy_4 rfl rfl ?_
  refine ab_iload_n X 2 d_LW_satisfy_5 rfl rfl ?_
  refine ab_iload_n X 3 d_LW_satisfy_6 rfl rfl ?_
  refine ab_iload X 4 d_LW_satisfy_7 rfl ?_
  refine ab_callTs (as := [ab_I a1, ab_I a2, ab_I a3, ab_I a4]) (name := ab_NSE) X hZ (x_PF_satisfy hfl u a1 a2 a3 a4 M kd ar cn lf ch Y R W F hp h) lk_LW_30 d_LW_satisfy_9 rfl rfl (by decide) ⟨Nat.le_of_ble_eq_true rfl, Nat.le_of_ble_eq_true rfl⟩ ⟨Nat.le_of_ble_eq_true rfl, Nat.le_of_ble_eq_true rfl⟩ (Nat.le_of_ble_eq_true rfl) ⟨0, 14, 17, 19⟩ [] htb (by decide) (by decide) (ab_in 717 (by decide +kernel) (by decide +kernel)) (List.mem_filter.mpr ⟨List.mem_of_getElem? (i := 724) (by decide +kernel), by decide +kernel⟩) (fun u' E h => h.2) d_LW_satisfy_17 (by decide) (fun u1 r1 h1 => ?_) (fun u1 h1 => ?_)
  · obtain ⟨w1, hs, g1, x1, hx1, rfl⟩ := h1
    refine ab_i2l X d_LW_satisfy_12 ?_
    refine ab_last X (0) ⟨rfl, rfl⟩ d_LW_satisfy_13 (by first | assumption | decide) (rfl) (by decide) (ab_ln_lt _ _) ?_
    refine ab_goto X 21 d_LW_satisfy_14 rfl ?_
    refine ab_iconst (v := 0) X d_LW_satisfy_21 (by decide) ?_
    exact ab_reti X hr0 hlk d_LW_satisfy_22 (Or.inr ⟨hs, (hK.of w1 (fun i k ho hi => ⟨g1 _ _ _ (by decide) (by omega), g1 _ _ _ (by decide) (by omega)⟩)).ul, g1 _ _ _ (by decide) (by omega), rfl, hx1.elim (fun z => Or.inl ⟨z.1, ⟨fun k => (z.2.1 k).1, fun k => (z.2.1 k).2⟩, g1 _ _ _ (by decide) (by omega)⟩) (fun ⟨xs, z⟩ => Or.inr ⟨xs, z.1, z.2.1⟩)⟩)
  ·
    refine ab_iconst (v := 1) X d_LW_satisfy_19 (by decide) ?_
    exact ab_reti X hr0 hlk d_LW_satisfy_20 (Or.inl ⟨h1.1.2, h1.1.1, rfl⟩)
abbrev b_LW_check : ByteArray := method_10_code
def y_LW_check : MethodName := ⟨"PolicyForgeLaw", "check", "(LPolicyForge;II[J)I"⟩
theorem d_LW_check_0 : decode b_LW_check 0 = .ok (.aload_n 3, 1) := by decide +kernel
theorem d_LW_check_1 : decode b_LW_check 1 = .ok (.iconst 0, 1) := by decide +kernel
theorem d_LW_check_2 : decode b_LW_check 2 = .ok (.aload_n 0, 1) := by decide +kernel
theorem d_LW_check_3 : decode b_LW_check 3 = .ok (.iload_n 1, 1) := by decide +kernel
theorem d_LW_check_4 : decode b_LW_check 4 = .ok (.iload_n 2, 1) := by decide +kernel
theorem d_LW_check_5 : decode b_LW_check 5 = .ok (.invokevirtual 42, 3) := by decide +kernel
theorem d_LW_check_8 : decode b_LW_check 8 = .ok (.i2l, 1) := by decide +kernel
theorem d_LW_check_9 : decode b_LW_check 9 = .ok (.lastore, 1) := by decide +kernel
theorem d_LW_check_10 : decode b_LW_check 10 = .ok (.goto 7, 3) := by decide +kernel
theorem d_LW_check_13 : decode b_LW_check 13 = .ok (.astore 4, 2) := by decide +kernel
theorem d_LW_check_15 : decode b_LW_check 15 = .ok (.iconst 1, 1) := by decide +kernel
theorem d_LW_check_16 : decode b_LW_check 16 = .ok (.ireturn, 1) := by decide +kernel
theorem d_LW_check_17 : decode b_LW_check 17 = .ok (.iconst 0, 1) := by decide +kernel
theorem d_LW_check_18 : decode b_LW_check 18 = .ok (.ireturn, 1) := by decide +kernel
theorem lk_LW_42 : ab_lk "PolicyForgeLaw" 42 y_PF_check b_PF_check 3 (some FieldType.int) 2 0 := ⟨⟨rfl, T_PF, 8, rfl⟩, List.forall_mem_cons.mpr ⟨(ab_in 860 (by decide +kernel) (by decide +kernel)), List.forall_mem_cons.mpr ⟨(ab_in 861 (by decide +kernel) (by decide +kernel)), List.forall_mem_cons.mpr ⟨(ab_in 862 (by decide +kernel) (by decide +kernel)), List.forall_mem_cons.mpr ⟨(ab_in 92 (by decide +kernel) (by decide +kernel)), List.forall_mem_cons.mpr ⟨(ab_in 863 (by decide +kernel) (by decide +kernel)), fun _ h => absurd h List.not_mem_nil⟩⟩⟩⟩⟩, ⟨by decide +kernel, by decide +kernel, by decide +kernel⟩, by decide⟩
set_option maxRecDepth 100000 in
set_option maxHeartbeats 1000000 in
theorem h_LW_check (hfl : ab_fl0 l) (u : ab_S) (a1 a2 : Int32) (xs : List Nat) (x40 : xs.length ≤ 40) (xb : ∀ x, x ∈ xs → x < 1020) (ec : u.1 4 123 1 = nI xs.length) (ei : ∀ k, k < xs.length → u.1 8 123 k = nI (xs.getD k 0)) (ws : List Nat) (wl : ws.length ≤ 100) (wb : ∀ x, x ∈ ws → 1000 ≤ x ∧ x < 18000) (eN : u.1 5 0 2 = nI ws.length) (ew : ∀ i, i < ws.length → u.1 13 0 i = nI (ws.getD i 0)) (ok : ∀ n st sd, okm a1 a2 n ws st sd) (hp : u.2.1 0 0 7 = none ∨ u.2.1 0 0 7 = some (2, 1)) (h : CI u) : ab_CW l D ca y_LW_check b_LW_check 5 (some .int) [(0, 10, 13, 19)] 9 ab_nQ u [ab_O 0 0, ab_I a1, ab_I a2, ab_O 20 0] (fun u' v => (u.2.1 0 0 7 = none ∧ u' = u ∧ v = some (ab_I 1)) ∨ (u.2.1 0 0 7 = some (2, 1) ∧ hK u u' ∧ (∀ k, u'.1 4 123 k = u.1 4 123 k) ∧ (∀ k, u'.1 8 123 k = u.1 8 123 k) ∧ u'.1 7 0 5 = nI (rn a1 a2 ws.length (ws.length + 1) ws xs [] 0).2 ∧ u'.2.2 20 0 0 = (rn a1 a2 ws.length (ws.length + 1) ws xs [] 0).1.toInt64 ∧ v = some (ab_I 0))) := by
  refine ab_CW.of (by decide) (Nat.le_of_ble_eq_true rfl) ?_
  intro p e s m args below meth c ad X hZ htb hr0 hlk
  refine ab_aload_n X 3 d_LW_check_0 rfl rfl ?_
  refine ab_iconst (v := 0) X d_LW_check_1 (by decide) ?_
  refine ab_aload_n X 0 d_LW_check_2 rfl rfl ?_
  refine ab_iload_n X 1 d_LW_check_3 rfl rfl ?_
  refine ab_iload_n X 2 d_LW_check_4 rfl rfl ?_
  refine ab_callTs (as := [ab_I a1, ab_I a2]) (name := ab_NSE) X hZ (x_PF_checkF hfl u a1 a2 xs x40 xb ec ei ws wl wb eN ew ok hp h) lk_LW_42 d_LW_check_5 rfl rfl (by decide) ⟨Nat.le_of_ble_eq_true rfl, Nat.le_of_ble_eq_true rfl⟩ ⟨Nat.le_of_ble_eq_true rfl, Nat.le_of_ble_eq_true rfl⟩ (Nat.le_of_ble_eq_true rfl) ⟨0, 10, 13, 19⟩ [] htb (by decide) (by decide) (ab_in 717 (by decide +kernel) (by decide +kernel)) (List.mem_filter.mpr ⟨List.mem_of_getElem? (i := 724) (by decide +kernel), by decide +kernel⟩) (fun u' E h => h.2) d_LW_check_13 (by decide) (fun u1 r1 h1 => ?_) (fun u1 h1 => ?_)
  · obtain ⟨⟨w1, hs, k5⟩, rfl⟩ := h1
    refine ab_i2l X d_LW_check_8 ?_
    refine ab_last X (0) ⟨rfl, rfl⟩ d_LW_check_9 (by first | assumption | decide) (rfl) (by decide) (ab_ln_lt _ _) ?_
    refine ab_goto X 17 d_LW_check_10 rfl ?_
    refine ab_iconst (v := 0) X d_LW_check_17 (by decide) ?_
    exact ab_reti X hr0 hlk d_LW_check_18 (Or.inr ⟨hs, (hK.of (w1.wk (by decide)) (kR.of w1 (by decide) (by decide))).ul, fun k => (w1.2.2.1 4 123 k (by decide)).1, fun k => (w1.2.2.1 8 123 k (by decide)).1, k5, ul_e rfl, rfl⟩)
  ·
    refine ab_iconst (v := 1) X d_LW_check_15 (by decide) ?_
    exact ab_reti X hr0 hlk d_LW_check_16 (Or.inl ⟨h1.1.2, h1.1.1, rfl⟩)
abbrev b_LW_size : ByteArray := method_6_code
def y_LW_size : MethodName := ⟨"PolicyForgeLaw", "size", "(LPolicyForge;I[J)I"⟩
theorem d_LW_size_0 : decode b_LW_size 0 = .ok (.aload_n 2, 1) := by decide +kernel
theorem d_LW_size_1 : decode b_LW_size 1 = .ok (.iconst 0, 1) := by decide +kernel
theorem d_LW_size_2 : decode b_LW_size 2 = .ok (.aload_n 0, 1) := by decide +kernel
theorem d_LW_size_3 : decode b_LW_size 3 = .ok (.iload_n 1, 1) := by decide +kernel
theorem d_LW_size_4 : decode b_LW_size 4 = .ok (.invokevirtual 27, 3) := by decide +kernel
theorem d_LW_size_7 : decode b_LW_size 7 = .ok (.i2l, 1) := by decide +kernel
theorem d_LW_size_8 : decode b_LW_size 8 = .ok (.lastore, 1) := by decide +kernel
theorem d_LW_size_9 : decode b_LW_size 9 = .ok (.goto 9, 3) := by decide +kernel
theorem d_LW_size_12 : decode b_LW_size 12 = .ok (.astore_n 3, 1) := by decide +kernel
theorem d_LW_size_13 : decode b_LW_size 13 = .ok (.iconst 1, 1) := by decide +kernel
theorem d_LW_size_14 : decode b_LW_size 14 = .ok (.ireturn, 1) := by decide +kernel
theorem d_LW_size_15 : decode b_LW_size 15 = .ok (.astore_n 3, 1) := by decide +kernel
theorem d_LW_size_16 : decode b_LW_size 16 = .ok (.iconst 2, 1) := by decide +kernel
theorem d_LW_size_17 : decode b_LW_size 17 = .ok (.ireturn, 1) := by decide +kernel
theorem d_LW_size_18 : decode b_LW_size 18 = .ok (.iconst 0, 1) := by decide +kernel
theorem d_LW_size_19 : decode b_LW_size 19 = .ok (.ireturn, 1) := by decide +kernel
theorem lk_LW_27 : ab_lk "PolicyForgeLaw" 27 y_PF_size b_PF_size 2 (some FieldType.int) 1 0 := ⟨⟨rfl, T_PF, 8, rfl⟩, List.forall_mem_cons.mpr ⟨(ab_in 775 (by decide +kernel) (by decide +kernel)), List.forall_mem_cons.mpr ⟨(ab_in 776 (by decide +kernel) (by decide +kernel)), List.forall_mem_cons.mpr ⟨(ab_in 777 (by decide +kernel) (by decide +kernel)), List.forall_mem_cons.mpr ⟨(ab_in 92 (by decide +kernel) (by decide +kernel)), List.forall_mem_cons.mpr ⟨(ab_in 778 (by decide +kernel) (by decide +kernel)), fun _ h => absurd h List.not_mem_nil⟩⟩⟩⟩⟩, ⟨by decide +kernel, by decide +kernel, by decide +kernel⟩, by decide⟩
set_option maxRecDepth 100000 in
set_option maxHeartbeats 1000000 in
theorem h_LW_size (hfl : ab_fl0 l) (u : ab_S) (a1 : Int32) (hp : u.2.1 0 0 7 = none ∨ u.2.1 0 0 7 = some (2, 1)) (h : CI u) : ab_CW l D ca y_LW_size b_LW_size 4 (some .int) [(0, 9, 12, 19), (0, 9, 15, 13)] 9 ab_nQ u [ab_O 0 0, ab_I a1, ab_O 20 0] (fun u' v => (u.2.1 0 0 7 = none ∧ u' = u ∧ v = some (ab_I 1)) ∨ (u.2.1 0 0 7 = some (2, 1) ∧ (a1 < 0 ∨ 7 < a1) ∧ u' = u ∧ v = some (ab_I 2)) ∨ (u.2.1 0 0 7 = some (2, 1) ∧ hV u u' ∧ ∃ j, j ≤ 7 ∧ a1 = nI j ∧ u'.2.2 20 0 0 = (szC u j).toInt64 ∧ v = some (ab_I 0))) := by
  refine ab_CW.of (by decide) (Nat.le_of_ble_eq_true rfl) ?_
  intro p e s m args below meth c ad X hZ htb hr0 hlk
  refine ab_aload_n X 2 d_LW_size_0 rfl rfl ?_
  refine ab_iconst (v := 0) X d_LW_size_1 (by decide) ?_
  refine ab_aload_n X 0 d_LW_size_2 rfl rfl ?_
  refine ab_iload_n X 1 d_LW_size_3 rfl rfl ?_
  refine ab_callT2 (as := [ab_I a1]) (n1 := ab_NSE) (n2 := ab_IAE) X hZ (x_PF_size hfl u a1 hp h) lk_LW_27 d_LW_size_4 rfl rfl (by decide) ⟨Nat.le_of_ble_eq_true rfl, Nat.le_of_ble_eq_true rfl⟩ ⟨Nat.le_of_ble_eq_true rfl, Nat.le_of_ble_eq_true rfl⟩ (Nat.le_of_ble_eq_true rfl) ⟨0, 9, 12, 19⟩ ⟨0, 9, 15, 13⟩ [] htb (by decide) (by decide) (by decide) (by decide) (ab_in 717 (by decide +kernel) (by decide +kernel)) (ab_in 403 (by decide +kernel) (by decide +kernel)) (List.mem_filter.mpr ⟨List.mem_of_getElem? (i := 724) (by decide +kernel), by decide +kernel⟩) (List.mem_filter.mpr ⟨List.mem_of_getElem? (i := 536) (by decide +kernel), by decide +kernel⟩) hZ.2.2.2.2.2.2.2.2.2.2.1 (fun u' E h => h.2) d_LW_size_12 d_LW_size_15 rfl (by decide) (fun u1 r1 h1 => ?_) (fun u1 h1 => ?_) (fun u1 h1 => ?_)
  · obtain ⟨rfl, hs, j1, hj1, ha1, rfl⟩ := h1
    refine ab_i2l X d_LW_size_7 ?_
    refine ab_last X (0) ⟨rfl, rfl⟩ d_LW_size_8 (by first | assumption | decide) (rfl) (by decide) (ab_ln_lt _ _) ?_
    refine ab_goto X 18 d_LW_size_9 rfl ?_
    refine ab_iconst (v := 0) X d_LW_size_18 (by decide) ?_
    exact ab_reti X hr0 hlk d_LW_size_19 (Or.inr (Or.inr ⟨hs, (hV.rf h).ul, j1, hj1, ha1, ul_e rfl, rfl⟩))
  ·
    refine ab_iconst (v := 1) X d_LW_size_13 (by decide) ?_
    exact ab_reti X hr0 hlk d_LW_size_14 (by rcases h1 with ⟨⟨e1, ⟨-, hn⟩ | ⟨z, -⟩⟩, -⟩; exact Or.inl ⟨hn, e1, rfl⟩; exact absurd z (by decide))
  ·
    refine ab_iconst (v := 2) X d_LW_size_16 (by decide) ?_
    exact ab_reti X hr0 hlk d_LW_size_17 (by rcases h1 with ⟨⟨e1, ⟨z, -⟩ | ⟨-, hs, out⟩⟩, -⟩; exact absurd z (by decide); exact Or.inr (Or.inl ⟨hs, out, e1, rfl⟩))
abbrev b_LW_put : ByteArray := method_8_code
def y_LW_put : MethodName := ⟨"PolicyForgeLaw", "put", "(LPolicyForge;I[J)I"⟩
theorem d_LW_put_0 : decode b_LW_put 0 = .ok (.aload_n 2, 1) := by decide +kernel
theorem d_LW_put_1 : decode b_LW_put 1 = .ok (.iconst 0, 1) := by decide +kernel
theorem d_LW_put_2 : decode b_LW_put 2 = .ok (.aload_n 0, 1) := by decide +kernel
theorem d_LW_put_3 : decode b_LW_put 3 = .ok (.iload_n 1, 1) := by decide +kernel
theorem d_LW_put_4 : decode b_LW_put 4 = .ok (.invokevirtual 34, 3) := by decide +kernel
theorem d_LW_put_7 : decode b_LW_put 7 = .ok (.i2l, 1) := by decide +kernel
theorem d_LW_put_8 : decode b_LW_put 8 = .ok (.lastore, 1) := by decide +kernel
theorem d_LW_put_9 : decode b_LW_put 9 = .ok (.goto 9, 3) := by decide +kernel
theorem d_LW_put_12 : decode b_LW_put 12 = .ok (.astore_n 3, 1) := by decide +kernel
theorem d_LW_put_13 : decode b_LW_put 13 = .ok (.iconst 1, 1) := by decide +kernel
theorem d_LW_put_14 : decode b_LW_put 14 = .ok (.ireturn, 1) := by decide +kernel
theorem d_LW_put_15 : decode b_LW_put 15 = .ok (.astore_n 3, 1) := by decide +kernel
theorem d_LW_put_16 : decode b_LW_put 16 = .ok (.iconst 2, 1) := by decide +kernel
theorem d_LW_put_17 : decode b_LW_put 17 = .ok (.ireturn, 1) := by decide +kernel
theorem d_LW_put_18 : decode b_LW_put 18 = .ok (.iconst 0, 1) := by decide +kernel
theorem d_LW_put_19 : decode b_LW_put 19 = .ok (.ireturn, 1) := by decide +kernel
theorem lk_LW_34 : ab_lk "PolicyForgeLaw" 34 y_PF_put b_PF_put 2 (some FieldType.int) 1 0 := ⟨⟨rfl, T_PF, 8, rfl⟩, List.forall_mem_cons.mpr ⟨(ab_in 827 (by decide +kernel) (by decide +kernel)), List.forall_mem_cons.mpr ⟨(ab_in 828 (by decide +kernel) (by decide +kernel)), List.forall_mem_cons.mpr ⟨(ab_in 829 (by decide +kernel) (by decide +kernel)), List.forall_mem_cons.mpr ⟨(ab_in 92 (by decide +kernel) (by decide +kernel)), List.forall_mem_cons.mpr ⟨(ab_in 830 (by decide +kernel) (by decide +kernel)), fun _ h => absurd h List.not_mem_nil⟩⟩⟩⟩⟩, ⟨by decide +kernel, by decide +kernel, by decide +kernel⟩, by decide⟩
set_option maxRecDepth 100000 in
set_option maxHeartbeats 1000000 in
theorem h_LW_put (hfl : ab_fl0 l) (u : ab_S) (a1 : Int32) (n : Nat) (en : u.1 4 123 1 = nI n) (hn : n ≤ 40) (h : CI u) : ab_CW l D ca y_LW_put b_LW_put 4 (some .int) [(0, 9, 12, 13), (0, 9, 15, 37)] 9 ab_nQ u [ab_O 0 0, ab_I a1, ab_O 20 0] (fun u' v => (¬ ab_item a1 ∧ u' = u ∧ v = some (ab_I 1)) ∨ (ab_item a1 ∧ 24 ≤ n ∧ u' = u ∧ v = some (ab_I 2)) ∨ (ab_item a1 ∧ n < 24 ∧ hK u u' ∧ pV n a1 u u' ∧ u'.1 7 0 5 = u.1 7 0 5 ∧ u'.2.2 20 0 0 = (nI (n + 1)).toInt64 ∧ v = some (ab_I 0))) := by
  refine ab_CW.of (by decide) (Nat.le_of_ble_eq_true rfl) ?_
  intro p e s m args below meth c ad X hZ htb hr0 hlk
  refine ab_aload_n X 2 d_LW_put_0 rfl rfl ?_
  refine ab_iconst (v := 0) X d_LW_put_1 (by decide) ?_
  refine ab_aload_n X 0 d_LW_put_2 rfl rfl ?_
  refine ab_iload_n X 1 d_LW_put_3 rfl rfl ?_
  refine ab_callT2 (as := [ab_I a1]) (n1 := ab_IAE) (n2 := ab_ISE) X hZ (c_PF_put hfl u a1 n (by decide) (by decide) (by decide) h.pf5 (h.rw (by decide)) en hn) lk_LW_34 d_LW_put_4 rfl rfl (by decide) ⟨Nat.le_of_ble_eq_true rfl, Nat.le_of_ble_eq_true rfl⟩ ⟨Nat.le_of_ble_eq_true rfl, Nat.le_of_ble_eq_true rfl⟩ (Nat.le_of_ble_eq_true rfl) ⟨0, 9, 12, 13⟩ ⟨0, 9, 15, 37⟩ [] htb (by decide) (by decide) (by decide) (by decide) (ab_in 403 (by decide +kernel) (by decide +kernel)) (ab_in 826 (by decide +kernel) (by decide +kernel)) (List.mem_filter.mpr ⟨List.mem_of_getElem? (i := 536) (by decide +kernel), by decide +kernel⟩) (List.mem_filter.mpr ⟨List.mem_of_getElem? (i := 836) (by decide +kernel), by decide +kernel⟩) hZ.2.2.2.2.2.2.2.2.2.2.2 (fun u' E h => h.2.elim (fun z => Or.inl z.1) (fun z => Or.inr z.1)) d_LW_put_12 d_LW_put_15 rfl (by decide) (fun u1 r1 h1 => ?_) (fun u1 h1 => ?_) (fun u1 h1 => ?_)
  · obtain ⟨hi1, h24, e1, rfl⟩ := h1
    refine ab_i2l X d_LW_put_7 ?_
    refine ab_last X (0) ⟨rfl, rfl⟩ d_LW_put_8 (by first | assumption | decide) (rfl) (by decide) (ab_ln_lt _ _) ?_
    refine ab_goto X 18 d_LW_put_9 rfl ?_
    refine ab_iconst (v := 0) X d_LW_put_18 (by decide) ?_
    exact ab_reti X hr0 hlk d_LW_put_19 (Or.inr (Or.inr ⟨hi1, h24, (pt_K h h24 e1).1.ul, (pt_K h h24 e1).2, (show u1.1 7 0 5 = u.1 7 0 5 by rw [e1]; exact (ui_n _ (by omega)).trans ((ui_n _ (by omega)).trans (ui_n _ (by omega)))), ul_e rfl, rfl⟩))
  ·
    refine ab_iconst (v := 1) X d_LW_put_13 (by decide) ?_
    exact ab_reti X hr0 hlk d_LW_put_14 (by rcases h1 with ⟨e1, ⟨-, hi1⟩ | ⟨z, -⟩⟩; exact Or.inl ⟨hi1, e1, rfl⟩; exact absurd z (by decide))
  ·
    refine ab_iconst (v := 2) X d_LW_put_16 (by decide) ?_
    exact ab_reti X hr0 hlk d_LW_put_17 (by rcases h1 with ⟨e1, ⟨z, -⟩ | ⟨-, hi1, h24⟩⟩; exact absurd z (by decide); exact Or.inr (Or.inl ⟨hi1, h24, e1, rfl⟩))
abbrev b_LW_word : ByteArray := method_5_code
def y_LW_word : MethodName := ⟨"PolicyForgeLaw", "word", "(LPolicyForge;I[J)I"⟩
theorem d_LW_word_0 : decode b_LW_word 0 = .ok (.aload_n 2, 1) := by decide +kernel
theorem d_LW_word_1 : decode b_LW_word 1 = .ok (.iconst 0, 1) := by decide +kernel
theorem d_LW_word_2 : decode b_LW_word 2 = .ok (.aload_n 0, 1) := by decide +kernel
theorem d_LW_word_3 : decode b_LW_word 3 = .ok (.iload_n 1, 1) := by decide +kernel
theorem d_LW_word_4 : decode b_LW_word 4 = .ok (.invokevirtual 21, 3) := by decide +kernel
theorem d_LW_word_7 : decode b_LW_word 7 = .ok (.i2l, 1) := by decide +kernel
theorem d_LW_word_8 : decode b_LW_word 8 = .ok (.lastore, 1) := by decide +kernel
theorem d_LW_word_9 : decode b_LW_word 9 = .ok (.goto 6, 3) := by decide +kernel
theorem d_LW_word_12 : decode b_LW_word 12 = .ok (.astore_n 3, 1) := by decide +kernel
theorem d_LW_word_13 : decode b_LW_word 13 = .ok (.iconst 1, 1) := by decide +kernel
theorem d_LW_word_14 : decode b_LW_word 14 = .ok (.ireturn, 1) := by decide +kernel
theorem d_LW_word_15 : decode b_LW_word 15 = .ok (.iconst 0, 1) := by decide +kernel
theorem d_LW_word_16 : decode b_LW_word 16 = .ok (.ireturn, 1) := by decide +kernel
theorem lk_LW_21 : ab_lk "PolicyForgeLaw" 21 y_PF_word b_PF_word 2 (some FieldType.int) 1 0 := ⟨⟨rfl, T_PF, 8, rfl⟩, List.forall_mem_cons.mpr ⟨(ab_in 753 (by decide +kernel) (by decide +kernel)), List.forall_mem_cons.mpr ⟨(ab_in 754 (by decide +kernel) (by decide +kernel)), List.forall_mem_cons.mpr ⟨(ab_in 755 (by decide +kernel) (by decide +kernel)), List.forall_mem_cons.mpr ⟨(ab_in 92 (by decide +kernel) (by decide +kernel)), List.forall_mem_cons.mpr ⟨(ab_in 756 (by decide +kernel) (by decide +kernel)), fun _ h => absurd h List.not_mem_nil⟩⟩⟩⟩⟩, ⟨by decide +kernel, by decide +kernel, by decide +kernel⟩, by decide⟩
set_option maxRecDepth 100000 in
set_option maxHeartbeats 1000000 in
theorem h_LW_word (hfl : ab_fl0 l) (u : ab_S) (a1 : Int32) (n : Nat) (en : u.1 5 0 2 = nI n) (hn : n ≤ 128) (h : CI u) : ab_CW l D ca y_LW_word b_LW_word 4 (some .int) [(0, 9, 12, 25)] 9 ab_nQ u [ab_O 0 0, ab_I a1, ab_O 20 0] (fun u' v => hV u u' ∧ ((∃ j, j < n ∧ a1 = nI j ∧ u'.2.2 20 0 0 = (u.1 13 0 j).toInt64 ∧ v = some (ab_I 0)) ∨ ((a1 < 0 ∨ nI n ≤ a1) ∧ v = some (ab_I 1)))) := by
  refine ab_CW.of (by decide) (Nat.le_of_ble_eq_true rfl) ?_
  intro p e s m args below meth c ad X hZ htb hr0 hlk
  refine ab_aload_n X 2 d_LW_word_0 rfl rfl ?_
  refine ab_iconst (v := 0) X d_LW_word_1 (by decide) ?_
  refine ab_aload_n X 0 d_LW_word_2 rfl rfl ?_
  refine ab_iload_n X 1 d_LW_word_3 rfl rfl ?_
  refine ab_callT (as := [ab_I a1]) (name := ab_IOB) X hZ (c_PF_word hfl u a1 n (by decide) (by decide) (by decide) h.pf3 h.sc0 en hn) lk_LW_21 d_LW_word_4 rfl rfl (by decide) ⟨Nat.le_of_ble_eq_true rfl, Nat.le_of_ble_eq_true rfl⟩ ⟨Nat.le_of_ble_eq_true rfl, Nat.le_of_ble_eq_true rfl⟩ (Nat.le_of_ble_eq_true rfl) ⟨0, 9, 12, 25⟩ [] htb (by decide) (by decide) (ab_in 752 (by decide +kernel) (by decide +kernel)) (List.mem_filter.mpr ⟨List.mem_of_getElem? (i := 759) (by decide +kernel), by decide +kernel⟩) (fun u' E h => h.2.1) d_LW_word_12 rfl (by decide) (fun u1 r1 h1 => ?_) (fun u1 h1 => ?_)
  · obtain ⟨e1, j1, hj1, hx1, rfl⟩ := h1
    refine ab_i2l X d_LW_word_7 ?_
    refine ab_last X (0) ⟨rfl, rfl⟩ d_LW_word_8 (by first | assumption | decide) (rfl) (by decide) (ab_ln_lt _ _) ?_
    refine ab_goto X 15 d_LW_word_9 rfl ?_
    refine ab_iconst (v := 0) X d_LW_word_15 (by decide) ?_
    exact ab_reti X hr0 hlk d_LW_word_16 ⟨by rw [e1]; exact (hV.rf h).ul, Or.inl ⟨j1, hj1, hx1, ul_e rfl, rfl⟩⟩
  ·
    refine ab_iconst (v := 1) X d_LW_word_13 (by decide) ?_
    exact ab_reti X hr0 hlk d_LW_word_14 ⟨by rw [h1.1]; exact hV.rf h, Or.inr ⟨h1.2.2, rfl⟩⟩
abbrev b_LW_item : ByteArray := method_9_code
def y_LW_item : MethodName := ⟨"PolicyForgeLaw", "item", "(LPolicyForge;I[J)I"⟩
theorem d_LW_item_0 : decode b_LW_item 0 = .ok (.aload_n 2, 1) := by decide +kernel
theorem d_LW_item_1 : decode b_LW_item 1 = .ok (.iconst 0, 1) := by decide +kernel
theorem d_LW_item_2 : decode b_LW_item 2 = .ok (.aload_n 0, 1) := by decide +kernel
theorem d_LW_item_3 : decode b_LW_item 3 = .ok (.iload_n 1, 1) := by decide +kernel
theorem d_LW_item_4 : decode b_LW_item 4 = .ok (.invokevirtual 39, 3) := by decide +kernel
theorem d_LW_item_7 : decode b_LW_item 7 = .ok (.i2l, 1) := by decide +kernel
theorem d_LW_item_8 : decode b_LW_item 8 = .ok (.lastore, 1) := by decide +kernel
theorem d_LW_item_9 : decode b_LW_item 9 = .ok (.goto 6, 3) := by decide +kernel
theorem d_LW_item_12 : decode b_LW_item 12 = .ok (.astore_n 3, 1) := by decide +kernel
theorem d_LW_item_13 : decode b_LW_item 13 = .ok (.iconst 1, 1) := by decide +kernel
theorem d_LW_item_14 : decode b_LW_item 14 = .ok (.ireturn, 1) := by decide +kernel
theorem d_LW_item_15 : decode b_LW_item 15 = .ok (.iconst 0, 1) := by decide +kernel
theorem d_LW_item_16 : decode b_LW_item 16 = .ok (.ireturn, 1) := by decide +kernel
theorem lk_LW_39 : ab_lk "PolicyForgeLaw" 39 y_PF_item b_PF_item 2 (some FieldType.int) 1 0 := ⟨⟨rfl, T_PF, 8, rfl⟩, List.forall_mem_cons.mpr ⟨(ab_in 853 (by decide +kernel) (by decide +kernel)), List.forall_mem_cons.mpr ⟨(ab_in 854 (by decide +kernel) (by decide +kernel)), List.forall_mem_cons.mpr ⟨(ab_in 855 (by decide +kernel) (by decide +kernel)), List.forall_mem_cons.mpr ⟨(ab_in 92 (by decide +kernel) (by decide +kernel)), List.forall_mem_cons.mpr ⟨(ab_in 856 (by decide +kernel) (by decide +kernel)), fun _ h => absurd h List.not_mem_nil⟩⟩⟩⟩⟩, ⟨by decide +kernel, by decide +kernel, by decide +kernel⟩, by decide⟩
set_option maxRecDepth 100000 in
set_option maxHeartbeats 1000000 in
theorem h_LW_item (hfl : ab_fl0 l) (u : ab_S) (a1 : Int32) (n : Nat) (en : u.1 4 123 1 = nI n) (hn : n ≤ 40) (h : CI u) : ab_CW l D ca y_LW_item b_LW_item 4 (some .int) [(0, 9, 12, 25)] 9 ab_nQ u [ab_O 0 0, ab_I a1, ab_O 20 0] (fun u' v => hV u u' ∧ ((∃ j, j < n ∧ a1 = nI j ∧ u'.2.2 20 0 0 = (u.1 8 123 j).toInt64 ∧ v = some (ab_I 0)) ∨ ((a1 < 0 ∨ nI n ≤ a1) ∧ v = some (ab_I 1)))) := by
  refine ab_CW.of (by decide) (Nat.le_of_ble_eq_true rfl) ?_
  intro p e s m args below meth c ad X hZ htb hr0 hlk
  refine ab_aload_n X 2 d_LW_item_0 rfl rfl ?_
  refine ab_iconst (v := 0) X d_LW_item_1 (by decide) ?_
  refine ab_aload_n X 0 d_LW_item_2 rfl rfl ?_
  refine ab_iload_n X 1 d_LW_item_3 rfl rfl ?_
  refine ab_callT (as := [ab_I a1]) (name := ab_IOB) X hZ (c_PF_item hfl u a1 n (by decide) (by decide) (by decide) h.pf5 (h.rw (by decide)) en hn) lk_LW_39 d_LW_item_4 rfl rfl (by decide) ⟨Nat.le_of_ble_eq_true rfl, Nat.le_of_ble_eq_true rfl⟩ ⟨Nat.le_of_ble_eq_true rfl, Nat.le_of_ble_eq_true rfl⟩ (Nat.le_of_ble_eq_true rfl) ⟨0, 9, 12, 25⟩ [] htb (by decide) (by decide) (ab_in 752 (by decide +kernel) (by decide +kernel)) (List.mem_filter.mpr ⟨List.mem_of_getElem? (i := 759) (by decide +kernel), by decide +kernel⟩) (fun u' E h => h.2.1) d_LW_item_12 rfl (by decide) (fun u1 r1 h1 => ?_) (fun u1 h1 => ?_)
  · obtain ⟨e1, j1, hj1, hx1, rfl⟩ := h1
    refine ab_i2l X d_LW_item_7 ?_
    refine ab_last X (0) ⟨rfl, rfl⟩ d_LW_item_8 (by first | assumption | decide) (rfl) (by decide) (ab_ln_lt _ _) ?_
    refine ab_goto X 15 d_LW_item_9 rfl ?_
    refine ab_iconst (v := 0) X d_LW_item_15 (by decide) ?_
    exact ab_reti X hr0 hlk d_LW_item_16 ⟨by rw [e1]; exact (hV.rf h).ul, Or.inl ⟨j1, hj1, hx1, ul_e rfl, rfl⟩⟩
  ·
    refine ab_iconst (v := 1) X d_LW_item_13 (by decide) ?_
    exact ab_reti X hr0 hlk d_LW_item_14 ⟨by rw [h1.1]; exact hV.rf h, Or.inr ⟨h1.2.2, rfl⟩⟩
theorem h_PF_clear (u : ab_S) (h : CI u) : ab_C false l D ca y_PF_clear b_PF_clear 1 none 1 ab_nQ u [ab_O 0 0] (fun u' v => (hK u u' ∧ u'.1 4 123 1 = 0 ∧ u'.1 7 0 5 = u.1 7 0 5) ∧ v = none) := by
  refine ab_C_mono (c_PF_clear u (by decide) (by decide) h.pf5) ?_
  rintro u' v ⟨rfl, rfl⟩
  have P0 : cP [4, 6, 7, 8, 15, 16] u u := cQ.rf h
  exact ⟨⟨hK.of (((P0.row0 (by decide)).ui rfl (by decide)).ui rfl (by decide)) (fun i k _ hb => ⟨(ui_n _ (by omega)).trans ((ui_n _ (by omega)).trans (ui_n _ (by omega))), (ui_n _ (by omega)).trans ((ui_n _ (by omega)).trans (ui_n _ (by omega)))⟩), (ui_n _ (by omega)).trans ((ui_n _ (by omega)).trans (ui_s _)), (ui_n _ (by omega)).trans ((ui_n _ (by omega)).trans (ui_n _ (by omega)))⟩, rfl⟩
end AbHelp2
/-- the class's cells, where only the text has changed -/
theorem CI.cong {u u' : ab_S} (h : CI u) (e2 : u'.2.1 = u.2.1) (e1 : ∀ c i k, c < 17 → c ≠ 11 → ¬ (c = 1 ∧ k = 3) → u'.1 c i k = u.1 c i k) (el : ∃ n, n ≤ 100 ∧ u'.1 1 0 3 = nI n) : CI u' := by
  obtain ⟨r0, r1, r2, r3, r4, r5, r6, r7⟩ := h
  refine ⟨by rw [e2]; exact r0, fun r hr => ?_, fun f hf => ?_, fun p hp => ?_, ⟨?_, ?_⟩, ⟨el, ?_, ?_⟩, ?_, ⟨?_, ?_, ?_⟩⟩
  · rw [e1 4 r 1 (by decide) (by decide) (by omega)]; exact r1 r hr
  · rw [e1 3 f 7 (by decide) (by decide) (by omega), e1 3 f 4 (by decide) (by decide) (by omega), e2]; exact r2 f hf
  · rw [e1 2 p 6 (by decide) (by decide) (by omega), e1 2 p 7 (by decide) (by decide) (by omega), e2]; exact r3 p hp
  · rw [e1 5 0 2 (by decide) (by decide) (by omega)]; exact r4.1
  · rw [e1 5 0 3 (by decide) (by decide) (by omega), e2]; exact r4.2
  · rw [e1 1 0 4 (by decide) (by decide) (by omega)]; exact r5.2.1
  · rw [e1 1 0 7 (by decide) (by decide) (by omega)]; exact r5.2.2
  · unfold ci_pol; rw [e2]; exact r6
  · rw [e1 7 0 2 (by decide) (by decide) (by omega)]; exact r7.1
  · rw [e1 7 0 3 (by decide) (by decide) (by omega)]; exact r7.2.1
  · rw [e1 7 0 4 (by decide) (by decide) (by omega)]; exact r7.2.2
theorem CI.oS {u u' : ab_S} (h : CI u) (g : oS u u') : CI u' := h.cong (by rw [g.1]) (fun c i k a _ _ => g.2 c i k (by omega) (by omega) (by omega)) (by rw [g.2 1 0 3 (by decide) (by decide) (by decide)]; exact h.rd.1)
/-- the reference's cells, where only the class's have changed -/
theorem MI.cong {u u' : ab_S} (h : MI u) (e2 : ∀ i k, u'.2.1 17 i k = u.2.1 17 i k) (e7 : ∀ i k, u'.1 17 i k = u.1 17 i k) (e8 : ∀ i k, u'.1 18 i k = u.1 18 i k) : MI u' := by
  obtain ⟨m1, m2, m3, m4⟩ := h
  refine ⟨⟨fun q hq => (e2 _ _).trans (m1.1 q hq), (e2 _ _).trans m1.2⟩, by rw [e7]; exact m2, by rw [e7]; exact m3, ?_⟩
  rcases m4 with z | ⟨z, P, kd, ar, cn, lf, ch, W, T, V⟩
  · exact Or.inl ((e7 _ _).trans z)
  · refine Or.inr ⟨(e7 _ _).trans z, P, kd, ar, cn, lf, ch, W, ⟨(e7 _ _).trans T.1, fun p hp => ?_⟩, fun p a b j hj => ?_⟩
    · obtain ⟨x1, x2, x3, x4⟩ := T.2 p hp
      exact ⟨(e8 _ _).trans x1, (e8 _ _).trans x2, (e8 _ _).trans x3, fun i hi => (e8 _ _).trans (x4 i hi)⟩
    · obtain ⟨x1, x2, w, x3, x4⟩ := V p a b j hj
      exact ⟨x1.keep (e8 _ _) (fun q _ _ => e8 _ q), by unfold lnu; rw [e8]; exact x2, w, (e8 _ _).trans x3, x4⟩
/-- what holds at the law's loop -/
def LI (u : ab_S) : Prop := CI u ∧ MI u ∧ ∃ n, n ≤ 100 ∧ u.1 1 0 3 = nI n ∧ u.1 17 0 2 = nI n
theorem LI.h {u u' : ab_S} (h : LI u) (g : hJ u u') : LI u' := by
  obtain ⟨-, m, n, hn, e1, e2⟩ := h
  exact ⟨g.1.1, m.cong g.1.2.2.2 g.1.2.1 g.1.2.2.1, n, hn, g.2.trans e1, (g.1.2.1 _ _).trans e2⟩
theorem LI.o {u u' : ab_S} (h : LI u) (g : oP u u') : LI u' := by
  obtain ⟨c, -, n, hn, e1, e2⟩ := h
  exact ⟨c.oS g.2.1, g.1, n, hn, (g.2.1.2 1 0 3 (by decide) (by decide) (by decide)).trans e1, g.2.2.1.trans e2⟩


