/-! A call that may throw what one of two rows catches. -/
theorem ab_go_skip {Q : Handler → Pre} {E : CtlPost} {e : Env} {d : Bool} {acts : List Action} {s : State} {f : JFrame} {a : Addr} {x : ExceptionTableEntry} {t : List ExceptionTableEntry} {c : ClassId} {cell : Cell} (hx : covers x f.pc = true) (h0 : x.catchType ≠ 0)
    (hl : s.vm.ClassLinks e.platform f.method.cls x.catchType c) (hcell : s.heap[a]? = some cell) (hobj : ∀ k, cell.vm ≠ .statics k)
    (hk : ∃ k, s.vm.classes[cell.cls]? = some k) (hc : ∃ k, s.vm.classes[c]? = some k) (hfit : s.vm.assignable cell.cls c = false) :
    wp (findHandler.go f a (x :: t)) Q E e d acts s ↔ wp (findHandler.go f a t) Q E e d acts (s.setVm (s.vm.noted f.method.cls x.catchType (.cls c))) := by
  simp only [covers] at hx
  obtain ⟨ha, ht⟩ := (resolveClass_links e.toSetting hl).op (op := VmOp.resolveClass f.method.cls x.catchType) rfl
  have hal : s.vm.Alike (s.vm.noted f.method.cls x.catchType (.cls c)) := (Vm.Alike.refl s.vm).noted _ _ _
  obtain ⟨k1, hk1⟩ := hk
  obtain ⟨k2, hk2⟩ := hc
  obtain ⟨k1', hk1', -⟩ := hal.2.2 _ _ hk1
  obtain ⟨k2', hk2', -⟩ := hal.2.2 _ _ hk2
  have hfit' : (s.vm.noted f.method.cls x.catchType (.cls c)).assignable cell.cls c = false := by rw [hal.assignable]; exact hfit
  simp [findHandler.go, hx, h0, ha, ht, hcell, hobj, hk1', hk2', hfit', VmOp.dirties, VmOp.acts]
section AbU2
variable {p : Program} {l : Launch} {e : Env} {R : Room} {s : State} {m : MethodId} {args : Array Value} {below : List Frame} {meth : Method} {c : Code} {T : State} {locs : List Loc} {cells slots : Nat}
theorem ab_caught2 (X : Stand p l e R s m args below meth c T locs cells slots) (a : Addr) {g : JFrame} (hg : g.method = m) {own n1 n2 E : String} (hown : s.vm.findClass own = some m.cls) (x1 x2 : ExceptionTableEntry) (rest : List ExceptionTableEntry) (hsplit : c.exceptionTable.toList = x1 :: x2 :: rest) (hx1 : covers x1 g.pc = true) (hx2 : covers x2 g.pc = true) (h01 : x1.catchType ≠ 0) (h02 : x2.catchType ≠ 0)
    (hl1 : (Cond.classLink own x1.catchType n1).before args s = true) (hl2 : (Cond.classLink own x2.catchType n2).before args s = true) (hnc : ab_nc n2 n1 s) (hE : E = n1 ∨ E = n2) {cE : ClassId} {cell : Cell} (hcE : s.vm.findClass E = some cE) (hcell : T.heap[a]? = some cell) (hobj : cell.vm.isStatics = false) (hce : cell.cls = cE) (hfit : s.vm.assignable cE cE = true) :
    ∃ (vm' : Vm) (xq : ExceptionTableEntry), ((xq = x1 ∧ E = n1) ∨ (xq = x2 ∧ E = n2)) ∧ Stand p l e R s m args below meth c (T.setVm vm') locs cells slots ∧
      ∀ target, Steps p.tables e below ((T.setVm vm').setTop { g with pc := xq.handlerPc, stack := [.ref a] }) target → Steps p.tables e below ((T.setTop g).pushFrame (.throwing a)) target := by
  have hpl : e.platform.magicAccessors = ({} : Platform).magicAccessors := by rw [X.admits.platform]
  obtain ⟨c1, hc1, hcl1⟩ := Cond.classLink_spec hown hl1 e.platform hpl
  obtain ⟨c2, hc2, hcl2⟩ := Cond.classLink_spec hown hl2 e.platform hpl
  by_cases hf : s.vm.assignable cE c1 = true
  · obtain ⟨vm', Y, go⟩ := ab_caught X a hg hown x1 (x2 :: rest) hsplit hx1 h01 hl1 hc1 hcell hobj (by rw [hce]; exact hf)
    refine ⟨vm', x1, Or.inl ⟨rfl, ?_⟩, Y, go⟩
    rcases hE with z | z
    · exact z
    · obtain ⟨a2, a1, b2, b1, b3⟩ := hnc
      rw [z] at hcE
      cases hcE.symm.trans b2
      cases hc1.symm.trans b1
      rw [hf] at b3
      cases b3
  · have hff : s.vm.assignable cE c1 = false := by simpa using hf
    have hE2 : E = n2 := by
      rcases hE with z | z
      · rw [z] at hcE
        cases hcE.symm.trans hc1
        exact absurd hfit hf
      · exact z
    have hE3 := hE2
    rw [hE2] at hcE
    cases hcE.symm.trans hc2
    obtain ⟨dk, _, _, kt, hd, _, _, _, _, hkt, _, hopen⟩ := hcl1.here
    obtain ⟨dk2, _, _, kt2, hd2, _, _, _, _, hkt2, _, hopen2⟩ := hcl2.here
    have hW1 : s.WarmedH (T.vm.noted m.cls x1.catchType (.cls c1)) := X.warmed.noted hd hopen (State.rightAt_cls hcl1)
    have Y1 := X.noted hW1
    have hW2 : s.WarmedH ((T.vm.noted m.cls x1.catchType (.cls c1)).noted m.cls x2.catchType (.cls cE)) := hW1.noted hd2 hopen2 (State.rightAt_cls hcl2)
    have Y2 := Y1.noted hW2
    have hal := X.warmed.alike
    have hal1 := hW1.alike
    obtain ⟨kt', hkt', -⟩ := hal.2.2 _ _ hkt
    obtain ⟨kt2', hkt2', -⟩ := hal.2.2 _ _ hkt2
    obtain ⟨kt2'', hkt2'', -⟩ := hal1.2.2 _ _ hkt2
    have hfitT : T.vm.assignable cell.cls cE = true := by rw [hal.assignable, hce]; exact hfit
    have hfit1 : T.vm.assignable cell.cls c1 = false := by rw [hal.assignable, hce]; exact hff
    have hfit2 : (T.vm.noted m.cls x1.catchType (.cls c1)).assignable cell.cls cE = true := by rw [hal1.assignable, hce]; exact hfit
    refine ⟨_, x2, Or.inr ⟨rfl, hE3⟩, Y2, fun target hrest => ?_⟩
    subst hg
    refine ab_caughtTo X.here (vm' := (T.vm.noted g.method.cls x1.catchType (.cls c1)).noted g.method.cls x2.catchType (.cls cE)) (pc := x2.handlerPc) ?_ hrest
    intro Q E' d acts
    rw [Jvm.W.findHandler_eq (s := (T.setTop g).pushFrame (.throwing a)) X.method' X.code, hsplit]
    refine (ab_go_skip (s := (T.setTop g).pushFrame (.throwing a)) hx1 h01 (X.warmed.classLinks hcl1) hcell (VmData.ne_statics_of hobj) (Vm.classAt_of_assignable hfitT ⟨kt2', hkt2'⟩) ⟨kt', hkt'⟩ hfit1).trans ?_
    exact ab_go_link (s := ((T.setTop g).pushFrame (.throwing a)).setVm (T.vm.noted g.method.cls x1.catchType (.cls c1))) hx2 h02 (hW1.classLinks hcl2) hcell (VmData.ne_statics_of hobj) (Vm.classAt_of_assignable hfit2 ⟨kt2'', hkt2''⟩) ⟨kt2'', hkt2''⟩ hfit2
end AbU2
section AbY2
variable {p : Program} {l : Launch} {e : Env} {R : Room} {s : State} {m : MethodId} {args : Array Value} {below : List Frame} {meth : Method} {c : Code} {Q : State → Prop}
variable {cc : ByteArray} {own : String} {nL : Nat} {D : va_G} {ca : Nat → ClassId} {A : Nat → Prop} {H0 : Heap} {cells slots : Nat} {ad : ab_Ad} {N : Nat → Nat} {u : ab_S} {pc : Nat} {lv : List (Nat × ab_V)} {st : List ab_V}
/-- a virtual call that may throw what the first row of the table catches and lays into the local i -/
theorem ab_callT2 {Post : ab_S → Option ab_V → Prop} {PT : ab_S → String → Prop} (X : ab_X p s m args c cc own nL D ca A H0) {y : MethodName} {cc' : ByteArray} {nL' d' idx c' i n : Nat} {ret' : Option FieldType} {as stk : List ab_V} (hz : ab_Zs ad A s H0) (hC : ab_CT l D ca y cc' nL' ret' d' N u (ab_O c' i :: as) Post PT) (hk : ab_lk own idx y cc' nL' ret' n c') (hd : decode cc pc = .ok (.invokevirtual idx, 3)) (hst : stk = as.reverse ++ ab_O c' i :: st) (hn : as.length = n) (hi : i < N c') (hR : d' + 1 ≤ R.frames ∧ 60 * (d' + 1) ≤ R.locals) (hc : cells + 1 ≤ R.cells ∧ slots + 6 ≤ R.slots) (hw : ab_len st ≤ 8)
    (x1 x2 : ExceptionTableEntry) (rest : List ExceptionTableEntry) (htab : c.exceptionTable.toList = x1 :: x2 :: rest) (hcov1 : covers x1 pc = true) (hcov2 : covers x2 pc = true) (h01 : x1.catchType ≠ 0) (h02 : x2.catchType ≠ 0) {n1 n2 : String} (hcl1 : Cond.classLink own x1.catchType n1 ∈ ab_T) (hcl2 : Cond.classLink own x2.catchType n2 ∈ ab_T) (hcast1 : Cond.castable n1 n1 ∈ lw_tbl.filter ab_odd) (hcast2 : Cond.castable n2 n2 ∈ lw_tbl.filter ab_odd) (hnc : ab_nc n2 n1 s) (hPT : ∀ u' E, PT u' E → E = n1 ∨ E = n2) {k : Fin 4} {j : Nat} (hda1 : decode cc x1.handlerPc = .ok (.astore_n k, 1)) (hda2 : decode cc x2.handlerPc = .ok (.astore_n k, 1)) (hj : (k : Nat) = j) (hjn : j < nL)
    (kk : ∀ (u' : ab_S) (r : Option ab_V), Post u' r → ab_J p l e R s m args below meth c Q D ca A H0 nL (cells + 1) (slots + 6) ad N u' (pc + 3) lv (r.toList ++ st))
    (kt1 : ∀ (u' : ab_S), PT u' n1 → ab_J p l e R s m args below meth c Q D ca A H0 nL (cells + 1) (slots + 6) ad N u' (x1.handlerPc + 1) (ab_ft j lv) [])
    (kt2 : ∀ (u' : ab_S), PT u' n2 → ab_J p l e R s m args below meth c Q D ca A H0 nL (cells + 1) (slots + 6) ad N u' (x2.handlerPc + 1) (ab_ft j lv) []) : ab_J p l e R s m args below meth c Q D ca A H0 nL cells slots ad N u pc lv stk := fun H locs ls hW hS hl => by
  obtain ⟨⟨t0, T0, k0, t1⟩, hws, hy, hnL⟩ := hk
  subst hst; subst hn
  obtain ⟨ws, q0, hP, hD, hq⟩ := hW.at hi
  rw [ab_ent_o t0] at hq
  obtain ⟨cellB, hcB, hoB, hclB⟩ := va_recv X.2.2.2.2.2.1 hP t1 hq
  intro T hT Y
  have w1 : ∀ w ∈ ([.methodLink own idx y, .instanceMethod y, .selects y.cls y y, .initialized y.cls, .code y cc' nL' ret'] : List Cond), w.before args s = true := fun w h => X.2.2.2.2.1 _ (hws w h)
  obtain ⟨mk, methM, hnamed, hmethM, hstM, habM⟩ := Cond.instanceMethod_spec (w1 (.instanceMethod y) (by simp))
  obtain ⟨methM', cM, hmethM', -, -, -, -, -, -, hsigM⟩ := Cond.code_spec hnamed (w1 (.code y cc' nL' ret') (by simp))
  cases hmethM.symm.trans hmethM'
  obtain ⟨c2, r2, m2, q1, q2, q3, q4, kP, hkP, hkPi⟩ := Cond.selects_spec (w1 (.selects y.cls y y) (by simp))
  cases hclB.symm.trans q1
  cases (State.methodFound?_of_named hnamed ⟨hy.1, hy.2.1⟩).symm.trans q2
  cases hnamed.symm.trans q3
  have hselP : selectMethod e.platform s.vm cellB.cls mk = .method mk := by rw [Launch.admits_selectMethod Y.admits]; exact q4
  have hlen : (as.map (ab_cv ad)).length = methM.sig.parameters.length := by
    have h2 := hy.2.2
    rw [hsigM] at h2
    rw [List.length_map]
    exact (Option.some.inj h2).symm
  obtain ⟨vm₁, Y₁, hstep₁⟩ := Y.invokevirtual X.1 X.2.2.2.1 (w1 (.methodLink own idx y) (by simp)) hnamed hmethM hstM hkP hkPi ⟨hy.1, hy.2.1⟩ (a := ad c' i) (cell := cellB) (by rw [hT]; exact hcB)
    (fun z h => by rw [h] at hoB; cases hoB) hselP hmethM habM hkP hkPi (g := F0 m pc ls ((as.reverse ++ ab_O c' i :: st).map (ab_cv ad))) rfl (argsL := as.map (ab_cv ad)) (rest := st.map (ab_cv ad)) hlen (by show (as.reverse ++ ab_O c' i :: st).map (ab_cv ad) = _; rw [List.map_append, List.map_reverse]; rfl) (by rw [X.2.1]; exact hd)
  have hG : ∀ w ∈ (Cond.code y cc' nL' ret' :: ab_T), w ∈ ab_T := fun w h => by
    rcases List.mem_cons.mp h with rfl | h
    · exact hws _ (by simp)
    · exact h
  have hpc : ab_Pc true D ca ad N u H.size (ab_O c' i :: as) (Value.ref (ad c' i) :: as.map (ab_cv ad)).toArray (T.setVm vm₁) := ⟨rfl, by show T.heap.size = _; rw [hT], by show ab_W _ _ _ _ _ _ T.heap; rw [hT]; exact hW.weaken (fun _ _ _ => trivial), va_K.moved Y₁.warmed.alike X.2.2.2.2.2.1, ab_Nw.moved Y₁.warmed X.2.2.2.2.2.2.2, fun _ => by show ab_Zs _ _ _ T.heap; rw [hT]; exact ab_Zs.go X hz hW hS Y₁.warmed⟩
  obtain ⟨o, t, T', L, Y', hL, e1, e2, hQ, go1, go2⟩ := ab_backT (bytes := cc') (maxL := nL') (ret := ret') (len := 3) (hC ad H.size) ab_Pc_blind rfl rfl hR.1 (by show 8 + (nL' + 11) + 60 * d' ≤ R.locals; omega) Y₁
    (fun w h a' => word_at Y₁.warmed (ab_T_good w (hG w h)).2 (X.2.2.2.2.1 w (hG w h))) List.mem_cons_self (fun a' => word_at Y₁.warmed (ab_T_good _ (hws (.initialized y.cls) (by simp))).2 (w1 (.initialized y.cls) (by simp)))
    (g := F0 m pc ls (st.map (ab_cv ad))) (ig := .invokevirtual idx) (mk := mk) rfl (by rw [X.2.2.1]; exact hl.1) (by rw [X.2.1]; exact hd) (lv_room (by rw [ab_wt]; exact hw)) (Y₁.named hnamed) hc hpc
  obtain ⟨hQ1, hk', hz', hkp⟩ := hQ
  have hT1 : ((T.setVm vm₁).calling (F0 m pc ls (st.map (ab_cv ad))) mk (Value.ref (ad c' i) :: as.map (ab_cv ad)).toArray).heap = H := hT
  rw [hT1] at hz' hkp
  have hin : ∀ q : Nat, ab_A ad N H.size q → A q := fun q h => by
    rcases h with ⟨c'', i', hi', rfl⟩ | h
    · exact hW.inA hi'
    · exact X.2.2.2.2.2.2.1 q (Nat.le_trans hS.1 h)
  have hS' : va_S A H0 T'.heap (locs ++ L) := ⟨Nat.le_trans hS.1 (by rw [e1]; exact hz'), fun q h1 h2 => by rw [e1, hkp q (Nat.lt_of_lt_of_le h1 hS.1) (fun z => h2 (hin q z))]; exact hS.2.1 q h1 h2, fun q hq => by
      rcases List.mem_append.mp hq with h | h
      · exact hS.2.2 q h
      · exact hin _ (hL q h)⟩
  rcases hQ1 with ⟨u', r, ho, hp, hw'⟩ | ⟨u', E, a, ce, cE, ho, hp, hw', g1, g2, g3, g4⟩
  · obtain ⟨t2, a1, b1⟩ := kk u' r hp T'.heap (locs ++ L) ls (by rw [e1]; exact hw'.weaken fun c'' i' hi' => hW.inA hi') hS' hl T' rfl Y'
    refine ⟨t2, hstep₁ _ (fun acts => ?_), b1⟩
    rw [doInvoke_state]
    refine (go1 _ ho).trans ?_
    have e4 : (r.map (ab_cv ad)).toList ++ st.map (ab_cv ad) = (r.toList ++ st).map (ab_cv ad) := by cases r <;> simp
    show Steps p.tables e below (T'.setTop { F0 m pc ls (st.map (ab_cv ad)) with pc := pc + 3, stack := (r.map (ab_cv ad)).toList ++ st.map (ab_cv ad) }) t2
    rw [e4]
    exact a1
  · have hfE : s.vm.findClass E = some cE := by rw [← Y'.warmed.alike.findClass, e2]; exact g4
    have hEE := hPT u' E hp
    have hcast : Cond.castable E E ∈ lw_tbl.filter ab_odd := by
      rcases hEE with z | z
      · rw [z]; exact hcast1
      · rw [z]; exact hcast2
    obtain ⟨c3, c4, hc3, hc4, hasg⟩ := Cond.castable_spec (X.2.2.2.2.2.2.2 _ hcast)
    cases hfE.symm.trans hc3
    cases hfE.symm.trans hc4
    obtain ⟨vm', xq, hxq, Y2, hcatch⟩ := ab_caught2 Y' a (g := F0 m pc ls (st.map (ab_cv ad))) rfl X.2.2.2.1 x1 x2 rest htab hcov1 hcov2 h01 h02 (X.2.2.2.2.1 _ hcl1) (X.2.2.2.2.1 _ hcl2) hnc hEE hfE (by rw [e1]; exact g1) (by rw [g2]; rfl) g3 hasg
    have hda : decode cc xq.handlerPc = .ok (.astore_n k, 1) := by
      rcases hxq with ⟨z, -⟩ | ⟨z, -⟩
      · rw [z]; exact hda1
      · rw [z]; exact hda2
    have hkt : ab_J p l e R s m args below meth c Q D ca A H0 nL (cells + 1) (slots + 6) ad N u' (xq.handlerPc + 1) (ab_ft j lv) [] := by
      rcases hxq with ⟨z, y⟩ | ⟨z, y⟩
      · rw [z]; exact kt1 u' (y ▸ hp)
      · rw [z]; exact kt2 u' (y ▸ hp)
    have hJ : W p l e R s m args below meth c T'.heap (locs ++ L) (cells + 1) (slots + 6) Q (F0 m xq.handlerPc ls [.ref a]) := lv_astore_n X.1 X.2.1 hda hj hl hjn rfl fun ls' h' => hkt T'.heap (locs ++ L) ls' (by rw [e1]; exact hw'.weaken fun c'' i' hi' => hW.inA hi') hS' ⟨h'.1, h'.2.1, fun q hq => h'.2.2 q (List.mem_cons_of_mem _ (by rw [ab_ft_map]; exact hq))⟩
    obtain ⟨t2, a1, b1⟩ := hJ (T'.setVm vm') rfl Y2
    refine ⟨t2, hstep₁ _ (fun acts => ?_), b1⟩
    rw [doInvoke_state]
    exact (go2 _ ho).trans (hcatch _ a1)
end AbY2

