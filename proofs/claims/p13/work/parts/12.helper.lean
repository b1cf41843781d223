/-! The law's helpers: they call a method that may throw, catch, and answer. -/
section AbV
variable {p : Program} {l : Launch} {e : Env} {R : Room} {s : State} {m : MethodId} {sargs : Array Value} {below : List Frame} {meth : Method} {c : Code} {U : State} {locs : List Loc} {cells slots : Nat} {y : MethodName}
/-- a call by such a contract comes back, or throws -/
theorem ab_backT {ws : List Cond} {rm : Room} {Pc : Array Value → State → Prop} {Qc : Array Value → State → Outcome → State → Prop} {mc ms : Nat} {free : Addr → Prop} {bytes : ByteArray} {maxL len : Nat} {ret : Option FieldType}
    (hM : ab_MT l y ws rm Pc Qc mc ms free) (hblind : FrameBlind Pc) (hrc : rm.cells = mc) (hrs : rm.slots = ms) (hframes : rm.frames + 1 ≤ R.frames) (hlocals : 8 + (maxL + 11) + rm.locals ≤ R.locals)
    (X : Stand p l e R s m sargs below meth c U locs cells slots) (hws : ∀ w ∈ ws, ∀ a', w.before a' U = true) (hcode : (Cond.code y bytes maxL ret) ∈ ws) (hini : ∀ a', (Cond.initialized y.cls).before a' U = true)
    {g : JFrame} {ig : Instr} {mk : MethodId} {a : Array Value} (hg : g.method = m) (hsize : g.locals.size = c.maxLocals) (hdg : decode c.code g.pc = .ok (ig, len)) (hW : 2 * g.monitorRoom + (g.stack.map fun v => v.category).sum ≤ 8) (hn : U.methodNamed? y = some mk) (hcs : cells + mc ≤ R.cells ∧ slots + ms ≤ R.slots) (hp : Pc a U) :
    ∃ (o : Outcome) (t T' : State) (L : List Loc), Stand p l e R s m sargs below meth c T' (locs ++ L) (cells + mc) (slots + ms) ∧ (∀ q ∈ L, free q.base) ∧ T'.heap = t.heap ∧ T'.vm = t.vm ∧ Qc a (U.calling g mk a) o t ∧
      (∀ v, o = .returned v → Steps p.tables e below (doInvoke e (U.setTop g) [] mk a).1 (T'.setTop { g with pc := g.pc + len, stack := v.toList ++ g.stack })) ∧
      (∀ x, o = .threw x → Steps p.tables e below (doInvoke e (U.setTop g) [] mk a).1 ((T'.setTop g).pushFrame (.throwing x))) := by
  have h2 := hws _ hcode a
  have h3 := hini a
  obtain ⟨methY, cY, hmY, hcY, -, hlY, -, -, -, -⟩ := Cond.code_spec hn h2
  obtain ⟨kY, hkY, -⟩ := className_of_methodNamed hn
  have hinitY : kY.init = .initialized := Cond.initialized_spec (findClass_of_methodNamed hn) hkY h3
  have h : At U g.method c below := by rw [hg]; exact X.here
  have happ : (headSpec ws rm).appliesLoose y e.platform (U.calling g mk a) = true :=
    Spec.appliesLoose_calling (g := g) h hdg hn hkY hinitY
      (X.room_calling (g := g) (R' := (headSpec ws rm).room) hsize hmY hcY hframes (by rw [hlY]; show _ + (maxL + 11) + rm.locals ≤ R.locals; omega) (by show cells + rm.cells ≤ R.cells; rw [hrc]; exact hcs.1) (by show slots + rm.slots ≤ R.slots; rw [hrs]; exact hcs.2)) (atoms_intro fun w hw => hws w hw a)
  obtain ⟨mid, hmid⟩ := h.above
  have hfr : (U.setTop g).frames = (.java g :: mid) ++ below := by rw [State.frames_setTop' g h.top, hmid]; rfl
  obtain ⟨o, s₂, hsteps, -, hend, hq⟩ := Steps.callFree hM p X.admits X.cas X.clock (acts := []) hfr happ (hblind _ _ g mk hp) trivial
  have hq' : Qc a (U.calling g mk a) o s₂ ∧ ∃ L, ab_FE (U.calling g mk a) s₂ L mc ms ∧ ∀ q ∈ L, free q.base := hq
  obtain ⟨hq1, L, ⟨hW₂, e2, q2, q3, q4, q5, q6⟩, hL⟩ := hq'
  rw [State.frames_setTop' g h.top] at hend
  have e3 : s₂ = ({ (U.calling g mk a).setFrames s₂.frames with heap := s₂.heap, slotsUsed := s₂.slotsUsed } : State).setVm s₂.vm := by
    have : s₂ = ({ s₂ with vm := (U.calling g mk a).vm } : State).setVm s₂.vm := rfl
    rw [e2] at this
    exact this
  have hW' : U.WarmedH s₂.vm := hW₂
  obtain ⟨g₀, hg0⟩ := Option.isSome_iff_exists.mp h.top
  obtain ⟨r, hr⟩ := State.topJava?_eq_some.mp hg0
  have hr' : (({ U with heap := s₂.heap, slotsUsed := s₂.slotsUsed } : State).setVm s₂.vm).frames = .java g₀ :: r := hr
  have hsame : U.sameButNew ({ U with heap := s₂.heap, slotsUsed := s₂.slotsUsed } : State) L mc ms := by
    refine ⟨?_, q2, q3, q4, q5, q6⟩
    obtain ⟨t, ht, -⟩ := State.frames_cons hr
    show ({ U with heap := s₂.heap, slotsUsed := s₂.slotsUsed } : State) = { U.setFrames U.frames with heap := s₂.heap, slotsUsed := s₂.slotsUsed }
    rw [State.setFrames_self ht]
  subst hg
  refine ⟨o, s₂, (({ U with heap := s₂.heap, slotsUsed := s₂.slotsUsed } : State).setVm s₂.vm), L,
    ⟨X.admits, X.cas, X.clock, X.frames, X.room, X.hears, X.method, X.code, (X.here.setHeapUsed s₂.heap s₂.slotsUsed).setVm hW'.alike, X.tail, State.WarmedH.trans X.warmed hW', X.limits, X.bytes, X.same.trans (hsame.setVm s.vm)⟩,
    hL, rfl, rfl, hq1, fun v ho => ?_, fun x ho => ?_⟩
  · subst ho
    obtain ⟨c₂, i₂, len₂, hc₂, hd₂, hf₂⟩ := hend
    have hcc : c₂ = c := by
      have h1 : s₂.code? g.method = U.code? g.method := by rw [State.code?_eq, State.code?_eq, hW'.alike.method?]
      exact Option.some.inj (hc₂.symm.trans (h1.trans h.code))
    subst hcc
    have hlen : len₂ = len := by rw [hdg] at hd₂; cases hd₂; rfl
    subst hlen
    have hs₂ : s₂ = (({ U with heap := s₂.heap, slotsUsed := s₂.slotsUsed } : State).setVm s₂.vm).setTop { g with pc := g.pc + len₂, stack := v.toList ++ g.stack } := by
      refine e3.trans ?_
      rw [hf₂, State.calling_eq h.top, State.setFrames_setFrames, State.setTop_of_frames _ hr', hr]
      rfl
    rw [← hs₂]
    exact hsteps
  · subst ho
    have hf₂ : s₂.frames = .throwing x :: .java g :: U.frames.tail := hend
    have hs₂ : s₂ = ((({ U with heap := s₂.heap, slotsUsed := s₂.slotsUsed } : State).setVm s₂.vm).setTop g).pushFrame (.throwing x) := by
      refine e3.trans ?_
      rw [hf₂, State.calling_eq h.top, State.setFrames_setFrames, State.pushFrame, State.frames_setTop _ hr', State.setTop_of_frames _ hr', State.setFrames_setFrames, hr]
      rfl
    rw [← hs₂]
    exact hsteps
end AbV
section AbY
variable {p : Program} {l : Launch} {e : Env} {R : Room} {s : State} {m : MethodId} {args : Array Value} {below : List Frame} {meth : Method} {c : Code} {Q : State → Prop}
variable {cc : ByteArray} {own : String} {nL : Nat} {D : va_G} {ca : Nat → ClassId} {A : Nat → Prop} {H0 : Heap} {cells slots : Nat} {ad : ab_Ad} {N : Nat → Nat} {u : ab_S} {pc : Nat} {lv : List (Nat × ab_V)} {st : List ab_V}
/-- a virtual call that may throw what the first row of the table catches and lays into the local i -/
theorem ab_callT {Post : ab_S → Option ab_V → Prop} {PT : ab_S → String → Prop} (X : ab_X p s m args c cc own nL D ca A H0) {y : MethodName} {cc' : ByteArray} {nL' d' idx c' i n : Nat} {ret' : Option FieldType} {as stk : List ab_V} (hz : ab_Zs ad A s H0) (hC : ab_CT l D ca y cc' nL' ret' d' N u (ab_O c' i :: as) Post PT) (hk : ab_lk own idx y cc' nL' ret' n c') (hd : decode cc pc = .ok (.invokevirtual idx, 3)) (hst : stk = as.reverse ++ ab_O c' i :: st) (hn : as.length = n) (hi : i < N c') (hR : d' + 1 ≤ R.frames ∧ 60 * (d' + 1) ≤ R.locals) (hc : cells + 1 ≤ R.cells ∧ slots + 6 ≤ R.slots) (hw : ab_len st ≤ 8)
    (x : ExceptionTableEntry) (rest : List ExceptionTableEntry) (htab : c.exceptionTable.toList = x :: rest) (hcov : covers x pc = true) (h0 : x.catchType ≠ 0) {name : String} (hcl : Cond.classLink own x.catchType name ∈ ab_T) (hcast : Cond.castable name name ∈ lw_tbl.filter ab_odd) (hPT : ∀ u' E, PT u' E → E = name) {k : Fin 4} {j : Nat} (hda : decode cc x.handlerPc = .ok (.astore_n k, 1)) (hj : (k : Nat) = j) (hjn : j < nL)
    (kk : ∀ (u' : ab_S) (r : Option ab_V), Post u' r → ab_J p l e R s m args below meth c Q D ca A H0 nL (cells + 1) (slots + 6) ad N u' (pc + 3) lv (r.toList ++ st))
    (kt : ∀ u' : ab_S, PT u' name → ab_J p l e R s m args below meth c Q D ca A H0 nL (cells + 1) (slots + 6) ad N u' (x.handlerPc + 1) (ab_ft j lv) []) : ab_J p l e R s m args below meth c Q D ca A H0 nL cells slots ad N u pc lv stk := fun H locs ls hW hS hl => by
  obtain ⟨⟨t0, T0, k0, t1⟩, hws, hy, hnL⟩ := hk
  subst hst; subst hn
  obtain ⟨ws, q0, hP, hD, hq⟩ := hW.at hi
  rw [ab_ent_o t0] at hq
  obtain ⟨cellB, hcB, hoB, hclB⟩ := va_recv X.2.2.2.2.2.1 hP t1 hq
  intro T hT Y
  have w1 : ∀ w ∈ ([.methodLink own idx y, .instanceMethod y, .selects y.cls y y, .initialized y.cls, .code y cc' nL' ret'] : List Cond), w.before args s = true := fun w h => X.2.2.2.2.1 _ (hws w h)
  obtain ⟨mk, methM, hnamed, hmethM, hstM, habM⟩ := Cond.instanceMethod_spec (w1 (.instanceMethod y) (by simp))
  obtain ⟨methM', cM, hmethM', -, -, -, -, -, -, hsigM⟩ := Cond.code_spec hnamed (w1 (.code y cc' nL' ret') (by simp))
  cases hmethM.symm.trans hmethM'
  obtain ⟨c2, r2, m2, q1, q2, q3, q4, kP, hkP, hkPi⟩ := Cond.selects_spec (w1 (.selects y.cls y y) (by simp))
  cases hclB.symm.trans q1
  cases (State.methodFound?_of_named hnamed ⟨hy.1, hy.2.1⟩).symm.trans q2
  cases hnamed.symm.trans q3
  have hselP : selectMethod e.platform s.vm cellB.cls mk = .method mk := by rw [Launch.admits_selectMethod Y.admits]; exact q4
  have hlen : (as.map (ab_cv ad)).length = methM.sig.parameters.length := by
    have h2 := hy.2.2
    rw [hsigM] at h2
    rw [List.length_map]
    exact (Option.some.inj h2).symm
  obtain ⟨vm₁, Y₁, hstep₁⟩ := Y.invokevirtual X.1 X.2.2.2.1 (w1 (.methodLink own idx y) (by simp)) hnamed hmethM hstM hkP hkPi ⟨hy.1, hy.2.1⟩ (a := ad c' i) (cell := cellB) (by rw [hT]; exact hcB)
    (fun z h => by rw [h] at hoB; cases hoB) hselP hmethM habM hkP hkPi (g := F0 m pc ls ((as.reverse ++ ab_O c' i :: st).map (ab_cv ad))) rfl (argsL := as.map (ab_cv ad)) (rest := st.map (ab_cv ad)) hlen (by show (as.reverse ++ ab_O c' i :: st).map (ab_cv ad) = _; rw [List.map_append, List.map_reverse]; rfl) (by rw [X.2.1]; exact hd)
  have hG : ∀ w ∈ (Cond.code y cc' nL' ret' :: ab_T), w ∈ ab_T := fun w h => by
    rcases List.mem_cons.mp h with rfl | h
    · exact hws _ (by simp)
    · exact h
  have hpc : ab_Pc true D ca ad N u H.size (ab_O c' i :: as) (Value.ref (ad c' i) :: as.map (ab_cv ad)).toArray (T.setVm vm₁) := ⟨rfl, by show T.heap.size = _; rw [hT], by show ab_W _ _ _ _ _ _ T.heap; rw [hT]; exact hW.weaken (fun _ _ _ => trivial), va_K.moved Y₁.warmed.alike X.2.2.2.2.2.1, ab_Nw.moved Y₁.warmed X.2.2.2.2.2.2.2, fun _ => by show ab_Zs _ _ _ T.heap; rw [hT]; exact ab_Zs.go X hz hW hS Y₁.warmed⟩
  obtain ⟨o, t, T', L, Y', hL, e1, e2, hQ, go1, go2⟩ := ab_backT (bytes := cc') (maxL := nL') (ret := ret') (len := 3) (hC ad H.size) ab_Pc_blind rfl rfl hR.1 (by show 8 + (nL' + 11) + 60 * d' ≤ R.locals; omega) Y₁
    (fun w h a' => word_at Y₁.warmed (ab_T_good w (hG w h)).2 (X.2.2.2.2.1 w (hG w h))) List.mem_cons_self (fun a' => word_at Y₁.warmed (ab_T_good _ (hws (.initialized y.cls) (by simp))).2 (w1 (.initialized y.cls) (by simp)))
    (g := F0 m pc ls (st.map (ab_cv ad))) (ig := .invokevirtual idx) (mk := mk) rfl (by rw [X.2.2.1]; exact hl.1) (by rw [X.2.1]; exact hd) (lv_room (by rw [ab_wt]; exact hw)) (Y₁.named hnamed) hc hpc
  obtain ⟨hQ1, hk', hz', hkp⟩ := hQ
  have hT1 : ((T.setVm vm₁).calling (F0 m pc ls (st.map (ab_cv ad))) mk (Value.ref (ad c' i) :: as.map (ab_cv ad)).toArray).heap = H := hT
  rw [hT1] at hz' hkp
  have hin : ∀ q : Nat, ab_A ad N H.size q → A q := fun q h => by
    rcases h with ⟨c'', i', hi', rfl⟩ | h
    · exact hW.inA hi'
    · exact X.2.2.2.2.2.2.1 q (Nat.le_trans hS.1 h)
  have hS' : va_S A H0 T'.heap (locs ++ L) := ⟨Nat.le_trans hS.1 (by rw [e1]; exact hz'), fun q h1 h2 => by rw [e1, hkp q (Nat.lt_of_lt_of_le h1 hS.1) (fun z => h2 (hin q z))]; exact hS.2.1 q h1 h2, fun q hq => by
      rcases List.mem_append.mp hq with h | h
      · exact hS.2.2 q h
      · exact hin _ (hL q h)⟩
  rcases hQ1 with ⟨u', r, ho, hp, hw'⟩ | ⟨u', E, a, ce, cE, ho, hp, hw', g1, g2, g3, g4⟩
  · obtain ⟨t2, a1, b1⟩ := kk u' r hp T'.heap (locs ++ L) ls (by rw [e1]; exact hw'.weaken fun c'' i' hi' => hW.inA hi') hS' hl T' rfl Y'
    refine ⟨t2, hstep₁ _ (fun acts => ?_), b1⟩
    rw [doInvoke_state]
    refine (go1 _ ho).trans ?_
    have e4 : (r.map (ab_cv ad)).toList ++ st.map (ab_cv ad) = (r.toList ++ st).map (ab_cv ad) := by cases r <;> simp
    show Steps p.tables e below (T'.setTop { F0 m pc ls (st.map (ab_cv ad)) with pc := pc + 3, stack := (r.map (ab_cv ad)).toList ++ st.map (ab_cv ad) }) t2
    rw [e4]
    exact a1
  · have hE := hPT u' E hp
    subst hE
    have hfE : s.vm.findClass E = some cE := by rw [← Y'.warmed.alike.findClass, e2]; exact g4
    obtain ⟨c3, c4, hc3, hc4, hasg⟩ := Cond.castable_spec (X.2.2.2.2.2.2.2 _ hcast)
    cases hfE.symm.trans hc3
    cases hfE.symm.trans hc4
    obtain ⟨vm', Y2, hcatch⟩ := ab_caught Y' a (g := F0 m pc ls (st.map (ab_cv ad))) rfl X.2.2.2.1 x rest htab hcov h0 (X.2.2.2.2.1 _ hcl) hfE (by rw [e1]; exact g1) (by rw [g2]; rfl) (by rw [g3]; exact hasg)
    have hJ : W p l e R s m args below meth c T'.heap (locs ++ L) (cells + 1) (slots + 6) Q (F0 m x.handlerPc ls [.ref a]) := lv_astore_n X.1 X.2.1 hda hj hl hjn rfl fun ls' h' => kt u' hp T'.heap (locs ++ L) ls' (by rw [e1]; exact hw'.weaken fun c'' i' hi' => hW.inA hi') hS' ⟨h'.1, h'.2.1, fun q hq => h'.2.2 q (List.mem_cons_of_mem _ (by rw [ab_ft_map]; exact hq))⟩
    obtain ⟨t2, a1, b1⟩ := hJ (T'.setVm vm') rfl Y2
    refine ⟨t2, hstep₁ _ (fun acts => ?_), b1⟩
    rw [doInvoke_state]
    exact (go2 _ ho).trans (hcatch _ a1)
end AbY
