/-! Contracts of methods with a table of handlers; the law's own cells. -/
def ab_CW (l : Launch) (D : va_G) (ca : Nat → ClassId) (y : MethodName) (cc : ByteArray) (nL : Nat) (ret : Option FieldType) (hh : List (Nat × Nat × Nat × Nat)) (d : Nat) (N : Nat → Nat) (u : ab_S) (av : List ab_V) (Post : ab_S → Option ab_V → Prop) : Prop :=
  ∀ (ad : ab_Ad) (sz : Nat), Met l y (Cond.codeWith y cc nL ret hh :: ab_T) (ab_rm d 1 6) (ab_Pc true D ca ad N u sz av) (ab_Q D ca ad N sz Post) 1 6 (ab_A ad N sz)
theorem ab_CW.of {l : Launch} {D : va_G} {ca : Nat → ClassId} {y : MethodName} {cc : ByteArray} {nL : Nat} {ret : Option FieldType} {hh : List (Nat × Nat × Nat × Nat)} {d : Nat} {N : Nat → Nat} {u : ab_S} {av : List ab_V} {Post : ab_S → Option ab_V → Prop} (hy : plainName y.cls = true) (hn : ab_len av ≤ nL)
    (body : ∀ (p : Program) (e : Env) (s : State) (m : MethodId) (args : Array Value) (below : List Frame) (meth : Method) (c : Code) (ad : ab_Ad), ab_X p s m args c cc y.cls nL D ca (ab_A ad N s.heap.size) s.heap → ab_Zs ad (ab_A ad N s.heap.size) s s.heap → c.exceptionTable.toList = tableOf hh → meth.sig.returnType = ret → meth.locks = false →
      ab_J p l e (ab_rm d 1 6) s m args below meth c (MQ below (ab_Q D ca ad N s.heap.size Post) args s 1 6 (ab_A ad N s.heap.size)) D ca (ab_A ad N s.heap.size) s.heap nL 0 0 ad N u 0 (ab_args 0 av) []) : ab_CW l D ca y cc nL ret hh d N u av Post := by
  intro ad sz
  refine va_MetW (cc := cc) (maxL := nL) (ret := ret) (hh := hh) hy rfl ?_
  intro p e s m args below meth c s₁ B hml hv
  obtain ⟨rfl, hsz, hW, hK, hNw, hZ⟩ := hv
  subst hsz
  have hts := atoms_spec (ws := Cond.codeWith y cc nL ret hh :: ab_T) B.pre
  rw [lg_entry_eq]
  have hl := lv_entry (av.map (ab_cv ad)) (n := nL) (by rw [ab_len_eq]; exact hn)
  rw [ab_args_map] at hl
  have htb : c.exceptionTable.toList = tableOf hh := by
    obtain ⟨m9, meth', c', hn9, h1, h2, -, -, htab, -⟩ := Cond.codeWith_spec (hts _ List.mem_cons_self)
    cases B.named.symm.trans hn9
    cases B.method.symm.trans h1
    cases (Stand.of_body B).code.symm.trans h2
    rw [← htab, table_eq]
  exact body p e s m _ below meth c ad ⟨B.exec, B.bytes, hml, findClass_of_methodNamed B.named, fun w hw => hts w (List.mem_cons_of_mem _ hw), hK, fun q hq => Or.inr hq, hNw⟩ (hZ rfl) htb B.returns B.notSynchronized s.heap [] _ (hW.weaken fun c i hi => Or.inl ⟨c, i, hi, rfl⟩) va_S.rf hl
section AbZ
variable {p : Program} {l : Launch} {e : Env} {R : Room} {s : State} {m : MethodId} {args : Array Value} {below : List Frame} {meth : Method} {c : Code} {Q : State → Prop}
variable {cc : ByteArray} {own : String} {nL : Nat} {D : va_G} {ca : Nat → ClassId} {A : Nat → Prop} {H0 : Heap} {cells slots : Nat} {ad : ab_Ad} {N : Nat → Nat} {u : ab_S} {pc : Nat} {lv : List (Nat × ab_V)} {st : List ab_V}
theorem ab_callSW {Post : ab_S → Option ab_V → Prop} (X : ab_X p s m args c cc own nL D ca A H0) {y : MethodName} {cc' : ByteArray} {nL' d' idx n : Nat} {ret' : Option FieldType} {hh : List (Nat × Nat × Nat × Nat)} {as stk : List ab_V} (hz : ab_Zs ad A s H0) (hC : ab_CW l D ca y cc' nL' ret' hh d' N u as Post)
    (hws : ∀ w ∈ ([.methodLink own idx y, .static y, .initialized y.cls, .codeWith y cc' nL' ret' hh] : List Cond), w ∈ ab_T) (hy : y.cls ≠ "java/lang/invoke/MethodHandle" ∧ y.cls ≠ "java/lang/invoke/VarHandle" ∧ (parseMethodDescriptor y.desc).map (fun d => d.parameters.length) = some n) (hnL : nL' ≤ 41)
    (hd : decode cc pc = .ok (.invokestatic idx, 3)) (hst : stk = as.reverse ++ st) (hn : as.length = n) (hR : d' + 1 ≤ R.frames ∧ 60 * (d' + 1) ≤ R.locals) (hc : cells + 1 ≤ R.cells ∧ slots + 6 ≤ R.slots) (hw : ab_len st ≤ 8)
    (kk : ∀ (u' : ab_S) (r : Option ab_V), Post u' r → ab_J p l e R s m args below meth c Q D ca A H0 nL (cells + 1) (slots + 6) ad N u' (pc + 3) lv (r.toList ++ st)) : ab_J p l e R s m args below meth c Q D ca A H0 nL cells slots ad N u pc lv stk := fun H locs ls hW hS hl => by
  subst hst; subst hn
  intro T hT Y
  have w1 : ∀ w ∈ ([.methodLink own idx y, .static y, .initialized y.cls, .codeWith y cc' nL' ret' hh] : List Cond), w.before args s = true := fun w h => X.2.2.2.2.1 _ (hws w h)
  obtain ⟨mk, methM, cM, hnamed, hmethM, -, -, -, -, -, -, hsigM⟩ := Cond.codeWith_spec (w1 (.codeWith y cc' nL' ret' hh) (by simp))
  have hstatic : methM.isStatic = true := Cond.static_spec hnamed hmethM (w1 (.static y) (by simp))
  obtain ⟨kP, hkP, -⟩ := className_of_methodNamed hnamed
  have hinitP : kP.init = .initialized := Cond.initialized_spec (findClass_of_methodNamed hnamed) hkP (w1 (.initialized y.cls) (by simp))
  have hlen : (as.map (ab_cv ad)).length = methM.sig.parameters.length := by
    have h2 := hy.2.2
    rw [hsigM] at h2
    rw [List.length_map]
    exact (Option.some.inj h2).symm
  obtain ⟨vm₁, Y₁, hstep₁⟩ := Y.invokestatic X.1 X.2.2.2.1 (w1 (.methodLink own idx y) (by simp)) hnamed hmethM hstatic hkP hinitP ⟨hy.1, hy.2.1⟩ (g := F0 m pc ls ((as.reverse ++ st).map (ab_cv ad))) rfl (argsL := as.map (ab_cv ad)) (rest := st.map (ab_cv ad)) hlen (by show (as.reverse ++ st).map (ab_cv ad) = _; rw [List.map_append, List.map_reverse]) (by rw [X.2.1]; exact hd)
  have hG : ∀ w ∈ (Cond.codeWith y cc' nL' ret' hh :: ab_T), w ∈ ab_T := fun w h => by
    rcases List.mem_cons.mp h with rfl | h
    · exact hws _ (by simp)
    · exact h
  have hpc : ab_Pc true D ca ad N u H.size as (as.map (ab_cv ad)).toArray (T.setVm vm₁) := ⟨rfl, by show T.heap.size = _; rw [hT], by show ab_W _ _ _ _ _ _ T.heap; rw [hT]; exact hW.weaken (fun _ _ _ => trivial), va_K.moved Y₁.warmed.alike X.2.2.2.2.2.1, ab_Nw.moved Y₁.warmed X.2.2.2.2.2.2.2, fun _ => by show ab_Zs _ _ _ T.heap; rw [hT]; exact ab_Zs.go X hz hW hS Y₁.warmed⟩
  have hK : Back l R p e below s args y 3 8 (PreOf R 1 6 (ab_Pc true D ca ad N u H.size as)) (PostOf (ab_Q D ca ad N H.size Post) 1 6 (ab_A ad N H.size)) := va_backW (bytes := cc') (maxL := nL') (ret := ret') (hh := hh) (hC ad H.size) ab_Pc_blind rfl rfl hR.1 (by show 8 + (nL' + 11) + 60 * d' ≤ R.locals; omega)
    (fun w h a' U hU => word_at hU (ab_T_good w (hG w h)).2 (X.2.2.2.2.1 w (hG w h))) List.mem_cons_self (fun a' U hU => word_at hU (ab_T_good _ (hws (.initialized y.cls) (by simp))).2 (w1 (.initialized y.cls) (by simp)))
  obtain ⟨v, ⟨U', l2, c2, s2⟩, Y', ⟨g', mk', t, L, e1, e2, hQ, h1, hL, h2, h3⟩, hsteps⟩ := hK m meth c ⟨T.setVm vm₁, locs, cells, slots⟩ (F0 m pc ls (st.map (ab_cv ad))) (.invokestatic idx) mk (as.map (ab_cv ad)).toArray Y₁ rfl (by rw [X.2.2.1]; exact hl.1) (by rw [X.2.1]; exact hd) (lv_room (by rw [ab_wt]; exact hw)) (Y₁.named hnamed) ⟨hc.1, hc.2, hpc⟩
  dsimp only [Pt.U, Pt.locs, Pt.cells, Pt.slots] at Y' e1 e2 h1 h2 h3 hsteps
  subst h1; subst h2; subst h3
  obtain ⟨⟨u', r, hv, hp, hw', hk'⟩, hz', hkp⟩ := hQ
  cases hv
  have hT1 : ((T.setVm vm₁).calling g' mk' (as.map (ab_cv ad)).toArray).heap = H := hT
  rw [hT1] at hz' hkp
  have hin : ∀ q : Nat, ab_A ad N H.size q → A q := fun q h => by
    rcases h with ⟨c'', i', hi', rfl⟩ | h
    · exact hW.inA hi'
    · exact X.2.2.2.2.2.2.1 q (Nat.le_trans hS.1 h)
  have hS' : va_S A H0 U'.heap (locs ++ L) := ⟨Nat.le_trans hS.1 (by rw [e1]; exact hz'), fun q h1 h2 => by rw [e1, hkp q (Nat.lt_of_lt_of_le h1 hS.1) (fun z => h2 (hin q z))]; exact hS.2.1 q h1 h2, fun q hq => by
      rcases List.mem_append.mp hq with h | h
      · exact hS.2.2 q h
      · exact hin _ (hL q h)⟩
  obtain ⟨t2, a1, b1⟩ := kk u' r hp U'.heap (locs ++ L) ls (by rw [e1]; exact hw'.weaken fun c'' i' hi' => hW.inA hi') hS' hl U' rfl Y'
  refine ⟨t2, hstep₁ _ (fun acts => ?_), b1⟩
  rw [doInvoke_state]
  refine hsteps.trans ?_
  have e4 : (r.map (ab_cv ad)).toList ++ st.map (ab_cv ad) = (r.toList ++ st).map (ab_cv ad) := by cases r <;> simp
  show Steps p.tables e below (U'.setTop { F0 m pc ls (st.map (ab_cv ad)) with pc := pc + 3, stack := (r.map (ab_cv ad)).toList ++ st.map (ab_cv ad) }) t2
  rw [e4]
  exact a1
/-- the law's own script, the cell (23, 0) -/
theorem ab_sld (X : ab_X p s m args c cc own nL D ca A H0) {L : Nat} {xs : Nat → Int32} (hX : va_X (ad 23 0) L xs s H0) (hbl : ad 23 0 < H0.size) (hbA : ¬ A (ad 23 0)) {j : Int32} (n : Nat) (hd : decode cc pc = .ok (.iaload, 1)) (hj : j = nI n) (hn : n < L) (hL : L < 2 ^ 31) (kk : ab_J p l e R s m args below meth c Q D ca A H0 nL cells slots ad N u (pc + 1) lv (ab_I (xs n) :: st)) : ab_J p l e R s m args below meth c Q D ca A H0 nL cells slots ad N u pc lv (ab_I j :: ab_O 23 0 :: st) := fun H locs ls hW hS hl => by
  obtain ⟨hin, hcl⟩ := ab_ix hj hn hL
  exact va_sld X.1 X.2.1 hX hbl hbA hS hin hd (by rw [hcl]; exact kk H locs ls hW hS hl)
theorem ab_slen (X : ab_X p s m args c cc own nL D ca A H0) {L : Nat} {xs : Nat → Int32} (hX : va_X (ad 23 0) L xs s H0) (hbl : ad 23 0 < H0.size) (hbA : ¬ A (ad 23 0)) (hd : decode cc pc = .ok (.arraylength, 1)) (kk : ab_J p l e R s m args below meth c Q D ca A H0 nL cells slots ad N u (pc + 1) lv (ab_I (nI L) :: st)) : ab_J p l e R s m args below meth c Q D ca A H0 nL cells slots ad N u pc lv (ab_O 23 0 :: st) := fun H locs ls hW hS hl =>
  va_slen X.1 X.2.1 hX hbl hbA hS hd (kk H locs ls hW hS hl)
/-- the static table of kinds -/
theorem ab_kget (X : ab_X p s m args c cc own nL D ca A H0) (hz : ab_Zs ad A s s.heap) (hH : H0 = s.heap) {idx : Nat} {host : String} (hlk : Cond.fieldLinkNest own idx "PolicyForge" "KINDS" "[I" host ∈ lw_tbl.filter ab_odd) (hd : decode cc pc = .ok (.getstatic idx, 3)) (kk : ab_J p l e R s m args below meth c Q D ca A H0 nL cells slots ad N u (pc + 3) lv (ab_O 21 0 :: st)) : ab_J p l e R s m args below meth c Q D ca A H0 nL cells slots ad N u pc lv st := fun H locs ls hW hS hl => by
  subst hH
  exact va_getsN X.1 X.2.1 hz.2.2.1 hS X.2.2.2.1 (ab_odd_use rfl (X.2.2.2.2.2.2.2 _ hlk)) (fun _ h => h) hd (kk H locs ls hW hS hl)
theorem ab_kld (X : ab_X p s m args c cc own nL D ca A H0) (hz : ab_Zs ad A s s.heap) (hH : H0 = s.heap) {j : Int32} (n : Nat) (hd : decode cc pc = .ok (.iaload, 1)) (hj : j = nI n) (hn : n < 7) (kk : ab_J p l e R s m args below meth c Q D ca A H0 nL cells slots ad N u (pc + 1) lv (ab_I (ab_kinds n) :: st)) : ab_J p l e R s m args below meth c Q D ca A H0 nL cells slots ad N u pc lv (ab_I j :: ab_O 21 0 :: st) := fun H locs ls hW hS hl => by
  subst hH
  obtain ⟨hin, hcl⟩ := ab_ix hj hn (by decide)
  exact va_ti X.1 X.2.1 hz.2.2.2.1 hS hin rfl hd (by rw [hcl]; exact kk H locs ls hW hS hl)
theorem ab_klen (X : ab_X p s m args c cc own nL D ca A H0) (hz : ab_Zs ad A s s.heap) (hH : H0 = s.heap) (hd : decode cc pc = .ok (.arraylength, 1)) (kk : ab_J p l e R s m args below meth c Q D ca A H0 nL cells slots ad N u (pc + 1) lv (ab_I 7 :: st)) : ab_J p l e R s m args below meth c Q D ca A H0 nL cells slots ad N u pc lv (ab_O 21 0 :: st) := fun H locs ls hW hS hl => by
  subst hH
  exact va_tlen (ty := .int) X.1 X.2.1 hz.2.2.2.1 hS (by decide +kernel) hd (kk H locs ls hW hS hl)
end AbZ
