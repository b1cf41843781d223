/-! Contracts without new cells, their ends, and the calls of them. -/
def ab_A (ad : ab_Ad) (N : Nat → Nat) (sz : Nat) : Nat → Prop := fun q => (∃ c i : Nat, i < N c ∧ q = ad c i) ∨ sz ≤ q
def ab_rm (d mc ms : Nat) : Room := { frames := d, cells := mc, slots := ms, locals := 60 * d }
def ab_Pc (z : Bool) (D : va_G) (ca : Nat → ClassId) (ad : ab_Ad) (N : Nat → Nat) (u : ab_S) (sz : Nat) (av : List ab_V) : Array Value → State → Prop := va_Pc (av.map (ab_cv ad)) fun U => U.heap.size = sz ∧ ab_W D ca ad N u (fun _ => True) U.heap ∧ va_K D vwCl (ab_tys ca) U ∧ ab_Nw U ∧ (z = true → ab_Zs ad (ab_A ad N sz) U U.heap)
def ab_Q (D : va_G) (ca : Nat → ClassId) (ad : ab_Ad) (N : Nat → Nat) (sz : Nat) (Post : ab_S → Option ab_V → Prop) : Array Value → State → Outcome → State → Prop := fun _ st oc t => (∃ (u' : ab_S) (r : Option ab_V), oc = .returned (r.map (ab_cv ad)) ∧ Post u' r ∧ ab_W D ca ad N u' (fun _ => True) t.heap ∧ va_K D vwCl (ab_tys ca) t) ∧ va_F (ab_A ad N sz) st t
/-- the contract of a method that makes no cell: from the state u, with the arguments av, it returns, and Post -/
def ab_C (z : Bool) (l : Launch) (D : va_G) (ca : Nat → ClassId) (y : MethodName) (cc : ByteArray) (nL : Nat) (ret : Option FieldType) (d : Nat) (N : Nat → Nat) (u : ab_S) (av : List ab_V) (Post : ab_S → Option ab_V → Prop) : Prop :=
  ∀ (ad : ab_Ad) (sz : Nat), Met l y (Cond.code y cc nL ret :: ab_T) (ab_rm d 0 0) (ab_Pc z D ca ad N u sz av) (ab_Q D ca ad N sz Post) 0 0 (ab_A ad N sz)
theorem ab_Zs.go {p : Program} {s U : State} {m : MethodId} {args : Array Value} {c : Code} {cc : ByteArray} {own : String} {nL : Nat} {D : va_G} {ca : Nat → ClassId} {A : Nat → Prop} {H0 H : Heap} {ad : ab_Ad} {N : Nat → Nat} {u : ab_S} {locs : List Loc} (X : ab_X p s m args c cc own nL D ca A H0) (hZ : ab_Zs ad A s H0) (hW : ab_W D ca ad N u A H) (hS : va_S A H0 H locs) (hU : s.WarmedH U.vm) : ab_Zs ad (ab_A ad N H.size) U H :=
  ((hZ.kept hS.2.1).narrow fun q h => by
    rcases h with ⟨c', i', hi', rfl⟩ | h
    · exact hW.inA hi'
    · exact X.2.2.2.2.2.2.1 q (Nat.le_trans hS.1 h)).moved hU
theorem ab_Pc_blind {z : Bool} {D : va_G} {ca : Nat → ClassId} {ad : ab_Ad} {N : Nat → Nat} {u : ab_S} {sz : Nat} {av : List ab_V} : FrameBlind (ab_Pc z D ca ad N u sz av) := fun a U g mk q => by
  obtain ⟨q0, q1, q2, q3, q5, q4⟩ := q
  exact ⟨q0, q1, q2, va_K.moved (u := U) (U := U.calling g mk a) (Vm.Alike.refl U.vm) q3, ab_Nw.moved (u := U) (U := U.calling g mk a) (State.WarmedH.refl U) q5, fun h => ab_Zs.moved (u := U) (U := U.calling g mk a) (State.WarmedH.refl U) (q4 h)⟩
def ab_args : Nat → List ab_V → List (Nat × ab_V)
  | _, [] => []
  | i, v :: vs => (i, v) :: ab_args (if ab_is2 v = true then i + 2 else i + 1) vs
def ab_len : List ab_V → Nat
  | [] => 0
  | v :: vs => (if ab_is2 v = true then 2 else 1) + ab_len vs
theorem ab_cat2 (ad : ab_Ad) (v : ab_V) : ((ab_cv ad v).category = 2) ↔ ab_is2 v = true := by
  rw [← ab_cat ad v]; simp
theorem ab_args_map (ad : ab_Ad) : ∀ (vs : List ab_V) (i : Nat), lv_args i (vs.map (ab_cv ad)) = (ab_args i vs).map fun q => (q.1, ab_cv ad q.2)
  | [], _ => rfl
  | v :: vs, i => by
    show (i, ab_cv ad v) :: lv_args (if (ab_cv ad v).category = 2 then i + 2 else i + 1) (vs.map (ab_cv ad)) = (i, ab_cv ad v) :: _
    congr 1
    rw [ab_args_map ad vs]
    congr 2
    by_cases h : ab_is2 v = true
    · rw [if_pos h, if_pos ((ab_cat2 ad v).mpr h)]
    · rw [if_neg h, if_neg (fun q => h ((ab_cat2 ad v).mp q))]
theorem ab_len_eq (ad : ab_Ad) : ∀ vs : List ab_V, (lg_sl (vs.map (ab_cv ad))).length = ab_len vs
  | [] => rfl
  | v :: vs => by
    have ih := ab_len_eq ad vs
    have e : lg_sl ((v :: vs).map (ab_cv ad)) = (if (ab_cv ad v).category = 2 then [Slot.val (ab_cv ad v), Slot.second] else [Slot.val (ab_cv ad v)]) ++ lg_sl (vs.map (ab_cv ad)) := rfl
    rw [e, List.length_append, ih]
    show _ = (if ab_is2 v = true then 2 else 1) + ab_len vs
    by_cases h : ab_is2 v = true
    · rw [if_pos h, if_pos ((ab_cat2 ad v).mpr h)]; rfl
    · rw [if_neg h, if_neg (fun q => h ((ab_cat2 ad v).mp q))]; rfl
theorem ab_C.of {z : Bool} {l : Launch} {D : va_G} {ca : Nat → ClassId} {y : MethodName} {cc : ByteArray} {nL : Nat} {ret : Option FieldType} {d : Nat} {N : Nat → Nat} {u : ab_S} {av : List ab_V} {Post : ab_S → Option ab_V → Prop} (hy : plainName y.cls = true) (hn : ab_len av ≤ nL)
    (body : ∀ (p : Program) (e : Env) (s : State) (m : MethodId) (args : Array Value) (below : List Frame) (meth : Method) (c : Code) (ad : ab_Ad), ab_X p s m args c cc y.cls nL D ca (ab_A ad N s.heap.size) s.heap → (z = true → ab_Zs ad (ab_A ad N s.heap.size) s s.heap) → meth.sig.returnType = ret → meth.locks = false →
      ab_J p l e (ab_rm d 0 0) s m args below meth c (MQ below (ab_Q D ca ad N s.heap.size Post) args s 0 0 (ab_A ad N s.heap.size)) D ca (ab_A ad N s.heap.size) s.heap nL 0 0 ad N u 0 (ab_args 0 av) []) : ab_C z l D ca y cc nL ret d N u av Post := by
  intro ad sz
  refine Met.ofW (cc := cc) (maxL := nL) (ret := ret) hy rfl ?_
  intro p e s m args below meth c s₁ B hml hv
  obtain ⟨rfl, hsz, hW, hK, hNw, hZ⟩ := hv
  subst hsz
  have hts := atoms_spec (ws := Cond.code y cc nL ret :: ab_T) B.pre
  rw [lg_entry_eq]
  have hl := lv_entry (av.map (ab_cv ad)) (n := nL) (by rw [ab_len_eq]; exact hn)
  rw [ab_args_map] at hl
  exact body p e s m _ below meth c ad ⟨B.exec, B.bytes, hml, findClass_of_methodNamed B.named, fun w hw => hts w (List.mem_cons_of_mem _ hw), hK, fun q hq => Or.inr hq, hNw⟩ hZ B.returns B.notSynchronized s.heap [] _ (hW.weaken fun c i hi => Or.inl ⟨c, i, hi, rfl⟩) va_S.rf hl
section AbR
variable {p : Program} {l : Launch} {e : Env} {R : Room} {s : State} {m : MethodId} {args : Array Value} {below : List Frame} {meth : Method} {c : Code} {Q : State → Prop}
variable {cc : ByteArray} {own : String} {nL : Nat} {D : va_G} {ca : Nat → ClassId} {A : Nat → Prop} {H0 : Heap} {cells slots : Nat} {ad : ab_Ad} {N : Nat → Nat} {u : ab_S} {pc : Nat} {lv : List (Nat × ab_V)} {st : List ab_V} {Post : ab_S → Option ab_V → Prop}
theorem ab_reti (X : ab_X p s m args c cc own nL D ca (ab_A ad N s.heap.size) s.heap) (hr : meth.sig.returnType = some .int) (hlk : meth.locks = false) {v : Int32} (hd : decode cc pc = .ok (.ireturn, 1)) (hP : Post u (some (ab_I v))) : ab_J p l e R s m args below meth c (MQ below (ab_Q D ca ad N s.heap.size Post) args s cells slots (ab_A ad N s.heap.size)) D ca (ab_A ad N s.heap.size) s.heap nL cells slots ad N u pc lv [ab_I v] :=
  fun H locs ls hW hS hl => W.iret X.1 X.2.1 hr (fun t ht hWt => ⟨⟨u, some (ab_I v), rfl, hP, by rw [ht]; exact hW.weaken (fun _ _ _ => trivial), va_K.moved hWt.alike X.2.2.2.2.2.1⟩, hS.F ht⟩) hS.2.2 hd hlk
theorem ab_retz (X : ab_X p s m args c cc own nL D ca (ab_A ad N s.heap.size) s.heap) (hr : meth.sig.returnType = some .boolean) (hlk : meth.locks = false) {v : Int32} (hv : v = 0 ∨ v = 1) (hd : decode cc pc = .ok (.ireturn, 1)) (hP : Post u (some (ab_I v))) : ab_J p l e R s m args below meth c (MQ below (ab_Q D ca ad N s.heap.size Post) args s cells slots (ab_A ad N s.heap.size)) D ca (ab_A ad N s.heap.size) s.heap nL cells slots ad N u pc lv [ab_I v] :=
  fun H locs ls hW hS hl => W.zret X.1 X.2.1 hr (by rcases hv with rfl | rfl <;> decide +kernel) (fun t ht hWt => ⟨⟨u, some (ab_I v), rfl, hP, by rw [ht]; exact hW.weaken (fun _ _ _ => trivial), va_K.moved hWt.alike X.2.2.2.2.2.1⟩, hS.F ht⟩) hS.2.2 hd hlk
theorem ab_retl (X : ab_X p s m args c cc own nL D ca (ab_A ad N s.heap.size) s.heap) (hr : meth.sig.returnType = some .long) (hlk : meth.locks = false) {v : Int64} (hd : decode cc pc = .ok (.lreturn, 1)) (hP : Post u (some (ab_L v))) : ab_J p l e R s m args below meth c (MQ below (ab_Q D ca ad N s.heap.size Post) args s cells slots (ab_A ad N s.heap.size)) D ca (ab_A ad N s.heap.size) s.heap nL cells slots ad N u pc lv [ab_L v] :=
  fun H locs ls hW hS hl => W.lret X.1 X.2.1 hr (fun t ht hWt => ⟨⟨u, some (ab_L v), rfl, hP, by rw [ht]; exact hW.weaken (fun _ _ _ => trivial), va_K.moved hWt.alike X.2.2.2.2.2.1⟩, hS.F ht⟩) hS.2.2 hd hlk
theorem ab_retr (X : ab_X p s m args c cc own nL D ca (ab_A ad N s.heap.size) s.heap) {C : String} (hr : meth.sig.returnType = some (.object C)) (hlk : meth.locks = false) {r : Option (Nat × Nat)} (hd : decode cc pc = .ok (.areturn, 1)) (hP : Post u (some (ab_R r))) : ab_J p l e R s m args below meth c (MQ below (ab_Q D ca ad N s.heap.size Post) args s cells slots (ab_A ad N s.heap.size)) D ca (ab_A ad N s.heap.size) s.heap nL cells slots ad N u pc lv [ab_R r] :=
  fun H locs ls hW hS hl => W.aret X.1 X.2.1 hr (Or.inl ⟨C, rfl⟩) (va_rf_or _) (fun t ht hWt => ⟨⟨u, some (ab_R r), rfl, hP, by rw [ht]; exact hW.weaken (fun _ _ _ => trivial), va_K.moved hWt.alike X.2.2.2.2.2.1⟩, hS.F ht⟩) hS.2.2 hd hlk
theorem ab_retv (X : ab_X p s m args c cc own nL D ca (ab_A ad N s.heap.size) s.heap) (hr : meth.sig.returnType = none) (hlk : meth.locks = false) (hd : decode cc pc = .ok (.return_, 1)) (hP : Post u none) : ab_J p l e R s m args below meth c (MQ below (ab_Q D ca ad N s.heap.size Post) args s cells slots (ab_A ad N s.heap.size)) D ca (ab_A ad N s.heap.size) s.heap nL cells slots ad N u pc lv [] :=
  fun H locs ls hW hS hl => W.vret X.1 X.2.1 hr (fun t ht hWt => ⟨⟨u, none, rfl, hP, by rw [ht]; exact hW.weaken (fun _ _ _ => trivial), va_K.moved hWt.alike X.2.2.2.2.2.1⟩, hS.F ht⟩) hS.2.2 hd hlk
/-- behind a call -/
theorem ab_after {a : Array Value} {H : Heap} {locs : List Loc} {ls : Array Slot} {stk : List Value} (X : ab_X p s m args c cc own nL D ca A H0) (hW : ab_W D ca ad N u A H) (hS : va_S A H0 H locs) (hl : lv_has ls nL (lv.map fun q => (q.1, ab_cv ad q.2)))
    (hr : va_Run p l e R s m args below meth c H locs cells slots 0 0 (F0 m pc ls stk) (st.map (ab_cv ad)) (ab_Q D ca ad N H.size Post a) (ab_A ad N H.size))
    (kk : ∀ (u' : ab_S) (r : Option ab_V), Post u' r → ab_J p l e R s m args below meth c Q D ca A H0 nL cells slots ad N u' (pc + 3) lv (r.toList ++ st)) : W p l e R s m args below meth c H locs cells slots Q (F0 m pc ls stk) := by
  intro T hT Y
  obtain ⟨v, st₀, t, T', L, h0, Y', hL, e1, e2, ⟨⟨u', r, hv, hp, hw, hk'⟩, hz, hk⟩, go⟩ := hr T hT Y
  cases hv
  rw [h0] at hz hk
  have hin : ∀ q : Nat, ab_A ad N H.size q → A q := fun q h => by
    rcases h with ⟨c', i', hi', rfl⟩ | h
    · exact hW.inA hi'
    · exact X.2.2.2.2.2.2.1 q (Nat.le_trans hS.1 h)
  have hS' : va_S A H0 T'.heap (locs ++ L) := ⟨Nat.le_trans hS.1 (by rw [e1]; exact hz), fun q h1 h2 => by rw [e1, hk q (Nat.lt_of_lt_of_le h1 hS.1) (fun z => h2 (hin q z))]; exact hS.2.1 q h1 h2, fun q hq => by
      rcases List.mem_append.mp hq with h | h
      · exact hS.2.2 q h
      · exact hin _ (hL q h)⟩
  obtain ⟨t2, a1, b1⟩ := kk u' r hp T'.heap (locs ++ L) ls (by rw [e1]; exact hw.weaken fun c' i' hi' => hW.inA hi') hS' hl T' rfl Y'
  refine ⟨t2, go t2 ?_, b1⟩
  have e : (r.map (ab_cv ad)).toList ++ st.map (ab_cv ad) = (r.toList ++ st).map (ab_cv ad) := by cases r <;> simp
  rw [e]
  exact a1
theorem ab_wt (ad : ab_Ad) : ∀ vs : List ab_V, ((vs.map (ab_cv ad)).map fun v => v.category).sum = ab_len vs
  | [] => rfl
  | v :: vs => by
    have ih := ab_wt ad vs
    simp only [List.map_cons, List.sum_cons, ab_len]
    rw [ih]
    congr 1
    by_cases h : ab_is2 v = true
    · rw [if_pos h]; exact (ab_cat2 ad v).mpr h
    · rw [if_neg h]; exact ab_cat1 (by simpa using h)
/-- the static facts of a virtual call: the receiver is of the kind c' -/
def ab_lk (own : String) (idx : Nat) (y : MethodName) (cc' : ByteArray) (nL' : Nat) (ret' : Option FieldType) (n c' : Nat) : Prop :=
  (ab_tag c' = 0 ∧ ∃ (T : u_T) (k : Nat), vwCl[ab_ci c']? = some (y.cls, T, k)) ∧ (∀ w ∈ ([.methodLink own idx y, .instanceMethod y, .selects y.cls y y, .initialized y.cls, .code y cc' nL' ret'] : List Cond), w ∈ ab_T) ∧
  (y.cls ≠ "java/lang/invoke/MethodHandle" ∧ y.cls ≠ "java/lang/invoke/VarHandle" ∧ (parseMethodDescriptor y.desc).map (fun d => d.parameters.length) = some n) ∧ nL' ≤ 41
theorem ab_callV {z : Bool} (X : ab_X p s m args c cc own nL D ca A H0) {y : MethodName} {cc' : ByteArray} {nL' d' idx c' i n : Nat} {ret' : Option FieldType} {as stk : List ab_V} (hz : z = true → ab_Zs ad A s H0) (hC : ab_C z l D ca y cc' nL' ret' d' N u (ab_O c' i :: as) Post) (hk : ab_lk own idx y cc' nL' ret' n c') (hd : decode cc pc = .ok (.invokevirtual idx, 3)) (hst : stk = as.reverse ++ ab_O c' i :: st) (hn : as.length = n) (hi : i < N c') (hR : d' + 1 ≤ R.frames ∧ 60 * (d' + 1) ≤ R.locals) (hc : cells ≤ R.cells ∧ slots ≤ R.slots) (hw : ab_len st ≤ 8)
    (kk : ∀ (u' : ab_S) (r : Option ab_V), Post u' r → ab_J p l e R s m args below meth c Q D ca A H0 nL cells slots ad N u' (pc + 3) lv (r.toList ++ st)) : ab_J p l e R s m args below meth c Q D ca A H0 nL cells slots ad N u pc lv stk := fun H locs ls hW hS hl => by
  obtain ⟨⟨h0, T, k, h1⟩, hws, hy, hnL⟩ := hk
  subst hst; subst hn
  obtain ⟨ws, q0, hP, hD, hq⟩ := hW.at hi
  rw [ab_ent_o h0] at hq
  have hp : PreV s H y.cls (ad c' i) (ab_Pc z D ca ad N u H.size (ab_O c' i :: as)) (as.map (ab_cv ad)) := ⟨ab_Pc_blind, va_recv X.2.2.2.2.2.1 hP h1 hq, fun U hU hWU => ⟨rfl, by rw [hU], by rw [hU]; exact hW.weaken (fun _ _ _ => trivial), va_K.moved hWU.alike X.2.2.2.2.2.1, ab_Nw.moved hWU X.2.2.2.2.2.2.2, fun h => by rw [hU]; exact ab_Zs.go X (hz h) hW hS hWU⟩⟩
  have hG : GoodIn ab_T (wsV own idx y.cls y (Cond.code y cc' nL' ret' :: ab_T)) := fun w h => by
    refine ab_T_good w ?_
    rcases List.mem_append.mp h with h | h
    · exact hws w (List.mem_append_left [Cond.code y cc' nL' ret'] h)
    · rcases List.mem_cons.mp h with rfl | h
      · exact hws _ (by simp)
      · exact h
  have cw : CallW R s args own y.cls idx y cc' nL' ret' (Cond.code y cc' nL' ret' :: ab_T) (ab_rm d' 0 0) 0 0 as.length := cwV as.length X.2.2.2.2.1 hG rfl rfl rfl ⟨rfl, hy⟩ ⟨hR.1, by show 8 + (nL' + 11) + 60 * d' ≤ R.locals; omega⟩
  exact ab_after X hW hS hl (va_runV ⟨X.1, X.2.1, X.2.2.1, X.2.2.2.1, X.2.2.2.2.1⟩ (hC ad H.size) cw hp rfl (by simp) hl.1 (by show (as.reverse ++ ab_O c' i :: st).map (ab_cv ad) = _; rw [List.map_append, List.map_reverse]; rfl) (lv_room (by rw [ab_wt]; exact hw)) hd hc) kk
/-- the static facts of a static call -/
def ab_ls (own : String) (idx : Nat) (y : MethodName) (cc' : ByteArray) (nL' : Nat) (ret' : Option FieldType) (n : Nat) : Prop :=
  (∀ w ∈ ([.methodLink own idx y, .static y, .initialized y.cls, .code y cc' nL' ret'] : List Cond), w ∈ ab_T) ∧
  (y.cls ≠ "java/lang/invoke/MethodHandle" ∧ y.cls ≠ "java/lang/invoke/VarHandle" ∧ (parseMethodDescriptor y.desc).map (fun d => d.parameters.length) = some n) ∧ nL' ≤ 41
theorem ab_callS {z : Bool} (X : ab_X p s m args c cc own nL D ca A H0) {y : MethodName} {cc' : ByteArray} {nL' d' idx n : Nat} {ret' : Option FieldType} {as stk : List ab_V} (hz : z = true → ab_Zs ad A s H0) (hC : ab_C z l D ca y cc' nL' ret' d' N u as Post) (hk : ab_ls own idx y cc' nL' ret' n) (hd : decode cc pc = .ok (.invokestatic idx, 3)) (hst : stk = as.reverse ++ st) (hn : as.length = n) (hR : d' + 1 ≤ R.frames ∧ 60 * (d' + 1) ≤ R.locals) (hc : cells ≤ R.cells ∧ slots ≤ R.slots) (hw : ab_len st ≤ 8)
    (kk : ∀ (u' : ab_S) (r : Option ab_V), Post u' r → ab_J p l e R s m args below meth c Q D ca A H0 nL cells slots ad N u' (pc + 3) lv (r.toList ++ st)) : ab_J p l e R s m args below meth c Q D ca A H0 nL cells slots ad N u pc lv stk := fun H locs ls hW hS hl => by
  obtain ⟨hws, hy, hnL⟩ := hk
  subst hst; subst hn
  have hp : PreS s H (ab_Pc z D ca ad N u H.size as) (as.map (ab_cv ad)) := ⟨ab_Pc_blind, fun U hU hWU => ⟨rfl, by rw [hU], by rw [hU]; exact hW.weaken (fun _ _ _ => trivial), va_K.moved hWU.alike X.2.2.2.2.2.1, ab_Nw.moved hWU X.2.2.2.2.2.2.2, fun h => by rw [hU]; exact ab_Zs.go X (hz h) hW hS hWU⟩⟩
  have hG : GoodIn ab_T (Cond.code y cc' nL' ret' :: ab_T) := fun w h => by
    refine ab_T_good w ?_
    rcases List.mem_cons.mp h with rfl | h
    · exact hws _ (by simp)
    · exact h
  have cb : CallB R s args own idx y cc' nL' ret' (Cond.code y cc' nL' ret' :: ab_T) (ab_rm d' 0 0) 0 0 as.length := callB_of as.length X.2.2.2.2.1 hG rfl rfl rfl (X.2.2.2.2.1 _ (hws _ (by simp))) (X.2.2.2.2.1 _ (hws _ (by simp))) hy ⟨hR.1, by show 8 + (nL' + 11) + 60 * d' ≤ R.locals; omega⟩
  exact ab_after X hW hS hl (va_runS ⟨X.1, X.2.1, X.2.2.1, X.2.2.2.1, X.2.2.2.2.1⟩ (hC ad H.size) ⟨cb, X.2.2.2.2.1 _ (hws _ (by simp))⟩ hp rfl (by simp) hl.1 (by show (as.reverse ++ st).map (ab_cv ad) = _; rw [List.map_append, List.map_reverse]) (lv_room (by rw [ab_wt]; exact hw)) hd hc) kk
end AbR
