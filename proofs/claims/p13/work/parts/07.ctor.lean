/-! Constructors: contracts that make cells. -/
def ab_QA (D : va_G) (ca : Nat → ClassId) (ad : ab_Ad) (N N' : Nat → Nat) (sz : Nat) (Post : ab_S → Prop) : Array Value → State → Outcome → State → Prop := fun _ st oc t => (∃ (ad' : ab_Ad) (u' : ab_S), oc = .returned none ∧ ab_ex N ad ad' ∧ Post u' ∧ ab_W D ca ad' N' u' (ab_A ad N sz) t.heap ∧ va_K D vwCl (ab_tys ca) t) ∧ va_F (ab_A ad N sz) st t
def ab_CA (l : Launch) (D : va_G) (ca : Nat → ClassId) (y : MethodName) (cc : ByteArray) (nL d mc ms : Nat) (N : Nat → Nat) (u : ab_S) (av : List ab_V) (N' : Nat → Nat) (Post : ab_S → Prop) : Prop :=
  ∀ (ad : ab_Ad) (sz : Nat), Met l y (Cond.code y cc nL none :: ab_T) (ab_rm d mc ms) (ab_Pc false D ca ad N u sz av) (ab_QA D ca ad N N' sz Post) mc ms (ab_A ad N sz)
theorem ab_CA.of {l : Launch} {D : va_G} {ca : Nat → ClassId} {y : MethodName} {cc : ByteArray} {nL d mc ms : Nat} {N N' : Nat → Nat} {u : ab_S} {av : List ab_V} {Post : ab_S → Prop} (hy : plainName y.cls = true) (hyn : y.name = "<init>") (hn : ab_len av ≤ nL)
    (body : ∀ (p : Program) (e : Env) (s : State) (m : MethodId) (args : Array Value) (below : List Frame) (meth : Method) (c : Code) (ad : ab_Ad), ab_X p s m args c cc y.cls nL D ca (ab_A ad N s.heap.size) s.heap → meth.sig.returnType = none → meth.locks = false → meth.name = "<init>" →
      ab_J p l e (ab_rm d mc ms) s m args below meth c (MQ below (ab_QA D ca ad N N' s.heap.size Post) args s mc ms (ab_A ad N s.heap.size)) D ca (ab_A ad N s.heap.size) s.heap nL 0 0 ad N u 0 (ab_args 0 av) []) : ab_CA l D ca y cc nL d mc ms N u av N' Post := by
  intro ad sz
  refine Met.ofW (cc := cc) (maxL := nL) (ret := none) hy rfl ?_
  intro p e s m args below meth c s₁ B hml hv
  obtain ⟨rfl, hsz, hW, hK, hNw, -⟩ := hv
  subst hsz
  have hts := atoms_spec (ws := Cond.code y cc nL none :: ab_T) B.pre
  rw [lg_entry_eq]
  have hl := lv_entry (av.map (ab_cv ad)) (n := nL) (by rw [ab_len_eq]; exact hn)
  rw [ab_args_map] at hl
  exact body p e s m _ below meth c ad ⟨B.exec, B.bytes, hml, findClass_of_methodNamed B.named, fun w hw => hts w (List.mem_cons_of_mem _ hw), hK, fun q hq => Or.inr hq, hNw⟩ B.returns B.notSynchronized (by rw [(name_of_methodNamed B.named B.method).1]; exact hyn) s.heap [] _ (hW.weaken fun c i hi => Or.inl ⟨c, i, hi, rfl⟩) va_S.rf hl
/-- a final field, in the constructor -/
def ab_fF (own : String) (idx c k t : Nat) (ty : FieldType) : Prop := ab_tag c = 0 ∧ ∃ (C : String) (T : u_T) (n : Nat) (ty0 : Nat → FieldType), vwCl[ab_ci c]? = some (C, T, n) ∧ (∀ w ∈ u_ws C T n, w ∈ ab_T) ∧ k < n ∧ (ab_ts c)[k]? = some t ∧ Cond.fieldLink own idx (T k).1 (T k).2.1 (T k).2.2.1 ∈ ab_T ∧ (∀ k, k < n → parseFieldDescriptor (T k).2.2.1 = some (ty0 k)) ∧ (∀ a, a < n → ∀ b, b < n → a ≠ b → (T a).2.1 ≠ (T b).2.1) ∧ (T k).2.2.2 = true ∧ (T k).1 = own ∧ ty0 k = ty
section AbK
variable {p : Program} {l : Launch} {e : Env} {R : Room} {s : State} {m : MethodId} {args : Array Value} {below : List Frame} {meth : Method} {c : Code} {Q : State → Prop}
variable {cc : ByteArray} {own : String} {nL : Nat} {D : va_G} {ca : Nat → ClassId} {A : Nat → Prop} {H0 : Heap} {cells slots : Nat} {ad ad0 : ab_Ad} {N N0 N' : Nat → Nat} {u : ab_S} {pc : Nat} {lv : List (Nat × ab_V)} {st : List ab_V} {Post : ab_S → Prop}
theorem ab_putFI (X : ab_X p s m args c cc own nL D ca A H0) {idx c' k i : Nat} {ty : FieldType} {v : Int32} (hf : ab_fF own idx c' k 0 ty) (hin : meth.name = "<init>") (hd : decode cc pc = .ok (.putfield idx, 3)) (hi : i < N c') (hn : narrow ty (.int v) = .int v) (hft : fits ty (.int v) = true) (kk : ab_J p l e R s m args below meth c Q D ca A H0 nL cells slots ad N (ab_ui u c' i k v) (pc + 3) lv st) : ab_J p l e R s m args below meth c Q D ca A H0 nL cells slots ad N u pc lv (ab_I v :: ab_O c' i :: st) := fun H locs ls hW hS hl => by
  obtain ⟨h0, C, T, n, ty0, h1, h2, h3, h4, h5, h6, h7, h8, h9, h10⟩ := hf
  obtain ⟨ws, q0, hP, hD, hk, -, hset⟩ := hW.put hi
  rw [ab_ent_o h0] at hk
  refine va_putF X.1 X.2.1 X.2.2.2.2.1 h2 ty0 h6 h7 X.2.2.2.1 X.2.2.2.2.2.1 hP hD hS q0 hk h1 k h3 (X.2.2.2.2.1 _ h5) (fun _ h => h) h8 hin h9 (by rw [h6 k h3, h10]) hn hft (by rw [ab_fs_len]; exact (List.getElem?_eq_some_iff.mp h4).1) hd (fun H1 locs1 hP1 hD1 hS1 => kk H1 locs1 ls (hset H1 _ _ hP1 hD1 ?_ fun c2 i2 h => ab_ent_ui h) hS1 hl)
  rw [ab_ent_o h0, ab_fs_set h4]
  · simp [ab_fv, ab_up, ab_cv]
  · intro j t' hj
    have e : ab_up u.1 c' i k v c' i j = u.1 c' i j := ab_up_n _ _ fun q => hj q.2.2
    simp only [ab_fv, e]
theorem ab_putFR (X : ab_X p s m args c cc own nL D ca A H0) {idx c' k i : Nat} {ty : FieldType} {r : Option (Nat × Nat)} (hf : ab_fF own idx c' k 1 ty) (hty : (∃ C, ty = .object C) ∨ ∃ t, ty = .array t) (hin : meth.name = "<init>") (hd : decode cc pc = .ok (.putfield idx, 3)) (hi : i < N c') (kk : ab_J p l e R s m args below meth c Q D ca A H0 nL cells slots ad N (ab_ur u c' i k r) (pc + 3) lv st) : ab_J p l e R s m args below meth c Q D ca A H0 nL cells slots ad N u pc lv (ab_R r :: ab_O c' i :: st) := fun H locs ls hW hS hl => by
  obtain ⟨h0, C, T, n, ty0, h1, h2, h3, h4, h5, h6, h7, h8, h9, h10⟩ := hf
  obtain ⟨ws, q0, hP, hD, hk, -, hset⟩ := hW.put hi
  rw [ab_ent_o h0] at hk
  refine va_putF X.1 X.2.1 X.2.2.2.2.1 h2 ty0 h6 h7 X.2.2.2.1 X.2.2.2.2.2.1 hP hD hS q0 hk h1 k h3 (X.2.2.2.2.1 _ h5) (fun _ h => h) h8 hin h9 (by rw [h6 k h3, h10]) (by rcases hty with ⟨_, rfl⟩ | ⟨_, rfl⟩ <;> cases r <;> rfl) (by rcases hty with ⟨_, rfl⟩ | ⟨_, rfl⟩ <;> cases r <;> rfl) (by rw [ab_fs_len]; exact (List.getElem?_eq_some_iff.mp h4).1) hd (fun H1 locs1 hP1 hD1 hS1 => kk H1 locs1 ls (hset H1 _ _ hP1 hD1 ?_ fun c2 i2 h => ab_ent_ur h) hS1 hl)
  rw [ab_ent_o h0, ab_fs_set h4]
  · simp [ab_fv, ab_up, ab_cv]
  · intro j t' hj
    have e : ab_up u.2.1 c' i k r c' i j = u.2.1 c' i j := ab_up_n _ _ fun q => hj q.2.2
    simp only [ab_fv, e]
theorem ab_objInit (X : ab_X p s m args c cc own nL D ca A H0) {idx c' i : Nat} (hw : ∀ w ∈ ([.methodLink own idx objectInit, .instanceMethod objectInit, .code objectInit ⟨#[0xb1]⟩ 1 none] : List Cond), w ∈ ab_T) (hd : decode cc pc = .ok (.invokespecial idx, 3)) (hR : 1 ≤ R.frames ∧ 20 ≤ R.locals) (hst : ab_len st ≤ 8) (kk : ab_J p l e R s m args below meth c Q D ca A H0 nL cells slots ad N u (pc + 3) lv st) : ab_J p l e R s m args below meth c Q D ca A H0 nL cells slots ad N u pc lv (ab_O c' i :: st) := fun H locs ls hW hS hl =>
  W.objInit X.1 X.2.1 X.2.2.2.1 (X.2.2.2.2.1 _ (hw _ (by simp))) (X.2.2.2.2.1 _ (hw _ (by simp))) (X.2.2.2.2.1 _ (hw _ (by simp))) rfl (by rw [X.2.2.1]; exact hl.1) rfl hd hR.1 (by
    have h1 := ab_wt ad st
    show 2 * 0 + _ + 12 ≤ R.locals
    rw [h1]
    omega) (kk H locs ls hW hS hl)
theorem ab_retA (X : ab_X p s m args c cc own nL D ca (ab_A ad0 N0 s.heap.size) s.heap) (hr : meth.sig.returnType = none) (hlk : meth.locks = false) (hx : ab_ex N0 ad0 ad) (hd : decode cc pc = .ok (.return_, 1)) (hP : Post u) : ab_J p l e R s m args below meth c (MQ below (ab_QA D ca ad0 N0 N s.heap.size Post) args s cells slots (ab_A ad0 N0 s.heap.size)) D ca (ab_A ad0 N0 s.heap.size) s.heap nL cells slots ad N u pc lv [] :=
  fun H locs ls hW hS hl => W.vret X.1 X.2.1 hr (fun t ht hWt => ⟨⟨ad, u, rfl, hx, hP, by rw [ht]; exact hW, va_K.moved hWt.alike X.2.2.2.2.2.1⟩, hS.F ht⟩) hS.2.2 hd hlk
theorem ab_afterA {a : Array Value} {H : Heap} {locs : List Loc} {ls : Array Slot} {stk : List Value} {mc ms : Nat} (X : ab_X p s m args c cc own nL D ca A H0) (hW : ab_W D ca ad N u A H) (hS : va_S A H0 H locs) (hl : lv_has ls nL (lv.map fun q => (q.1, ab_cv ad q.2))) (hlv : ∀ q ∈ lv, ab_live N q.2) (hst : ∀ v ∈ st, ab_live N v)
    (hr : va_Run p l e R s m args below meth c H locs cells slots mc ms (F0 m pc ls stk) (st.map (ab_cv ad)) (ab_QA D ca ad N N' H.size Post a) (ab_A ad N H.size))
    (kk : ∀ (ad' : ab_Ad) (u' : ab_S), ab_ex N ad ad' → Post u' → ab_J p l e R s m args below meth c Q D ca A H0 nL (cells + mc) (slots + ms) ad' N' u' (pc + 3) lv st) : W p l e R s m args below meth c H locs cells slots Q (F0 m pc ls stk) := by
  intro T hT Y
  obtain ⟨v, st₀, t, T', L, h0, Y', hL, e1, e2, ⟨⟨ad', u', hv, hx, hp, hw, hk'⟩, hz, hk⟩, go⟩ := hr T hT Y
  cases hv
  rw [h0] at hz hk
  have hin : ∀ q : Nat, ab_A ad N H.size q → A q := fun q h => by
    rcases h with ⟨c', i', hi', rfl⟩ | h
    · exact hW.inA hi'
    · exact X.2.2.2.2.2.2.1 q (Nat.le_trans hS.1 h)
  have hS' : va_S A H0 T'.heap (locs ++ L) := ⟨Nat.le_trans hS.1 (by rw [e1]; exact hz), fun q h1 h2 => by rw [e1, hk q (Nat.lt_of_lt_of_le h1 hS.1) (fun z => h2 (hin q z))]; exact hS.2.1 q h1 h2, fun q hq => by
      rcases List.mem_append.mp hq with h | h
      · exact hS.2.2 q h
      · exact hin _ (hL q h)⟩
  obtain ⟨t2, a1, b1⟩ := kk ad' u' hx hp T'.heap (locs ++ L) ls (by rw [e1]; exact hw.weaken fun c' i' hi' => hin _ (hw.inA hi')) hS' (by rw [ab_lv_ex hx hlv]; exact hl) T' rfl Y'
  refine ⟨t2, go t2 ?_, b1⟩
  have e : ((none : Option Value).toList ++ st.map (ab_cv ad)) = st.map (ab_cv ad') := by rw [ab_map_ex hx hst]; rfl
  rw [e]
  exact a1
/-- the static facts of a constructor's call -/
def ab_lI (own : String) (idx : Nat) (y : MethodName) (cc' : ByteArray) (nL' n : Nat) : Prop :=
  (∀ w ∈ ([.methodLink own idx y, .instanceMethod y, .initialized y.cls, .code y cc' nL' none] : List Cond), w ∈ ab_T) ∧
  (y.name = "<init>" ∧ y.cls ≠ "java/lang/invoke/MethodHandle" ∧ y.cls ≠ "java/lang/invoke/VarHandle" ∧ (parseMethodDescriptor y.desc).map (fun d => d.parameters.length) = some n) ∧ nL' ≤ 41
theorem ab_callI (X : ab_X p s m args c cc own nL D ca A H0) {y : MethodName} {cc' : ByteArray} {nL' d' idx c' i n mc ms : Nat} {as stk : List ab_V} (hC : ab_CA l D ca y cc' nL' d' mc ms N u (ab_O c' i :: as) N' Post) (hk : ab_lI own idx y cc' nL' n) (hd : decode cc pc = .ok (.invokespecial idx, 3)) (hst : stk = as.reverse ++ ab_O c' i :: st) (hn : as.length = n) (hlv : ∀ q ∈ lv, ab_live N q.2) (hstl : ∀ v ∈ st, ab_live N v) (hR : d' + 1 ≤ R.frames ∧ 60 * (d' + 1) ≤ R.locals) (hc : cells + mc ≤ R.cells ∧ slots + ms ≤ R.slots) (hw : ab_len st ≤ 8)
    (kk : ∀ (ad' : ab_Ad) (u' : ab_S), ab_ex N ad ad' → Post u' → ab_J p l e R s m args below meth c Q D ca A H0 nL (cells + mc) (slots + ms) ad' N' u' (pc + 3) lv st) : ab_J p l e R s m args below meth c Q D ca A H0 nL cells slots ad N u pc lv stk := fun H locs ls hW hS hl => by
  obtain ⟨hws, ⟨hyn, hy⟩, hnL⟩ := hk
  subst hst; subst hn
  have hp : PreS s H (ab_Pc false D ca ad N u H.size (ab_O c' i :: as)) (Value.ref (ad c' i) :: as.map (ab_cv ad)) := ⟨ab_Pc_blind, fun U hU hWU => ⟨rfl, by rw [hU], by rw [hU]; exact hW.weaken (fun _ _ _ => trivial), va_K.moved hWU.alike X.2.2.2.2.2.1, ab_Nw.moved hWU X.2.2.2.2.2.2.2, fun h => by cases h⟩⟩
  have hG : GoodIn ab_T (Cond.code y cc' nL' none :: ab_T) := fun w h => by
    refine ab_T_good w ?_
    rcases List.mem_cons.mp h with rfl | h
    · exact hws _ (by simp)
    · exact h
  have cb : CallB R s args own idx y cc' nL' none (Cond.code y cc' nL' none :: ab_T) (ab_rm d' mc ms) mc ms as.length := callB_of as.length X.2.2.2.2.1 hG rfl rfl rfl (X.2.2.2.2.1 _ (hws _ (by simp))) (X.2.2.2.2.1 _ (hws _ (by simp))) hy ⟨hR.1, by show 8 + (nL' + 11) + 60 * d' ≤ R.locals; omega⟩
  exact ab_afterA X hW hS hl hlv hstl (va_runI ⟨X.1, X.2.1, X.2.2.1, X.2.2.2.1, X.2.2.2.2.1⟩ (hC ad H.size) ⟨cb, hyn, X.2.2.2.2.1 _ (hws _ (by simp))⟩ hp rfl (by simp) hl.1 (by show (as.reverse ++ ab_O c' i :: st).map (ab_cv ad) = _; rw [List.map_append, List.map_reverse]; rfl) (lv_room (by rw [ab_wt]; exact hw)) hd hc) kk
end AbK
