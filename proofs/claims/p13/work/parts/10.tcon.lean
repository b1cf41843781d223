/-! Contracts of methods that may throw; how they throw. -/
theorem ab_W.kept {D : va_G} {ca : Nat → ClassId} {ad : ab_Ad} {N : Nat → Nat} {u : ab_S} {A : Nat → Prop} {H H1 : Heap} (h : ab_W D ca ad N u A H) (hk : ∀ c i : Nat, i < N c → H1[ad c i]? = H[ad c i]?) : ab_W D ca ad N u A H1 := by
  obtain ⟨h0, ws, hP, hD, h1, h2⟩ := h
  refine ⟨h0, ws, hP.kept fun k q hq => ?_, hD, h1, h2⟩
  obtain ⟨c, i, hi, rfl⟩ := h2 q (List.mem_of_getElem? hq)
  exact hk c i hi
theorem ab_W.lt {D : va_G} {ca : Nat → ClassId} {ad : ab_Ad} {N : Nat → Nat} {u : ab_S} {A : Nat → Prop} {H : Heap} (h : ab_W D ca ad N u A H) {c i : Nat} (hi : i < N c) : ad c i < H.size := by
  obtain ⟨ws, k, hP, -, hk⟩ := h.at hi
  exact (hP k _ hk).lt
theorem ab_W.plain {D : va_G} {ca : Nat → ClassId} {ad : ab_Ad} {N : Nat → Nat} {u : ab_S} {A : Nat → Prop} {H : Heap} (h : ab_W D ca ad N u A H) {c i : Nat} (hi : i < N c) : ∀ cell, H[ad c i]? = some cell → cell.vm.isStatics = false := by
  obtain ⟨ws, k, hP, -, hk⟩ := h.at hi
  have ha := hP k _ hk
  intro cell hc
  unfold va_at at ha
  dsimp only at ha
  split at ha
  · next x e =>
    have := Option.some.inj (hc.symm.trans ha)
    subst this
    obtain ⟨cA, n, f | f | f | f | f⟩ := x <;> rfl
  · next x e =>
    obtain ⟨r, -, cell', g1, g2, g3, -⟩ := ha
    have := Option.some.inj (hc.symm.trans g1)
    subst this
    rw [g3]; rfl
def ab_QT (D : va_G) (ca : Nat → ClassId) (ad : ab_Ad) (N : Nat → Nat) (sz : Nat) (Post : ab_S → Option ab_V → Prop) (PT : ab_S → String → Prop) : Array Value → State → Outcome → State → Prop := fun _ st oc t =>
  ((∃ (u' : ab_S) (r : Option ab_V), oc = .returned (r.map (ab_cv ad)) ∧ Post u' r ∧ ab_W D ca ad N u' (fun _ => True) t.heap) ∨
    (∃ (u' : ab_S) (E : String) (a : Nat) (ce : Cell) (cE : ClassId), oc = .threw a ∧ PT u' E ∧ ab_W D ca ad N u' (fun _ => True) t.heap ∧ t.heap[a]? = some ce ∧ ce.vm = .none ∧ ce.cls = cE ∧ t.vm.findClass E = some cE)) ∧
  va_K D vwCl (ab_tys ca) t ∧ va_F (ab_A ad N sz) st t
def ab_CT (l : Launch) (D : va_G) (ca : Nat → ClassId) (y : MethodName) (cc : ByteArray) (nL : Nat) (ret : Option FieldType) (d : Nat) (N : Nat → Nat) (u : ab_S) (av : List ab_V) (Post : ab_S → Option ab_V → Prop) (PT : ab_S → String → Prop) : Prop :=
  ∀ (ad : ab_Ad) (sz : Nat), ab_MT l y (Cond.code y cc nL ret :: ab_T) (ab_rm d 1 6) (ab_Pc true D ca ad N u sz av) (ab_QT D ca ad N sz Post PT) 1 6 (ab_A ad N sz)
theorem ab_CT.of {l : Launch} {D : va_G} {ca : Nat → ClassId} {y : MethodName} {cc : ByteArray} {nL : Nat} {ret : Option FieldType} {d : Nat} {N : Nat → Nat} {u : ab_S} {av : List ab_V} {Post : ab_S → Option ab_V → Prop} {PT : ab_S → String → Prop} (hy : plainName y.cls = true) (hn : ab_len av ≤ nL)
    (body : ∀ (p : Program) (e : Env) (s : State) (m : MethodId) (args : Array Value) (below : List Frame) (meth : Method) (c : Code) (ad : ab_Ad), ab_X p s m args c cc y.cls nL D ca (ab_A ad N s.heap.size) s.heap → ab_Zs ad (ab_A ad N s.heap.size) s s.heap → ab_W D ca ad N u (fun _ => True) s.heap → c.exceptionTable.isEmpty = true → meth.sig.returnType = ret → meth.locks = false →
      ab_J p l e (ab_rm d 1 6) s m args below meth c (ab_MQ below (ab_QT D ca ad N s.heap.size Post PT) args s 1 6 (ab_A ad N s.heap.size)) D ca (ab_A ad N s.heap.size) s.heap nL 0 0 ad N u 0 (ab_args 0 av) []) : ab_CT l D ca y cc nL ret d N u av Post PT := by
  intro ad sz
  refine ab_MT.ofW (cc := cc) (maxL := nL) (ret := ret) hy rfl ?_
  intro p e s m args below meth c s₁ B hml hv
  obtain ⟨rfl, hsz, hW, hK, hNw, hZ⟩ := hv
  subst hsz
  have hts := atoms_spec (ws := Cond.code y cc nL ret :: ab_T) B.pre
  rw [lg_entry_eq]
  have hl := lv_entry (av.map (ab_cv ad)) (n := nL) (by rw [ab_len_eq]; exact hn)
  rw [ab_args_map] at hl
  exact body p e s m _ below meth c ad ⟨B.exec, B.bytes, hml, findClass_of_methodNamed B.named, fun w hw => hts w (List.mem_cons_of_mem _ hw), hK, fun q hq => Or.inr hq, hNw⟩ (hZ rfl) hW (B.noHandlers (hts _ List.mem_cons_self)) B.returns B.notSynchronized s.heap [] _ (hW.weaken fun c i hi => Or.inl ⟨c, i, hi, rfl⟩) va_S.rf hl
/-- a return of such a method -/
theorem ab_QT_ret {D : va_G} {ca : Nat → ClassId} {ad : ab_Ad} {N : Nat → Nat} {sz : Nat} {Post : ab_S → Option ab_V → Prop} {PT : ab_S → String → Prop} {below : List Frame} {a : Array Value} {s : State} {mc ms : Nat} {free : Addr → Prop} (t : State) (k : MQ below (ab_Q D ca ad N sz Post) a s mc ms free t) : ab_MQ below (ab_QT D ca ad N sz Post PT) a s mc ms free t :=
  ab_MQ_of (fun o t h => by
    obtain ⟨⟨u', r, h1, h2, h3, h4⟩, h5⟩ := h
    exact ⟨Or.inl ⟨u', r, h1, h2, h3⟩, h4, h5⟩) t k
/-- the words of 'throw new E()' in the class own: E's entry idx, its constructor's ic, the classes above E -/
def ab_own (own : String) (idx ic : Nat) (cls : String) (names : List String) : Prop :=
  (Bundle.fit cls = true ∧ ∀ n ∈ names, Bundle.fit n = true) ∧ (∀ w ∈ ([.classLink own idx cls, .instantiable cls 6, .initialized cls] : List Cond), w ∈ ab_T) ∧ names.length ≤ 4 ∧
  ∀ w ∈ Bundle.ownAtoms0 own ic cls names, w ∈ ab_T ∨ w ∈ lw_tbl.filter ab_odd ∨ w ∈ ([.laysStatic "java/lang/Throwable" "UNASSIGNED_STACK" "[Ljava/lang/StackTraceElement;", .laysStatic "java/lang/Throwable" "SUPPRESSED_SENTINEL" "Ljava/util/List;", .isRef (.static "java/lang/Throwable" "UNASSIGNED_STACK" "[Ljava/lang/StackTraceElement;"), .isRef (.static "java/lang/Throwable" "SUPPRESSED_SENTINEL" "Ljava/util/List;")] : List Cond)
theorem ab_odd_use {w : Cond} {U : State} {args : Array Value} (h : ab_odd w = true) (hN : va_Nw w U) : w.before args U = true := by
  cases w with
  | methodLinkNest a i y host => exact va_Nw.use rfl hN
  | fieldLinkNest a i b n d hh => exact va_Nw.use rfl hN
  | castable a b => exact va_Nw.use rfl hN
  | declares x => exact va_Nw.use rfl hN
  | arrayOver t =>
    cases t with
    | object C => exact va_AO.use hN
    | _ => cases h
  | _ => cases h
section AbT
variable {p : Program} {l : Launch} {e : Env} {R : Room} {s : State} {m : MethodId} {args : Array Value} {below : List Frame} {meth : Method} {c : Code}
variable {cc : ByteArray} {own : String} {nL : Nat} {D : va_G} {ca : Nat → ClassId} {cells slots : Nat} {ad : ab_Ad} {N : Nat → Nat} {u u0 : ab_S} {pc : Nat} {lv : List (Nat × ab_V)} {Post : ab_S → Option ab_V → Prop} {PT : ab_S → String → Prop}
theorem ab_throw (X : ab_X p s m args c cc own nL D ca (ab_A ad N s.heap.size) s.heap) (hfl : l.flags = pinnedFlags ++ [noTraceFlag]) (hZ : ab_Zs ad (ab_A ad N s.heap.size) s s.heap) (hW0 : ab_W D ca ad N u0 (fun _ => True) s.heap) (hnh : c.exceptionTable.isEmpty = true) (hlk : meth.locks = false) {idx ic : Nat} {cls : String} {names : List String} (ho : ab_own own idx ic cls names)
    (hd0 : decode cc pc = .ok (.new idx, 3)) (hd3 : decode cc (pc + 3) = .ok (.dup, 1)) (hd4 : decode cc (pc + 3 + 1) = .ok (.invokespecial ic, 3)) (hd7 : decode cc (pc + 3 + 1 + 3) = .ok (.athrow, 1)) (hR : 8 ≤ R.frames ∧ 120 ≤ R.locals) (hc : cells + 1 ≤ R.cells ∧ slots + 6 ≤ R.slots) (hP : PT u cls) :
    ab_J p l e R s m args below meth c (ab_MQ below (ab_QT D ca ad N s.heap.size Post PT) args s (cells + 1) (slots + 6) (ab_A ad N s.heap.size)) D ca (ab_A ad N s.heap.size) s.heap nL cells slots ad N u pc lv [] := fun H locs ls hW hS hl => by
  obtain ⟨⟨hf1, hf2⟩, hw, hln, hat⟩ := ho
  have hwd : ∀ w ∈ Bundle.ownAtoms0 own ic cls names, w.before args s = true := fun w h => by
    rcases hat w h with h | h | h
    · exact X.2.2.2.2.1 w h
    · exact ab_odd_use (List.mem_filter.mp h).2 (X.2.2.2.2.2.2.2 w h)
    · rcases List.mem_cons.mp h with rfl | h
      · exact hZ.2.2.2.2.1.use
      rcases List.mem_cons.mp h with rfl | h
      · exact hZ.2.2.2.2.2.1.use
      rcases List.mem_cons.mp h with rfl | h
      · exact ab_Zq.use hZ.1
      rcases List.mem_cons.mp h with rfl | h
      · exact ab_Zq.use hZ.2.1
      · cases h
  refine W.newc (C := cls) (index := idx) (n := 6) X.1 X.2.1 X.2.2.2.1 (X.2.2.2.2.1 _ (hw _ (by simp))) (X.2.2.2.2.1 _ (hw _ (by simp))) (X.2.2.2.2.1 _ (hw _ (by simp))) rfl hd0 hc.1 hc.2 (fun cC kC f1 f2 f3 f4 => ?_)
  refine lv_dup (pc := pc + 3) (va := .ref H.size) X.1 X.2.1 hd3 rfl ?_
  intro T hT Y
  have hcell : T.heap[H.size]? = some (freshCell cC kC) := by rw [hT]; simp
  have hnew : s.heap.size ≤ H.size := hS.1
  have hcb : c.code = cc := X.2.1
  obtain ⟨U, g1, g2, g3, g4, g5, ⟨ce, g6, g7, g8⟩, g9, g10⟩ := ab_ctorThrow Y X.1 (Launch.traces_off hfl Y.admits) hlk X.2.2.2.1 hf1 hf2 hwd (fun x hx cell hce => by
    rcases hS.2.2 x hx with ⟨c', i', hi', e1⟩ | h
    · rw [e1] at hce
      exact hW0.plain hi' cell hce
    · have := (Array.getElem?_eq_some_iff.mp hce).1
      omega) f1 f2 hcell hnew (g := F0 m (pc + 3 + 1) ls [.ref H.size, .ref H.size]) rfl (by rw [X.2.2.1]; exact hl.1) rfl rfl (rest := []) rfl (by rw [hcb]; exact hd4) (by rw [hcb]; exact hd7) (fun x hx => by
      rw [Array.isEmpty_iff] at hnh
      rw [hnh] at hx
      cases hx) (by have := hR.1; omega) (by
      show 2 * 0 + 1 + (13 * (names.length + 1) + 41) ≤ R.locals
      have := hR.2; omega)
  have hsz : U.heap.size = H.size + 1 := by rw [g9, hT]; simp
  have hk : ∀ q : Nat, q < H.size → U.heap[q]? = H[q]? := fun q hq => by
    rw [g10 q (Nat.ne_of_lt hq), hT, Array.getElem?_push, if_neg (Nat.ne_of_lt hq)]
  refine ⟨U, g1, .threw H.size, g2, g3, ⟨Or.inr ⟨u, cls, H.size, ce, cC, rfl, hP, (hW.weaken (fun _ _ _ => trivial)).kept fun c' i' hi' => hk _ (hW.lt hi'), g6, g8, g7, by rw [g4.alike.findClass]; exact f1⟩, va_K.moved g4.alike X.2.2.2.2.2.1, by rw [hsz]; have := hS.1; omega, fun q h1 h2 => by rw [hk q (Nat.lt_of_lt_of_le h1 hS.1)]; exact hS.2.1 q h1 h2⟩, locs, ⟨g4, g5⟩, hS.2.2⟩
end AbT
