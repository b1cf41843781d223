/-! Stores that name the locals which stay. -/
def ab_k (i : Nat) (q : Nat × ab_V) : Bool := !(q.1 == i) && !(q.1 + 1 == i && ab_is2 q.2)
theorem ab_km {i j : Nat} {lv : List (Nat × ab_V)} {q : Nat × ab_V} (h : lv[j]? = some q) (n : ab_k i q = true) : q ∈ ab_ft i lv := List.mem_filter.mpr ⟨List.mem_of_getElem? h, n⟩
section AbS
variable {p : Program} {l : Launch} {e : Env} {R : Room} {s : State} {m : MethodId} {args : Array Value} {below : List Frame} {meth : Method} {c : Code} {Q : State → Prop}
variable {cc : ByteArray} {own : String} {nL : Nat} {D : va_G} {ca : Nat → ClassId} {A : Nat → Prop} {H0 : Heap} {cells slots : Nat} {ad : ab_Ad} {N : Nat → Nat} {u : ab_S} {pc : Nat} {lv : List (Nat × ab_V)} {st : List ab_V}
theorem ab_istore_n0 (X : ab_X p s m args c cc own nL D ca A H0) {i : Nat} {k : Fin 4} {x : Int32}   (hd : decode cc pc = .ok (.istore_n k, 1)) (hi : (k : Nat) = i) (hn : i < nL)  (kk : ab_J p l e R s m args below meth c Q D ca A H0 nL cells slots ad N u (pc + 1) [(i, ab_I x)] st) : ab_J p l e R s m args below meth c Q D ca A H0 nL cells slots ad N u pc lv (ab_I x :: st) := ab_istore_n X hd hi hn rfl (ab_lv (fun q hq => by
  simp only [List.mem_cons, List.not_mem_nil, or_false] at hq
  subst hq; exact List.mem_cons_self) kk)
theorem ab_istore0 (X : ab_X p s m args c cc own nL D ca A H0) {i : Nat} {x : Int32}   (hd : decode cc pc = .ok (.istore i, 2)) (hn : i < nL)  (kk : ab_J p l e R s m args below meth c Q D ca A H0 nL cells slots ad N u (pc + 2) [(i, ab_I x)] st) : ab_J p l e R s m args below meth c Q D ca A H0 nL cells slots ad N u pc lv (ab_I x :: st) := ab_istore X hd hn rfl (ab_lv (fun q hq => by
  simp only [List.mem_cons, List.not_mem_nil, or_false] at hq
  subst hq; exact List.mem_cons_self) kk)
theorem ab_astore_n0 (X : ab_X p s m args c cc own nL D ca A H0) {i : Nat} {k : Fin 4} {x : Option (Nat × Nat)}   (hd : decode cc pc = .ok (.astore_n k, 1)) (hi : (k : Nat) = i) (hn : i < nL)  (kk : ab_J p l e R s m args below meth c Q D ca A H0 nL cells slots ad N u (pc + 1) [(i, ab_R x)] st) : ab_J p l e R s m args below meth c Q D ca A H0 nL cells slots ad N u pc lv (ab_R x :: st) := ab_astore_n X hd hi hn rfl (ab_lv (fun q hq => by
  simp only [List.mem_cons, List.not_mem_nil, or_false] at hq
  subst hq; exact List.mem_cons_self) kk)
theorem ab_astore0 (X : ab_X p s m args c cc own nL D ca A H0) {i : Nat} {x : Option (Nat × Nat)}   (hd : decode cc pc = .ok (.astore i, 2)) (hn : i < nL)  (kk : ab_J p l e R s m args below meth c Q D ca A H0 nL cells slots ad N u (pc + 2) [(i, ab_R x)] st) : ab_J p l e R s m args below meth c Q D ca A H0 nL cells slots ad N u pc lv (ab_R x :: st) := ab_astore X hd hn rfl (ab_lv (fun q hq => by
  simp only [List.mem_cons, List.not_mem_nil, or_false] at hq
  subst hq; exact List.mem_cons_self) kk)
theorem ab_iinc0 (X : ab_X p s m args c cc own nL D ca A H0) {i : Nat} {n : Int} {x : Int32}  (j : Nat)  (hd : decode cc pc = .ok (.iinc i n, 3)) (hk : lv[j]? = some (i, ab_I x)) (hn : i < nL)  (kk : ab_J p l e R s m args below meth c Q D ca A H0 nL cells slots ad N u (pc + 3) [(i, ab_I (x + Int32.ofInt n))] st) : ab_J p l e R s m args below meth c Q D ca A H0 nL cells slots ad N u pc lv st := ab_iinc X j hd hk rfl hn rfl (ab_lv (fun q hq => by
  simp only [List.mem_cons, List.not_mem_nil, or_false] at hq
  subst hq; exact List.mem_cons_self) kk)
theorem ab_istore_n1 (X : ab_X p s m args c cc own nL D ca A H0) {i : Nat} {k : Fin 4} {x : Int32} {q0 : Nat × ab_V} (j0 : Nat) (hd : decode cc pc = .ok (.istore_n k, 1)) (hi : (k : Nat) = i) (hn : i < nL) (h0 : lv[j0]? = some q0) (n0 : ab_k i q0 = true) (kk : ab_J p l e R s m args below meth c Q D ca A H0 nL cells slots ad N u (pc + 1) [(i, ab_I x), q0] st) : ab_J p l e R s m args below meth c Q D ca A H0 nL cells slots ad N u pc lv (ab_I x :: st) := ab_istore_n X hd hi hn rfl (ab_lv (fun q hq => by
  simp only [List.mem_cons, List.not_mem_nil, or_false] at hq
  rcases hq with rfl | rfl
  · exact List.mem_cons_self
  · exact List.mem_cons_of_mem _ (ab_km h0 n0)) kk)
theorem ab_istore1 (X : ab_X p s m args c cc own nL D ca A H0) {i : Nat} {x : Int32} {q0 : Nat × ab_V} (j0 : Nat) (hd : decode cc pc = .ok (.istore i, 2)) (hn : i < nL) (h0 : lv[j0]? = some q0) (n0 : ab_k i q0 = true) (kk : ab_J p l e R s m args below meth c Q D ca A H0 nL cells slots ad N u (pc + 2) [(i, ab_I x), q0] st) : ab_J p l e R s m args below meth c Q D ca A H0 nL cells slots ad N u pc lv (ab_I x :: st) := ab_istore X hd hn rfl (ab_lv (fun q hq => by
  simp only [List.mem_cons, List.not_mem_nil, or_false] at hq
  rcases hq with rfl | rfl
  · exact List.mem_cons_self
  · exact List.mem_cons_of_mem _ (ab_km h0 n0)) kk)
theorem ab_astore_n1 (X : ab_X p s m args c cc own nL D ca A H0) {i : Nat} {k : Fin 4} {x : Option (Nat × Nat)} {q0 : Nat × ab_V} (j0 : Nat) (hd : decode cc pc = .ok (.astore_n k, 1)) (hi : (k : Nat) = i) (hn : i < nL) (h0 : lv[j0]? = some q0) (n0 : ab_k i q0 = true) (kk : ab_J p l e R s m args below meth c Q D ca A H0 nL cells slots ad N u (pc + 1) [(i, ab_R x), q0] st) : ab_J p l e R s m args below meth c Q D ca A H0 nL cells slots ad N u pc lv (ab_R x :: st) := ab_astore_n X hd hi hn rfl (ab_lv (fun q hq => by
  simp only [List.mem_cons, List.not_mem_nil, or_false] at hq
  rcases hq with rfl | rfl
  · exact List.mem_cons_self
  · exact List.mem_cons_of_mem _ (ab_km h0 n0)) kk)
theorem ab_astore1 (X : ab_X p s m args c cc own nL D ca A H0) {i : Nat} {x : Option (Nat × Nat)} {q0 : Nat × ab_V} (j0 : Nat) (hd : decode cc pc = .ok (.astore i, 2)) (hn : i < nL) (h0 : lv[j0]? = some q0) (n0 : ab_k i q0 = true) (kk : ab_J p l e R s m args below meth c Q D ca A H0 nL cells slots ad N u (pc + 2) [(i, ab_R x), q0] st) : ab_J p l e R s m args below meth c Q D ca A H0 nL cells slots ad N u pc lv (ab_R x :: st) := ab_astore X hd hn rfl (ab_lv (fun q hq => by
  simp only [List.mem_cons, List.not_mem_nil, or_false] at hq
  rcases hq with rfl | rfl
  · exact List.mem_cons_self
  · exact List.mem_cons_of_mem _ (ab_km h0 n0)) kk)
theorem ab_iinc1 (X : ab_X p s m args c cc own nL D ca A H0) {i : Nat} {n : Int} {x : Int32} {q0 : Nat × ab_V} (j : Nat) (j0 : Nat) (hd : decode cc pc = .ok (.iinc i n, 3)) (hk : lv[j]? = some (i, ab_I x)) (hn : i < nL) (h0 : lv[j0]? = some q0) (n0 : ab_k i q0 = true) (kk : ab_J p l e R s m args below meth c Q D ca A H0 nL cells slots ad N u (pc + 3) [(i, ab_I (x + Int32.ofInt n)), q0] st) : ab_J p l e R s m args below meth c Q D ca A H0 nL cells slots ad N u pc lv st := ab_iinc X j hd hk rfl hn rfl (ab_lv (fun q hq => by
  simp only [List.mem_cons, List.not_mem_nil, or_false] at hq
  rcases hq with rfl | rfl
  · exact List.mem_cons_self
  · exact List.mem_cons_of_mem _ (ab_km h0 n0)) kk)
theorem ab_istore_n2 (X : ab_X p s m args c cc own nL D ca A H0) {i : Nat} {k : Fin 4} {x : Int32} {q0 : Nat × ab_V} {q1 : Nat × ab_V} (j0 : Nat) (j1 : Nat) (hd : decode cc pc = .ok (.istore_n k, 1)) (hi : (k : Nat) = i) (hn : i < nL) (h0 : lv[j0]? = some q0) (n0 : ab_k i q0 = true) (h1 : lv[j1]? = some q1) (n1 : ab_k i q1 = true) (kk : ab_J p l e R s m args below meth c Q D ca A H0 nL cells slots ad N u (pc + 1) [(i, ab_I x), q0, q1] st) : ab_J p l e R s m args below meth c Q D ca A H0 nL cells slots ad N u pc lv (ab_I x :: st) := ab_istore_n X hd hi hn rfl (ab_lv (fun q hq => by
  simp only [List.mem_cons, List.not_mem_nil, or_false] at hq
  rcases hq with rfl | rfl | rfl
  · exact List.mem_cons_self
  · exact List.mem_cons_of_mem _ (ab_km h0 n0)
  · exact List.mem_cons_of_mem _ (ab_km h1 n1)) kk)
theorem ab_istore2 (X : ab_X p s m args c cc own nL D ca A H0) {i : Nat} {x : Int32} {q0 : Nat × ab_V} {q1 : Nat × ab_V} (j0 : Nat) (j1 : Nat) (hd : decode cc pc = .ok (.istore i, 2)) (hn : i < nL) (h0 : lv[j0]? = some q0) (n0 : ab_k i q0 = true) (h1 : lv[j1]? = some q1) (n1 : ab_k i q1 = true) (kk : ab_J p l e R s m args below meth c Q D ca A H0 nL cells slots ad N u (pc + 2) [(i, ab_I x), q0, q1] st) : ab_J p l e R s m args below meth c Q D ca A H0 nL cells slots ad N u pc lv (ab_I x :: st) := ab_istore X hd hn rfl (ab_lv (fun q hq => by
  simp only [List.mem_cons, List.not_mem_nil, or_false] at hq
  rcases hq with rfl | rfl | rfl
  · exact List.mem_cons_self
  · exact List.mem_cons_of_mem _ (ab_km h0 n0)
  · exact List.mem_cons_of_mem _ (ab_km h1 n1)) kk)
theorem ab_astore_n2 (X : ab_X p s m args c cc own nL D ca A H0) {i : Nat} {k : Fin 4} {x : Option (Nat × Nat)} {q0 : Nat × ab_V} {q1 : Nat × ab_V} (j0 : Nat) (j1 : Nat) (hd : decode cc pc = .ok (.astore_n k, 1)) (hi : (k : Nat) = i) (hn : i < nL) (h0 : lv[j0]? = some q0) (n0 : ab_k i q0 = true) (h1 : lv[j1]? = some q1) (n1 : ab_k i q1 = true) (kk : ab_J p l e R s m args below meth c Q D ca A H0 nL cells slots ad N u (pc + 1) [(i, ab_R x), q0, q1] st) : ab_J p l e R s m args below meth c Q D ca A H0 nL cells slots ad N u pc lv (ab_R x :: st) := ab_astore_n X hd hi hn rfl (ab_lv (fun q hq => by
  simp only [List.mem_cons, List.not_mem_nil, or_false] at hq
  rcases hq with rfl | rfl | rfl
  · exact List.mem_cons_self
  · exact List.mem_cons_of_mem _ (ab_km h0 n0)
  · exact List.mem_cons_of_mem _ (ab_km h1 n1)) kk)
theorem ab_astore2 (X : ab_X p s m args c cc own nL D ca A H0) {i : Nat} {x : Option (Nat × Nat)} {q0 : Nat × ab_V} {q1 : Nat × ab_V} (j0 : Nat) (j1 : Nat) (hd : decode cc pc = .ok (.astore i, 2)) (hn : i < nL) (h0 : lv[j0]? = some q0) (n0 : ab_k i q0 = true) (h1 : lv[j1]? = some q1) (n1 : ab_k i q1 = true) (kk : ab_J p l e R s m args below meth c Q D ca A H0 nL cells slots ad N u (pc + 2) [(i, ab_R x), q0, q1] st) : ab_J p l e R s m args below meth c Q D ca A H0 nL cells slots ad N u pc lv (ab_R x :: st) := ab_astore X hd hn rfl (ab_lv (fun q hq => by
  simp only [List.mem_cons, List.not_mem_nil, or_false] at hq
  rcases hq with rfl | rfl | rfl
  · exact List.mem_cons_self
  · exact List.mem_cons_of_mem _ (ab_km h0 n0)
  · exact List.mem_cons_of_mem _ (ab_km h1 n1)) kk)
theorem ab_iinc2 (X : ab_X p s m args c cc own nL D ca A H0) {i : Nat} {n : Int} {x : Int32} {q0 : Nat × ab_V} {q1 : Nat × ab_V} (j : Nat) (j0 : Nat) (j1 : Nat) (hd : decode cc pc = .ok (.iinc i n, 3)) (hk : lv[j]? = some (i, ab_I x)) (hn : i < nL) (h0 : lv[j0]? = some q0) (n0 : ab_k i q0 = true) (h1 : lv[j1]? = some q1) (n1 : ab_k i q1 = true) (kk : ab_J p l e R s m args below meth c Q D ca A H0 nL cells slots ad N u (pc + 3) [(i, ab_I (x + Int32.ofInt n)), q0, q1] st) : ab_J p l e R s m args below meth c Q D ca A H0 nL cells slots ad N u pc lv st := ab_iinc X j hd hk rfl hn rfl (ab_lv (fun q hq => by
  simp only [List.mem_cons, List.not_mem_nil, or_false] at hq
  rcases hq with rfl | rfl | rfl
  · exact List.mem_cons_self
  · exact List.mem_cons_of_mem _ (ab_km h0 n0)
  · exact List.mem_cons_of_mem _ (ab_km h1 n1)) kk)
theorem ab_istore_n3 (X : ab_X p s m args c cc own nL D ca A H0) {i : Nat} {k : Fin 4} {x : Int32} {q0 : Nat × ab_V} {q1 : Nat × ab_V} {q2 : Nat × ab_V} (j0 : Nat) (j1 : Nat) (j2 : Nat) (hd : decode cc pc = .ok (.istore_n k, 1)) (hi : (k : Nat) = i) (hn : i < nL) (h0 : lv[j0]? = some q0) (n0 : ab_k i q0 = true) (h1 : lv[j1]? = some q1) (n1 : ab_k i q1 = true) (h2 : lv[j2]? = some q2) (n2 : ab_k i q2 = true) (kk : ab_J p l e R s m args below meth c Q D ca A H0 nL cells slots ad N u (pc + 1) [(i, ab_I x), q0, q1, q2] st) : ab_J p l e R s m args below meth c Q D ca A H0 nL cells slots ad N u pc lv (ab_I x :: st) := ab_istore_n X hd hi hn rfl (ab_lv (fun q hq => by
  simp only [List.mem_cons, List.not_mem_nil, or_false] at hq
  rcases hq with rfl | rfl | rfl | rfl
  · exact List.mem_cons_self
  · exact List.mem_cons_of_mem _ (ab_km h0 n0)
  · exact List.mem_cons_of_mem _ (ab_km h1 n1)
  · exact List.mem_cons_of_mem _ (ab_km h2 n2)) kk)
theorem ab_istore3 (X : ab_X p s m args c cc own nL D ca A H0) {i : Nat} {x : Int32} {q0 : Nat × ab_V} {q1 : Nat × ab_V} {q2 : Nat × ab_V} (j0 : Nat) (j1 : Nat) (j2 : Nat) (hd : decode cc pc = .ok (.istore i, 2)) (hn : i < nL) (h0 : lv[j0]? = some q0) (n0 : ab_k i q0 = true) (h1 : lv[j1]? = some q1) (n1 : ab_k i q1 = true) (h2 : lv[j2]? = some q2) (n2 : ab_k i q2 = true) (kk : ab_J p l e R s m args below meth c Q D ca A H0 nL cells slots ad N u (pc + 2) [(i, ab_I x), q0, q1, q2] st) : ab_J p l e R s m args below meth c Q D ca A H0 nL cells slots ad N u pc lv (ab_I x :: st) := ab_istore X hd hn rfl (ab_lv (fun q hq => by
  simp only [List.mem_cons, List.not_mem_nil, or_false] at hq
  rcases hq with rfl | rfl | rfl | rfl
  · exact List.mem_cons_self
  · exact List.mem_cons_of_mem _ (ab_km h0 n0)
  · exact List.mem_cons_of_mem _ (ab_km h1 n1)
  · exact List.mem_cons_of_mem _ (ab_km h2 n2)) kk)
theorem ab_astore_n3 (X : ab_X p s m args c cc own nL D ca A H0) {i : Nat} {k : Fin 4} {x : Option (Nat × Nat)} {q0 : Nat × ab_V} {q1 : Nat × ab_V} {q2 : Nat × ab_V} (j0 : Nat) (j1 : Nat) (j2 : Nat) (hd : decode cc pc = .ok (.astore_n k, 1)) (hi : (k : Nat) = i) (hn : i < nL) (h0 : lv[j0]? = some q0) (n0 : ab_k i q0 = true) (h1 : lv[j1]? = some q1) (n1 : ab_k i q1 = true) (h2 : lv[j2]? = some q2) (n2 : ab_k i q2 = true) (kk : ab_J p l e R s m args below meth c Q D ca A H0 nL cells slots ad N u (pc + 1) [(i, ab_R x), q0, q1, q2] st) : ab_J p l e R s m args below meth c Q D ca A H0 nL cells slots ad N u pc lv (ab_R x :: st) := ab_astore_n X hd hi hn rfl (ab_lv (fun q hq => by
  simp only [List.mem_cons, List.not_mem_nil, or_false] at hq
  rcases hq with rfl | rfl | rfl | rfl
  · exact List.mem_cons_self
  · exact List.mem_cons_of_mem _ (ab_km h0 n0)
  · exact List.mem_cons_of_mem _ (ab_km h1 n1)
  · exact List.mem_cons_of_mem _ (ab_km h2 n2)) kk)
theorem ab_astore3 (X : ab_X p s m args c cc own nL D ca A H0) {i : Nat} {x : Option (Nat × Nat)} {q0 : Nat × ab_V} {q1 : Nat × ab_V} {q2 : Nat × ab_V} (j0 : Nat) (j1 : Nat) (j2 : Nat) (hd : decode cc pc = .ok (.astore i, 2)) (hn : i < nL) (h0 : lv[j0]? = some q0) (n0 : ab_k i q0 = true) (h1 : lv[j1]? = some q1) (n1 : ab_k i q1 = true) (h2 : lv[j2]? = some q2) (n2 : ab_k i q2 = true) (kk : ab_J p l e R s m args below meth c Q D ca A H0 nL cells slots ad N u (pc + 2) [(i, ab_R x), q0, q1, q2] st) : ab_J p l e R s m args below meth c Q D ca A H0 nL cells slots ad N u pc lv (ab_R x :: st) := ab_astore X hd hn rfl (ab_lv (fun q hq => by
  simp only [List.mem_cons, List.not_mem_nil, or_false] at hq
  rcases hq with rfl | rfl | rfl | rfl
  · exact List.mem_cons_self
  · exact List.mem_cons_of_mem _ (ab_km h0 n0)
  · exact List.mem_cons_of_mem _ (ab_km h1 n1)
  · exact List.mem_cons_of_mem _ (ab_km h2 n2)) kk)
theorem ab_iinc3 (X : ab_X p s m args c cc own nL D ca A H0) {i : Nat} {n : Int} {x : Int32} {q0 : Nat × ab_V} {q1 : Nat × ab_V} {q2 : Nat × ab_V} (j : Nat) (j0 : Nat) (j1 : Nat) (j2 : Nat) (hd : decode cc pc = .ok (.iinc i n, 3)) (hk : lv[j]? = some (i, ab_I x)) (hn : i < nL) (h0 : lv[j0]? = some q0) (n0 : ab_k i q0 = true) (h1 : lv[j1]? = some q1) (n1 : ab_k i q1 = true) (h2 : lv[j2]? = some q2) (n2 : ab_k i q2 = true) (kk : ab_J p l e R s m args below meth c Q D ca A H0 nL cells slots ad N u (pc + 3) [(i, ab_I (x + Int32.ofInt n)), q0, q1, q2] st) : ab_J p l e R s m args below meth c Q D ca A H0 nL cells slots ad N u pc lv st := ab_iinc X j hd hk rfl hn rfl (ab_lv (fun q hq => by
  simp only [List.mem_cons, List.not_mem_nil, or_false] at hq
  rcases hq with rfl | rfl | rfl | rfl
  · exact List.mem_cons_self
  · exact List.mem_cons_of_mem _ (ab_km h0 n0)
  · exact List.mem_cons_of_mem _ (ab_km h1 n1)
  · exact List.mem_cons_of_mem _ (ab_km h2 n2)) kk)
theorem ab_istore_n4 (X : ab_X p s m args c cc own nL D ca A H0) {i : Nat} {k : Fin 4} {x : Int32} {q0 : Nat × ab_V} {q1 : Nat × ab_V} {q2 : Nat × ab_V} {q3 : Nat × ab_V} (j0 : Nat) (j1 : Nat) (j2 : Nat) (j3 : Nat) (hd : decode cc pc = .ok (.istore_n k, 1)) (hi : (k : Nat) = i) (hn : i < nL) (h0 : lv[j0]? = some q0) (n0 : ab_k i q0 = true) (h1 : lv[j1]? = some q1) (n1 : ab_k i q1 = true) (h2 : lv[j2]? = some q2) (n2 : ab_k i q2 = true) (h3 : lv[j3]? = some q3) (n3 : ab_k i q3 = true) (kk : ab_J p l e R s m args below meth c Q D ca A H0 nL cells slots ad N u (pc + 1) [(i, ab_I x), q0, q1, q2, q3] st) : ab_J p l e R s m args below meth c Q D ca A H0 nL cells slots ad N u pc lv (ab_I x :: st) := ab_istore_n X hd hi hn rfl (ab_lv (fun q hq => by
  simp only [List.mem_cons, List.not_mem_nil, or_false] at hq
  rcases hq with rfl | rfl | rfl | rfl | rfl
  · exact List.mem_cons_self
  · exact List.mem_cons_of_mem _ (ab_km h0 n0)
  · exact List.mem_cons_of_mem _ (ab_km h1 n1)
  · exact List.mem_cons_of_mem _ (ab_km h2 n2)
  · exact List.mem_cons_of_mem _ (ab_km h3 n3)) kk)
theorem ab_istore4 (X : ab_X p s m args c cc own nL D ca A H0) {i : Nat} {x : Int32} {q0 : Nat × ab_V} {q1 : Nat × ab_V} {q2 : Nat × ab_V} {q3 : Nat × ab_V} (j0 : Nat) (j1 : Nat) (j2 : Nat) (j3 : Nat) (hd : decode cc pc = .ok (.istore i, 2)) (hn : i < nL) (h0 : lv[j0]? = some q0) (n0 : ab_k i q0 = true) (h1 : lv[j1]? = some q1) (n1 : ab_k i q1 = true) (h2 : lv[j2]? = some q2) (n2 : ab_k i q2 = true) (h3 : lv[j3]? = some q3) (n3 : ab_k i q3 = true) (kk : ab_J p l e R s m args below meth c Q D ca A H0 nL cells slots ad N u (pc + 2) [(i, ab_I x), q0, q1, q2, q3] st) : ab_J p l e R s m args below meth c Q D ca A H0 nL cells slots ad N u pc lv (ab_I x :: st) := ab_istore X hd hn rfl (ab_lv (fun q hq => by
  simp only [List.mem_cons, List.not_mem_nil, or_false] at hq
  rcases hq with rfl | rfl | rfl | rfl | rfl
  · exact List.mem_cons_self
  · exact List.mem_cons_of_mem _ (ab_km h0 n0)
  · exact List.mem_cons_of_mem _ (ab_km h1 n1)
  · exact List.mem_cons_of_mem _ (ab_km h2 n2)
  · exact List.mem_cons_of_mem _ (ab_km h3 n3)) kk)
theorem ab_astore_n4 (X : ab_X p s m args c cc own nL D ca A H0) {i : Nat} {k : Fin 4} {x : Option (Nat × Nat)} {q0 : Nat × ab_V} {q1 : Nat × ab_V} {q2 : Nat × ab_V} {q3 : Nat × ab_V} (j0 : Nat) (j1 : Nat) (j2 : Nat) (j3 : Nat) (hd : decode cc pc = .ok (.astore_n k, 1)) (hi : (k : Nat) = i) (hn : i < nL) (h0 : lv[j0]? = some q0) (n0 : ab_k i q0 = true) (h1 : lv[j1]? = some q1) (n1 : ab_k i q1 = true) (h2 : lv[j2]? = some q2) (n2 : ab_k i q2 = true) (h3 : lv[j3]? = some q3) (n3 : ab_k i q3 = true) (kk : ab_J p l e R s m args below meth c Q D ca A H0 nL cells slots ad N u (pc + 1) [(i, ab_R x), q0, q1, q2, q3] st) : ab_J p l e R s m args below meth c Q D ca A H0 nL cells slots ad N u pc lv (ab_R x :: st) := ab_astore_n X hd hi hn rfl (ab_lv (fun q hq => by
  simp only [List.mem_cons, List.not_mem_nil, or_false] at hq
  rcases hq with rfl | rfl | rfl | rfl | rfl
  · exact List.mem_cons_self
  · exact List.mem_cons_of_mem _ (ab_km h0 n0)
  · exact List.mem_cons_of_mem _ (ab_km h1 n1)
  · exact List.mem_cons_of_mem _ (ab_km h2 n2)
  · exact List.mem_cons_of_mem _ (ab_km h3 n3)) kk)
theorem ab_astore4 (X : ab_X p s m args c cc own nL D ca A H0) {i : Nat} {x : Option (Nat × Nat)} {q0 : Nat × ab_V} {q1 : Nat × ab_V} {q2 : Nat × ab_V} {q3 : Nat × ab_V} (j0 : Nat) (j1 : Nat) (j2 : Nat) (j3 : Nat) (hd : decode cc pc = .ok (.astore i, 2)) (hn : i < nL) (h0 : lv[j0]? = some q0) (n0 : ab_k i q0 = true) (h1 : lv[j1]? = some q1) (n1 : ab_k i q1 = true) (h2 : lv[j2]? = some q2) (n2 : ab_k i q2 = true) (h3 : lv[j3]? = some q3) (n3 : ab_k i q3 = true) (kk : ab_J p l e R s m args below meth c Q D ca A H0 nL cells slots ad N u (pc + 2) [(i, ab_R x), q0, q1, q2, q3] st) : ab_J p l e R s m args below meth c Q D ca A H0 nL cells slots ad N u pc lv (ab_R x :: st) := ab_astore X hd hn rfl (ab_lv (fun q hq => by
  simp only [List.mem_cons, List.not_mem_nil, or_false] at hq
  rcases hq with rfl | rfl | rfl | rfl | rfl
  · exact List.mem_cons_self
  · exact List.mem_cons_of_mem _ (ab_km h0 n0)
  · exact List.mem_cons_of_mem _ (ab_km h1 n1)
  · exact List.mem_cons_of_mem _ (ab_km h2 n2)
  · exact List.mem_cons_of_mem _ (ab_km h3 n3)) kk)
theorem ab_iinc4 (X : ab_X p s m args c cc own nL D ca A H0) {i : Nat} {n : Int} {x : Int32} {q0 : Nat × ab_V} {q1 : Nat × ab_V} {q2 : Nat × ab_V} {q3 : Nat × ab_V} (j : Nat) (j0 : Nat) (j1 : Nat) (j2 : Nat) (j3 : Nat) (hd : decode cc pc = .ok (.iinc i n, 3)) (hk : lv[j]? = some (i, ab_I x)) (hn : i < nL) (h0 : lv[j0]? = some q0) (n0 : ab_k i q0 = true) (h1 : lv[j1]? = some q1) (n1 : ab_k i q1 = true) (h2 : lv[j2]? = some q2) (n2 : ab_k i q2 = true) (h3 : lv[j3]? = some q3) (n3 : ab_k i q3 = true) (kk : ab_J p l e R s m args below meth c Q D ca A H0 nL cells slots ad N u (pc + 3) [(i, ab_I (x + Int32.ofInt n)), q0, q1, q2, q3] st) : ab_J p l e R s m args below meth c Q D ca A H0 nL cells slots ad N u pc lv st := ab_iinc X j hd hk rfl hn rfl (ab_lv (fun q hq => by
  simp only [List.mem_cons, List.not_mem_nil, or_false] at hq
  rcases hq with rfl | rfl | rfl | rfl | rfl
  · exact List.mem_cons_self
  · exact List.mem_cons_of_mem _ (ab_km h0 n0)
  · exact List.mem_cons_of_mem _ (ab_km h1 n1)
  · exact List.mem_cons_of_mem _ (ab_km h2 n2)
  · exact List.mem_cons_of_mem _ (ab_km h3 n3)) kk)
theorem ab_istore_n5 (X : ab_X p s m args c cc own nL D ca A H0) {i : Nat} {k : Fin 4} {x : Int32} {q0 : Nat × ab_V} {q1 : Nat × ab_V} {q2 : Nat × ab_V} {q3 : Nat × ab_V} {q4 : Nat × ab_V} (j0 : Nat) (j1 : Nat) (j2 : Nat) (j3 : Nat) (j4 : Nat) (hd : decode cc pc = .ok (.istore_n k, 1)) (hi : (k : Nat) = i) (hn : i < nL) (h0 : lv[j0]? = some q0) (n0 : ab_k i q0 = true) (h1 : lv[j1]? = some q1) (n1 : ab_k i q1 = true) (h2 : lv[j2]? = some q2) (n2 : ab_k i q2 = true) (h3 : lv[j3]? = some q3) (n3 : ab_k i q3 = true) (h4 : lv[j4]? = some q4) (n4 : ab_k i q4 = true) (kk : ab_J p l e R s m args below meth c Q D ca A H0 nL cells slots ad N u (pc + 1) [(i, ab_I x), q0, q1, q2, q3, q4] st) : ab_J p l e R s m args below meth c Q D ca A H0 nL cells slots ad N u pc lv (ab_I x :: st) := ab_istore_n X hd hi hn rfl (ab_lv (fun q hq => by
  simp only [List.mem_cons, List.not_mem_nil, or_false] at hq
  rcases hq with rfl | rfl | rfl | rfl | rfl | rfl
  · exact List.mem_cons_self
  · exact List.mem_cons_of_mem _ (ab_km h0 n0)
  · exact List.mem_cons_of_mem _ (ab_km h1 n1)
  · exact List.mem_cons_of_mem _ (ab_km h2 n2)
  · exact List.mem_cons_of_mem _ (ab_km h3 n3)
  · exact List.mem_cons_of_mem _ (ab_km h4 n4)) kk)
theorem ab_istore5 (X : ab_X p s m args c cc own nL D ca A H0) {i : Nat} {x : Int32} {q0 : Nat × ab_V} {q1 : Nat × ab_V} {q2 : Nat × ab_V} {q3 : Nat × ab_V} {q4 : Nat × ab_V} (j0 : Nat) (j1 : Nat) (j2 : Nat) (j3 : Nat) (j4 : Nat) (hd : decode cc pc = .ok (.istore i, 2)) (hn : i < nL) (h0 : lv[j0]? = some q0) (n0 : ab_k i q0 = true) (h1 : lv[j1]? = some q1) (n1 : ab_k i q1 = true) (h2 : lv[j2]? = some q2) (n2 : ab_k i q2 = true) (h3 : lv[j3]? = some q3) (n3 : ab_k i q3 = true) (h4 : lv[j4]? = some q4) (n4 : ab_k i q4 = true) (kk : ab_J p l e R s m args below meth c Q D ca A H0 nL cells slots ad N u (pc + 2) [(i, ab_I x), q0, q1, q2, q3, q4] st) : ab_J p l e R s m args below meth c Q D ca A H0 nL cells slots ad N u pc lv (ab_I x :: st) := ab_istore X hd hn rfl (ab_lv (fun q hq => by
  simp only [List.mem_cons, List.not_mem_nil, or_false] at hq
  rcases hq with rfl | rfl | rfl | rfl | rfl | rfl
  · exact List.mem_cons_self
  · exact List.mem_cons_of_mem _ (ab_km h0 n0)
  · exact List.mem_cons_of_mem _ (ab_km h1 n1)
  · exact List.mem_cons_of_mem _ (ab_km h2 n2)
  · exact List.mem_cons_of_mem _ (ab_km h3 n3)
  · exact List.mem_cons_of_mem _ (ab_km h4 n4)) kk)
theorem ab_astore_n5 (X : ab_X p s m args c cc own nL D ca A H0) {i : Nat} {k : Fin 4} {x : Option (Nat × Nat)} {q0 : Nat × ab_V} {q1 : Nat × ab_V} {q2 : Nat × ab_V} {q3 : Nat × ab_V} {q4 : Nat × ab_V} (j0 : Nat) (j1 : Nat) (j2 : Nat) (j3 : Nat) (j4 : Nat) (hd : decode cc pc = .ok (.astore_n k, 1)) (hi : (k : Nat) = i) (hn : i < nL) (h0 : lv[j0]? = some q0) (n0 : ab_k i q0 = true) (h1 : lv[j1]? = some q1) (n1 : ab_k i q1 = true) (h2 : lv[j2]? = some q2) (n2 : ab_k i q2 = true) (h3 : lv[j3]? = some q3) (n3 : ab_k i q3 = true) (h4 : lv[j4]? = some q4) (n4 : ab_k i q4 = true) (kk : ab_J p l e R s m args below meth c Q D ca A H0 nL cells slots ad N u (pc + 1) [(i, ab_R x), q0, q1, q2, q3, q4] st) : ab_J p l e R s m args below meth c Q D ca A H0 nL cells slots ad N u pc lv (ab_R x :: st) := ab_astore_n X hd hi hn rfl (ab_lv (fun q hq => by
  simp only [List.mem_cons, List.not_mem_nil, or_false] at hq
  rcases hq with rfl | rfl | rfl | rfl | rfl | rfl
  · exact List.mem_cons_self
  · exact List.mem_cons_of_mem _ (ab_km h0 n0)
  · exact List.mem_cons_of_mem _ (ab_km h1 n1)
  · exact List.mem_cons_of_mem _ (ab_km h2 n2)
  · exact List.mem_cons_of_mem _ (ab_km h3 n3)
  · exact List.mem_cons_of_mem _ (ab_km h4 n4)) kk)
theorem ab_astore5 (X : ab_X p s m args c cc own nL D ca A H0) {i : Nat} {x : Option (Nat × Nat)} {q0 : Nat × ab_V} {q1 : Nat × ab_V} {q2 : Nat × ab_V} {q3 : Nat × ab_V} {q4 : Nat × ab_V} (j0 : Nat) (j1 : Nat) (j2 : Nat) (j3 : Nat) (j4 : Nat) (hd : decode cc pc = .ok (.astore i, 2)) (hn : i < nL) (h0 : lv[j0]? = some q0) (n0 : ab_k i q0 = true) (h1 : lv[j1]? = some q1) (n1 : ab_k i q1 = true) (h2 : lv[j2]? = some q2) (n2 : ab_k i q2 = true) (h3 : lv[j3]? = some q3) (n3 : ab_k i q3 = true) (h4 : lv[j4]? = some q4) (n4 : ab_k i q4 = true) (kk : ab_J p l e R s m args below meth c Q D ca A H0 nL cells slots ad N u (pc + 2) [(i, ab_R x), q0, q1, q2, q3, q4] st) : ab_J p l e R s m args below meth c Q D ca A H0 nL cells slots ad N u pc lv (ab_R x :: st) := ab_astore X hd hn rfl (ab_lv (fun q hq => by
  simp only [List.mem_cons, List.not_mem_nil, or_false] at hq
  rcases hq with rfl | rfl | rfl | rfl | rfl | rfl
  · exact List.mem_cons_self
  · exact List.mem_cons_of_mem _ (ab_km h0 n0)
  · exact List.mem_cons_of_mem _ (ab_km h1 n1)
  · exact List.mem_cons_of_mem _ (ab_km h2 n2)
  · exact List.mem_cons_of_mem _ (ab_km h3 n3)
  · exact List.mem_cons_of_mem _ (ab_km h4 n4)) kk)
theorem ab_iinc5 (X : ab_X p s m args c cc own nL D ca A H0) {i : Nat} {n : Int} {x : Int32} {q0 : Nat × ab_V} {q1 : Nat × ab_V} {q2 : Nat × ab_V} {q3 : Nat × ab_V} {q4 : Nat × ab_V} (j : Nat) (j0 : Nat) (j1 : Nat) (j2 : Nat) (j3 : Nat) (j4 : Nat) (hd : decode cc pc = .ok (.iinc i n, 3)) (hk : lv[j]? = some (i, ab_I x)) (hn : i < nL) (h0 : lv[j0]? = some q0) (n0 : ab_k i q0 = true) (h1 : lv[j1]? = some q1) (n1 : ab_k i q1 = true) (h2 : lv[j2]? = some q2) (n2 : ab_k i q2 = true) (h3 : lv[j3]? = some q3) (n3 : ab_k i q3 = true) (h4 : lv[j4]? = some q4) (n4 : ab_k i q4 = true) (kk : ab_J p l e R s m args below meth c Q D ca A H0 nL cells slots ad N u (pc + 3) [(i, ab_I (x + Int32.ofInt n)), q0, q1, q2, q3, q4] st) : ab_J p l e R s m args below meth c Q D ca A H0 nL cells slots ad N u pc lv st := ab_iinc X j hd hk rfl hn rfl (ab_lv (fun q hq => by
  simp only [List.mem_cons, List.not_mem_nil, or_false] at hq
  rcases hq with rfl | rfl | rfl | rfl | rfl | rfl
  · exact List.mem_cons_self
  · exact List.mem_cons_of_mem _ (ab_km h0 n0)
  · exact List.mem_cons_of_mem _ (ab_km h1 n1)
  · exact List.mem_cons_of_mem _ (ab_km h2 n2)
  · exact List.mem_cons_of_mem _ (ab_km h3 n3)
  · exact List.mem_cons_of_mem _ (ab_km h4 n4)) kk)
theorem ab_istore_n6 (X : ab_X p s m args c cc own nL D ca A H0) {i : Nat} {k : Fin 4} {x : Int32} {q0 : Nat × ab_V} {q1 : Nat × ab_V} {q2 : Nat × ab_V} {q3 : Nat × ab_V} {q4 : Nat × ab_V} {q5 : Nat × ab_V} (j0 : Nat) (j1 : Nat) (j2 : Nat) (j3 : Nat) (j4 : Nat) (j5 : Nat) (hd : decode cc pc = .ok (.istore_n k, 1)) (hi : (k : Nat) = i) (hn : i < nL) (h0 : lv[j0]? = some q0) (n0 : ab_k i q0 = true) (h1 : lv[j1]? = some q1) (n1 : ab_k i q1 = true) (h2 : lv[j2]? = some q2) (n2 : ab_k i q2 = true) (h3 : lv[j3]? = some q3) (n3 : ab_k i q3 = true) (h4 : lv[j4]? = some q4) (n4 : ab_k i q4 = true) (h5 : lv[j5]? = some q5) (n5 : ab_k i q5 = true) (kk : ab_J p l e R s m args below meth c Q D ca A H0 nL cells slots ad N u (pc + 1) [(i, ab_I x), q0, q1, q2, q3, q4, q5] st) : ab_J p l e R s m args below meth c Q D ca A H0 nL cells slots ad N u pc lv (ab_I x :: st) := ab_istore_n X hd hi hn rfl (ab_lv (fun q hq => by
  simp only [List.mem_cons, List.not_mem_nil, or_false] at hq
  rcases hq with rfl | rfl | rfl | rfl | rfl | rfl | rfl
  · exact List.mem_cons_self
  · exact List.mem_cons_of_mem _ (ab_km h0 n0)
  · exact List.mem_cons_of_mem _ (ab_km h1 n1)
  · exact List.mem_cons_of_mem _ (ab_km h2 n2)
  · exact List.mem_cons_of_mem _ (ab_km h3 n3)
  · exact List.mem_cons_of_mem _ (ab_km h4 n4)
  · exact List.mem_cons_of_mem _ (ab_km h5 n5)) kk)
theorem ab_istore6 (X : ab_X p s m args c cc own nL D ca A H0) {i : Nat} {x : Int32} {q0 : Nat × ab_V} {q1 : Nat × ab_V} {q2 : Nat × ab_V} {q3 : Nat × ab_V} {q4 : Nat × ab_V} {q5 : Nat × ab_V} (j0 : Nat) (j1 : Nat) (j2 : Nat) (j3 : Nat) (j4 : Nat) (j5 : Nat) (hd : decode cc pc = .ok (.istore i, 2)) (hn : i < nL) (h0 : lv[j0]? = some q0) (n0 : ab_k i q0 = true) (h1 : lv[j1]? = some q1) (n1 : ab_k i q1 = true) (h2 : lv[j2]? = some q2) (n2 : ab_k i q2 = true) (h3 : lv[j3]? = some q3) (n3 : ab_k i q3 = true) (h4 : lv[j4]? = some q4) (n4 : ab_k i q4 = true) (h5 : lv[j5]? = some q5) (n5 : ab_k i q5 = true) (kk : ab_J p l e R s m args below meth c Q D ca A H0 nL cells slots ad N u (pc + 2) [(i, ab_I x), q0, q1, q2, q3, q4, q5] st) : ab_J p l e R s m args below meth c Q D ca A H0 nL cells slots ad N u pc lv (ab_I x :: st) := ab_istore X hd hn rfl (ab_lv (fun q hq => by
  simp only [List.mem_cons, List.not_mem_nil, or_false] at hq
  rcases hq with rfl | rfl | rfl | rfl | rfl | rfl | rfl
  · exact List.mem_cons_self
  · exact List.mem_cons_of_mem _ (ab_km h0 n0)
  · exact List.mem_cons_of_mem _ (ab_km h1 n1)
  · exact List.mem_cons_of_mem _ (ab_km h2 n2)
  · exact List.mem_cons_of_mem _ (ab_km h3 n3)
  · exact List.mem_cons_of_mem _ (ab_km h4 n4)
  · exact List.mem_cons_of_mem _ (ab_km h5 n5)) kk)
theorem ab_astore_n6 (X : ab_X p s m args c cc own nL D ca A H0) {i : Nat} {k : Fin 4} {x : Option (Nat × Nat)} {q0 : Nat × ab_V} {q1 : Nat × ab_V} {q2 : Nat × ab_V} {q3 : Nat × ab_V} {q4 : Nat × ab_V} {q5 : Nat × ab_V} (j0 : Nat) (j1 : Nat) (j2 : Nat) (j3 : Nat) (j4 : Nat) (j5 : Nat) (hd : decode cc pc = .ok (.astore_n k, 1)) (hi : (k : Nat) = i) (hn : i < nL) (h0 : lv[j0]? = some q0) (n0 : ab_k i q0 = true) (h1 : lv[j1]? = some q1) (n1 : ab_k i q1 = true) (h2 : lv[j2]? = some q2) (n2 : ab_k i q2 = true) (h3 : lv[j3]? = some q3) (n3 : ab_k i q3 = true) (h4 : lv[j4]? = some q4) (n4 : ab_k i q4 = true) (h5 : lv[j5]? = some q5) (n5 : ab_k i q5 = true) (kk : ab_J p l e R s m args below meth c Q D ca A H0 nL cells slots ad N u (pc + 1) [(i, ab_R x), q0, q1, q2, q3, q4, q5] st) : ab_J p l e R s m args below meth c Q D ca A H0 nL cells slots ad N u pc lv (ab_R x :: st) := ab_astore_n X hd hi hn rfl (ab_lv (fun q hq => by
  simp only [List.mem_cons, List.not_mem_nil, or_false] at hq
  rcases hq with rfl | rfl | rfl | rfl | rfl | rfl | rfl
  · exact List.mem_cons_self
  · exact List.mem_cons_of_mem _ (ab_km h0 n0)
  · exact List.mem_cons_of_mem _ (ab_km h1 n1)
  · exact List.mem_cons_of_mem _ (ab_km h2 n2)
  · exact List.mem_cons_of_mem _ (ab_km h3 n3)
  · exact List.mem_cons_of_mem _ (ab_km h4 n4)
  · exact List.mem_cons_of_mem _ (ab_km h5 n5)) kk)
theorem ab_astore6 (X : ab_X p s m args c cc own nL D ca A H0) {i : Nat} {x : Option (Nat × Nat)} {q0 : Nat × ab_V} {q1 : Nat × ab_V} {q2 : Nat × ab_V} {q3 : Nat × ab_V} {q4 : Nat × ab_V} {q5 : Nat × ab_V} (j0 : Nat) (j1 : Nat) (j2 : Nat) (j3 : Nat) (j4 : Nat) (j5 : Nat) (hd : decode cc pc = .ok (.astore i, 2)) (hn : i < nL) (h0 : lv[j0]? = some q0) (n0 : ab_k i q0 = true) (h1 : lv[j1]? = some q1) (n1 : ab_k i q1 = true) (h2 : lv[j2]? = some q2) (n2 : ab_k i q2 = true) (h3 : lv[j3]? = some q3) (n3 : ab_k i q3 = true) (h4 : lv[j4]? = some q4) (n4 : ab_k i q4 = true) (h5 : lv[j5]? = some q5) (n5 : ab_k i q5 = true) (kk : ab_J p l e R s m args below meth c Q D ca A H0 nL cells slots ad N u (pc + 2) [(i, ab_R x), q0, q1, q2, q3, q4, q5] st) : ab_J p l e R s m args below meth c Q D ca A H0 nL cells slots ad N u pc lv (ab_R x :: st) := ab_astore X hd hn rfl (ab_lv (fun q hq => by
  simp only [List.mem_cons, List.not_mem_nil, or_false] at hq
  rcases hq with rfl | rfl | rfl | rfl | rfl | rfl | rfl
  · exact List.mem_cons_self
  · exact List.mem_cons_of_mem _ (ab_km h0 n0)
  · exact List.mem_cons_of_mem _ (ab_km h1 n1)
  · exact List.mem_cons_of_mem _ (ab_km h2 n2)
  · exact List.mem_cons_of_mem _ (ab_km h3 n3)
  · exact List.mem_cons_of_mem _ (ab_km h4 n4)
  · exact List.mem_cons_of_mem _ (ab_km h5 n5)) kk)
theorem ab_iinc6 (X : ab_X p s m args c cc own nL D ca A H0) {i : Nat} {n : Int} {x : Int32} {q0 : Nat × ab_V} {q1 : Nat × ab_V} {q2 : Nat × ab_V} {q3 : Nat × ab_V} {q4 : Nat × ab_V} {q5 : Nat × ab_V} (j : Nat) (j0 : Nat) (j1 : Nat) (j2 : Nat) (j3 : Nat) (j4 : Nat) (j5 : Nat) (hd : decode cc pc = .ok (.iinc i n, 3)) (hk : lv[j]? = some (i, ab_I x)) (hn : i < nL) (h0 : lv[j0]? = some q0) (n0 : ab_k i q0 = true) (h1 : lv[j1]? = some q1) (n1 : ab_k i q1 = true) (h2 : lv[j2]? = some q2) (n2 : ab_k i q2 = true) (h3 : lv[j3]? = some q3) (n3 : ab_k i q3 = true) (h4 : lv[j4]? = some q4) (n4 : ab_k i q4 = true) (h5 : lv[j5]? = some q5) (n5 : ab_k i q5 = true) (kk : ab_J p l e R s m args below meth c Q D ca A H0 nL cells slots ad N u (pc + 3) [(i, ab_I (x + Int32.ofInt n)), q0, q1, q2, q3, q4, q5] st) : ab_J p l e R s m args below meth c Q D ca A H0 nL cells slots ad N u pc lv st := ab_iinc X j hd hk rfl hn rfl (ab_lv (fun q hq => by
  simp only [List.mem_cons, List.not_mem_nil, or_false] at hq
  rcases hq with rfl | rfl | rfl | rfl | rfl | rfl | rfl
  · exact List.mem_cons_self
  · exact List.mem_cons_of_mem _ (ab_km h0 n0)
  · exact List.mem_cons_of_mem _ (ab_km h1 n1)
  · exact List.mem_cons_of_mem _ (ab_km h2 n2)
  · exact List.mem_cons_of_mem _ (ab_km h3 n3)
  · exact List.mem_cons_of_mem _ (ab_km h4 n4)
  · exact List.mem_cons_of_mem _ (ab_km h5 n5)) kk)
theorem ab_istore_n7 (X : ab_X p s m args c cc own nL D ca A H0) {i : Nat} {k : Fin 4} {x : Int32} {q0 : Nat × ab_V} {q1 : Nat × ab_V} {q2 : Nat × ab_V} {q3 : Nat × ab_V} {q4 : Nat × ab_V} {q5 : Nat × ab_V} {q6 : Nat × ab_V} (j0 : Nat) (j1 : Nat) (j2 : Nat) (j3 : Nat) (j4 : Nat) (j5 : Nat) (j6 : Nat) (hd : decode cc pc = .ok (.istore_n k, 1)) (hi : (k : Nat) = i) (hn : i < nL) (h0 : lv[j0]? = some q0) (n0 : ab_k i q0 = true) (h1 : lv[j1]? = some q1) (n1 : ab_k i q1 = true) (h2 : lv[j2]? = some q2) (n2 : ab_k i q2 = true) (h3 : lv[j3]? = some q3) (n3 : ab_k i q3 = true) (h4 : lv[j4]? = some q4) (n4 : ab_k i q4 = true) (h5 : lv[j5]? = some q5) (n5 : ab_k i q5 = true) (h6 : lv[j6]? = some q6) (n6 : ab_k i q6 = true) (kk : ab_J p l e R s m args below meth c Q D ca A H0 nL cells slots ad N u (pc + 1) [(i, ab_I x), q0, q1, q2, q3, q4, q5, q6] st) : ab_J p l e R s m args below meth c Q D ca A H0 nL cells slots ad N u pc lv (ab_I x :: st) := ab_istore_n X hd hi hn rfl (ab_lv (fun q hq => by
  simp only [List.mem_cons, List.not_mem_nil, or_false] at hq
  rcases hq with rfl | rfl | rfl | rfl | rfl | rfl | rfl | rfl
  · exact List.mem_cons_self
  · exact List.mem_cons_of_mem _ (ab_km h0 n0)
  · exact List.mem_cons_of_mem _ (ab_km h1 n1)
  · exact List.mem_cons_of_mem _ (ab_km h2 n2)
  · exact List.mem_cons_of_mem _ (ab_km h3 n3)
  · exact List.mem_cons_of_mem _ (ab_km h4 n4)
  · exact List.mem_cons_of_mem _ (ab_km h5 n5)
  · exact List.mem_cons_of_mem _ (ab_km h6 n6)) kk)
theorem ab_istore7 (X : ab_X p s m args c cc own nL D ca A H0) {i : Nat} {x : Int32} {q0 : Nat × ab_V} {q1 : Nat × ab_V} {q2 : Nat × ab_V} {q3 : Nat × ab_V} {q4 : Nat × ab_V} {q5 : Nat × ab_V} {q6 : Nat × ab_V} (j0 : Nat) (j1 : Nat) (j2 : Nat) (j3 : Nat) (j4 : Nat) (j5 : Nat) (j6 : Nat) (hd : decode cc pc = .ok (.istore i, 2)) (hn : i < nL) (h0 : lv[j0]? = some q0) (n0 : ab_k i q0 = true) (h1 : lv[j1]? = some q1) (n1 : ab_k i q1 = true) (h2 : lv[j2]? = some q2) (n2 : ab_k i q2 = true) (h3 : lv[j3]? = some q3) (n3 : ab_k i q3 = true) (h4 : lv[j4]? = some q4) (n4 : ab_k i q4 = true) (h5 : lv[j5]? = some q5) (n5 : ab_k i q5 = true) (h6 : lv[j6]? = some q6) (n6 : ab_k i q6 = true) (kk : ab_J p l e R s m args below meth c Q D ca A H0 nL cells slots ad N u (pc + 2) [(i, ab_I x), q0, q1, q2, q3, q4, q5, q6] st) : ab_J p l e R s m args below meth c Q D ca A H0 nL cells slots ad N u pc lv (ab_I x :: st) := ab_istore X hd hn rfl (ab_lv (fun q hq => by
  simp only [List.mem_cons, List.not_mem_nil, or_false] at hq
  rcases hq with rfl | rfl | rfl | rfl | rfl | rfl | rfl | rfl
  · exact List.mem_cons_self
  · exact List.mem_cons_of_mem _ (ab_km h0 n0)
  · exact List.mem_cons_of_mem _ (ab_km h1 n1)
  · exact List.mem_cons_of_mem _ (ab_km h2 n2)
  · exact List.mem_cons_of_mem _ (ab_km h3 n3)
  · exact List.mem_cons_of_mem _ (ab_km h4 n4)
  · exact List.mem_cons_of_mem _ (ab_km h5 n5)
  · exact List.mem_cons_of_mem _ (ab_km h6 n6)) kk)
theorem ab_astore_n7 (X : ab_X p s m args c cc own nL D ca A H0) {i : Nat} {k : Fin 4} {x : Option (Nat × Nat)} {q0 : Nat × ab_V} {q1 : Nat × ab_V} {q2 : Nat × ab_V} {q3 : Nat × ab_V} {q4 : Nat × ab_V} {q5 : Nat × ab_V} {q6 : Nat × ab_V} (j0 : Nat) (j1 : Nat) (j2 : Nat) (j3 : Nat) (j4 : Nat) (j5 : Nat) (j6 : Nat) (hd : decode cc pc = .ok (.astore_n k, 1)) (hi : (k : Nat) = i) (hn : i < nL) (h0 : lv[j0]? = some q0) (n0 : ab_k i q0 = true) (h1 : lv[j1]? = some q1) (n1 : ab_k i q1 = true) (h2 : lv[j2]? = some q2) (n2 : ab_k i q2 = true) (h3 : lv[j3]? = some q3) (n3 : ab_k i q3 = true) (h4 : lv[j4]? = some q4) (n4 : ab_k i q4 = true) (h5 : lv[j5]? = some q5) (n5 : ab_k i q5 = true) (h6 : lv[j6]? = some q6) (n6 : ab_k i q6 = true) (kk : ab_J p l e R s m args below meth c Q D ca A H0 nL cells slots ad N u (pc + 1) [(i, ab_R x), q0, q1, q2, q3, q4, q5, q6] st) : ab_J p l e R s m args below meth c Q D ca A H0 nL cells slots ad N u pc lv (ab_R x :: st) := ab_astore_n X hd hi hn rfl (ab_lv (fun q hq => by
  simp only [List.mem_cons, List.not_mem_nil, or_false] at hq
  rcases hq with rfl | rfl | rfl | rfl | rfl | rfl | rfl | rfl
  · exact List.mem_cons_self
  · exact List.mem_cons_of_mem _ (ab_km h0 n0)
  · exact List.mem_cons_of_mem _ (ab_km h1 n1)
  · exact List.mem_cons_of_mem _ (ab_km h2 n2)
  · exact List.mem_cons_of_mem _ (ab_km h3 n3)
  · exact List.mem_cons_of_mem _ (ab_km h4 n4)
  · exact List.mem_cons_of_mem _ (ab_km h5 n5)
  · exact List.mem_cons_of_mem _ (ab_km h6 n6)) kk)
theorem ab_astore7 (X : ab_X p s m args c cc own nL D ca A H0) {i : Nat} {x : Option (Nat × Nat)} {q0 : Nat × ab_V} {q1 : Nat × ab_V} {q2 : Nat × ab_V} {q3 : Nat × ab_V} {q4 : Nat × ab_V} {q5 : Nat × ab_V} {q6 : Nat × ab_V} (j0 : Nat) (j1 : Nat) (j2 : Nat) (j3 : Nat) (j4 : Nat) (j5 : Nat) (j6 : Nat) (hd : decode cc pc = .ok (.astore i, 2)) (hn : i < nL) (h0 : lv[j0]? = some q0) (n0 : ab_k i q0 = true) (h1 : lv[j1]? = some q1) (n1 : ab_k i q1 = true) (h2 : lv[j2]? = some q2) (n2 : ab_k i q2 = true) (h3 : lv[j3]? = some q3) (n3 : ab_k i q3 = true) (h4 : lv[j4]? = some q4) (n4 : ab_k i q4 = true) (h5 : lv[j5]? = some q5) (n5 : ab_k i q5 = true) (h6 : lv[j6]? = some q6) (n6 : ab_k i q6 = true) (kk : ab_J p l e R s m args below meth c Q D ca A H0 nL cells slots ad N u (pc + 2) [(i, ab_R x), q0, q1, q2, q3, q4, q5, q6] st) : ab_J p l e R s m args below meth c Q D ca A H0 nL cells slots ad N u pc lv (ab_R x :: st) := ab_astore X hd hn rfl (ab_lv (fun q hq => by
  simp only [List.mem_cons, List.not_mem_nil, or_false] at hq
  rcases hq with rfl | rfl | rfl | rfl | rfl | rfl | rfl | rfl
  · exact List.mem_cons_self
  · exact List.mem_cons_of_mem _ (ab_km h0 n0)
  · exact List.mem_cons_of_mem _ (ab_km h1 n1)
  · exact List.mem_cons_of_mem _ (ab_km h2 n2)
  · exact List.mem_cons_of_mem _ (ab_km h3 n3)
  · exact List.mem_cons_of_mem _ (ab_km h4 n4)
  · exact List.mem_cons_of_mem _ (ab_km h5 n5)
  · exact List.mem_cons_of_mem _ (ab_km h6 n6)) kk)
theorem ab_iinc7 (X : ab_X p s m args c cc own nL D ca A H0) {i : Nat} {n : Int} {x : Int32} {q0 : Nat × ab_V} {q1 : Nat × ab_V} {q2 : Nat × ab_V} {q3 : Nat × ab_V} {q4 : Nat × ab_V} {q5 : Nat × ab_V} {q6 : Nat × ab_V} (j : Nat) (j0 : Nat) (j1 : Nat) (j2 : Nat) (j3 : Nat) (j4 : Nat) (j5 : Nat) (j6 : Nat) (hd : decode cc pc = .ok (.iinc i n, 3)) (hk : lv[j]? = some (i, ab_I x)) (hn : i < nL) (h0 : lv[j0]? = some q0) (n0 : ab_k i q0 = true) (h1 : lv[j1]? = some q1) (n1 : ab_k i q1 = true) (h2 : lv[j2]? = some q2) (n2 : ab_k i q2 = true) (h3 : lv[j3]? = some q3) (n3 : ab_k i q3 = true) (h4 : lv[j4]? = some q4) (n4 : ab_k i q4 = true) (h5 : lv[j5]? = some q5) (n5 : ab_k i q5 = true) (h6 : lv[j6]? = some q6) (n6 : ab_k i q6 = true) (kk : ab_J p l e R s m args below meth c Q D ca A H0 nL cells slots ad N u (pc + 3) [(i, ab_I (x + Int32.ofInt n)), q0, q1, q2, q3, q4, q5, q6] st) : ab_J p l e R s m args below meth c Q D ca A H0 nL cells slots ad N u pc lv st := ab_iinc X j hd hk rfl hn rfl (ab_lv (fun q hq => by
  simp only [List.mem_cons, List.not_mem_nil, or_false] at hq
  rcases hq with rfl | rfl | rfl | rfl | rfl | rfl | rfl | rfl
  · exact List.mem_cons_self
  · exact List.mem_cons_of_mem _ (ab_km h0 n0)
  · exact List.mem_cons_of_mem _ (ab_km h1 n1)
  · exact List.mem_cons_of_mem _ (ab_km h2 n2)
  · exact List.mem_cons_of_mem _ (ab_km h3 n3)
  · exact List.mem_cons_of_mem _ (ab_km h4 n4)
  · exact List.mem_cons_of_mem _ (ab_km h5 n5)
  · exact List.mem_cons_of_mem _ (ab_km h6 n6)) kk)
theorem ab_istore_n8 (X : ab_X p s m args c cc own nL D ca A H0) {i : Nat} {k : Fin 4} {x : Int32} {q0 : Nat × ab_V} {q1 : Nat × ab_V} {q2 : Nat × ab_V} {q3 : Nat × ab_V} {q4 : Nat × ab_V} {q5 : Nat × ab_V} {q6 : Nat × ab_V} {q7 : Nat × ab_V} (j0 : Nat) (j1 : Nat) (j2 : Nat) (j3 : Nat) (j4 : Nat) (j5 : Nat) (j6 : Nat) (j7 : Nat) (hd : decode cc pc = .ok (.istore_n k, 1)) (hi : (k : Nat) = i) (hn : i < nL) (h0 : lv[j0]? = some q0) (n0 : ab_k i q0 = true) (h1 : lv[j1]? = some q1) (n1 : ab_k i q1 = true) (h2 : lv[j2]? = some q2) (n2 : ab_k i q2 = true) (h3 : lv[j3]? = some q3) (n3 : ab_k i q3 = true) (h4 : lv[j4]? = some q4) (n4 : ab_k i q4 = true) (h5 : lv[j5]? = some q5) (n5 : ab_k i q5 = true) (h6 : lv[j6]? = some q6) (n6 : ab_k i q6 = true) (h7 : lv[j7]? = some q7) (n7 : ab_k i q7 = true) (kk : ab_J p l e R s m args below meth c Q D ca A H0 nL cells slots ad N u (pc + 1) [(i, ab_I x), q0, q1, q2, q3, q4, q5, q6, q7] st) : ab_J p l e R s m args below meth c Q D ca A H0 nL cells slots ad N u pc lv (ab_I x :: st) := ab_istore_n X hd hi hn rfl (ab_lv (fun q hq => by
  simp only [List.mem_cons, List.not_mem_nil, or_false] at hq
  rcases hq with rfl | rfl | rfl | rfl | rfl | rfl | rfl | rfl | rfl
  · exact List.mem_cons_self
  · exact List.mem_cons_of_mem _ (ab_km h0 n0)
  · exact List.mem_cons_of_mem _ (ab_km h1 n1)
  · exact List.mem_cons_of_mem _ (ab_km h2 n2)
  · exact List.mem_cons_of_mem _ (ab_km h3 n3)
  · exact List.mem_cons_of_mem _ (ab_km h4 n4)
  · exact List.mem_cons_of_mem _ (ab_km h5 n5)
  · exact List.mem_cons_of_mem _ (ab_km h6 n6)
  · exact List.mem_cons_of_mem _ (ab_km h7 n7)) kk)
theorem ab_istore8 (X : ab_X p s m args c cc own nL D ca A H0) {i : Nat} {x : Int32} {q0 : Nat × ab_V} {q1 : Nat × ab_V} {q2 : Nat × ab_V} {q3 : Nat × ab_V} {q4 : Nat × ab_V} {q5 : Nat × ab_V} {q6 : Nat × ab_V} {q7 : Nat × ab_V} (j0 : Nat) (j1 : Nat) (j2 : Nat) (j3 : Nat) (j4 : Nat) (j5 : Nat) (j6 : Nat) (j7 : Nat) (hd : decode cc pc = .ok (.istore i, 2)) (hn : i < nL) (h0 : lv[j0]? = some q0) (n0 : ab_k i q0 = true) (h1 : lv[j1]? = some q1) (n1 : ab_k i q1 = true) (h2 : lv[j2]? = some q2) (n2 : ab_k i q2 = true) (h3 : lv[j3]? = some q3) (n3 : ab_k i q3 = true) (h4 : lv[j4]? = some q4) (n4 : ab_k i q4 = true) (h5 : lv[j5]? = some q5) (n5 : ab_k i q5 = true) (h6 : lv[j6]? = some q6) (n6 : ab_k i q6 = true) (h7 : lv[j7]? = some q7) (n7 : ab_k i q7 = true) (kk : ab_J p l e R s m args below meth c Q D ca A H0 nL cells slots ad N u (pc + 2) [(i, ab_I x), q0, q1, q2, q3, q4, q5, q6, q7] st) : ab_J p l e R s m args below meth c Q D ca A H0 nL cells slots ad N u pc lv (ab_I x :: st) := ab_istore X hd hn rfl (ab_lv (fun q hq => by
  simp only [List.mem_cons, List.not_mem_nil, or_false] at hq
  rcases hq with rfl | rfl | rfl | rfl | rfl | rfl | rfl | rfl | rfl
  · exact List.mem_cons_self
  · exact List.mem_cons_of_mem _ (ab_km h0 n0)
  · exact List.mem_cons_of_mem _ (ab_km h1 n1)
  · exact List.mem_cons_of_mem _ (ab_km h2 n2)
  · exact List.mem_cons_of_mem _ (ab_km h3 n3)
  · exact List.mem_cons_of_mem _ (ab_km h4 n4)
  · exact List.mem_cons_of_mem _ (ab_km h5 n5)
  · exact List.mem_cons_of_mem _ (ab_km h6 n6)
  · exact List.mem_cons_of_mem _ (ab_km h7 n7)) kk)
theorem ab_astore_n8 (X : ab_X p s m args c cc own nL D ca A H0) {i : Nat} {k : Fin 4} {x : Option (Nat × Nat)} {q0 : Nat × ab_V} {q1 : Nat × ab_V} {q2 : Nat × ab_V} {q3 : Nat × ab_V} {q4 : Nat × ab_V} {q5 : Nat × ab_V} {q6 : Nat × ab_V} {q7 : Nat × ab_V} (j0 : Nat) (j1 : Nat) (j2 : Nat) (j3 : Nat) (j4 : Nat) (j5 : Nat) (j6 : Nat) (j7 : Nat) (hd : decode cc pc = .ok (.astore_n k, 1)) (hi : (k : Nat) = i) (hn : i < nL) (h0 : lv[j0]? = some q0) (n0 : ab_k i q0 = true) (h1 : lv[j1]? = some q1) (n1 : ab_k i q1 = true) (h2 : lv[j2]? = some q2) (n2 : ab_k i q2 = true) (h3 : lv[j3]? = some q3) (n3 : ab_k i q3 = true) (h4 : lv[j4]? = some q4) (n4 : ab_k i q4 = true) (h5 : lv[j5]? = some q5) (n5 : ab_k i q5 = true) (h6 : lv[j6]? = some q6) (n6 : ab_k i q6 = true) (h7 : lv[j7]? = some q7) (n7 : ab_k i q7 = true) (kk : ab_J p l e R s m args below meth c Q D ca A H0 nL cells slots ad N u (pc + 1) [(i, ab_R x), q0, q1, q2, q3, q4, q5, q6, q7] st) : ab_J p l e R s m args below meth c Q D ca A H0 nL cells slots ad N u pc lv (ab_R x :: st) := ab_astore_n X hd hi hn rfl (ab_lv (fun q hq => by
  simp only [List.mem_cons, List.not_mem_nil, or_false] at hq
  rcases hq with rfl | rfl | rfl | rfl | rfl | rfl | rfl | rfl | rfl
  · exact List.mem_cons_self
  · exact List.mem_cons_of_mem _ (ab_km h0 n0)
  · exact List.mem_cons_of_mem _ (ab_km h1 n1)
  · exact List.mem_cons_of_mem _ (ab_km h2 n2)
  · exact List.mem_cons_of_mem _ (ab_km h3 n3)
  · exact List.mem_cons_of_mem _ (ab_km h4 n4)
  · exact List.mem_cons_of_mem _ (ab_km h5 n5)
  · exact List.mem_cons_of_mem _ (ab_km h6 n6)
  · exact List.mem_cons_of_mem _ (ab_km h7 n7)) kk)
theorem ab_astore8 (X : ab_X p s m args c cc own nL D ca A H0) {i : Nat} {x : Option (Nat × Nat)} {q0 : Nat × ab_V} {q1 : Nat × ab_V} {q2 : Nat × ab_V} {q3 : Nat × ab_V} {q4 : Nat × ab_V} {q5 : Nat × ab_V} {q6 : Nat × ab_V} {q7 : Nat × ab_V} (j0 : Nat) (j1 : Nat) (j2 : Nat) (j3 : Nat) (j4 : Nat) (j5 : Nat) (j6 : Nat) (j7 : Nat) (hd : decode cc pc = .ok (.astore i, 2)) (hn : i < nL) (h0 : lv[j0]? = some q0) (n0 : ab_k i q0 = true) (h1 : lv[j1]? = some q1) (n1 : ab_k i q1 = true) (h2 : lv[j2]? = some q2) (n2 : ab_k i q2 = true) (h3 : lv[j3]? = some q3) (n3 : ab_k i q3 = true) (h4 : lv[j4]? = some q4) (n4 : ab_k i q4 = true) (h5 : lv[j5]? = some q5) (n5 : ab_k i q5 = true) (h6 : lv[j6]? = some q6) (n6 : ab_k i q6 = true) (h7 : lv[j7]? = some q7) (n7 : ab_k i q7 = true) (kk : ab_J p l e R s m args below meth c Q D ca A H0 nL cells slots ad N u (pc + 2) [(i, ab_R x), q0, q1, q2, q3, q4, q5, q6, q7] st) : ab_J p l e R s m args below meth c Q D ca A H0 nL cells slots ad N u pc lv (ab_R x :: st) := ab_astore X hd hn rfl (ab_lv (fun q hq => by
  simp only [List.mem_cons, List.not_mem_nil, or_false] at hq
  rcases hq with rfl | rfl | rfl | rfl | rfl | rfl | rfl | rfl | rfl
  · exact List.mem_cons_self
  · exact List.mem_cons_of_mem _ (ab_km h0 n0)
  · exact List.mem_cons_of_mem _ (ab_km h1 n1)
  · exact List.mem_cons_of_mem _ (ab_km h2 n2)
  · exact List.mem_cons_of_mem _ (ab_km h3 n3)
  · exact List.mem_cons_of_mem _ (ab_km h4 n4)
  · exact List.mem_cons_of_mem _ (ab_km h5 n5)
  · exact List.mem_cons_of_mem _ (ab_km h6 n6)
  · exact List.mem_cons_of_mem _ (ab_km h7 n7)) kk)
theorem ab_iinc8 (X : ab_X p s m args c cc own nL D ca A H0) {i : Nat} {n : Int} {x : Int32} {q0 : Nat × ab_V} {q1 : Nat × ab_V} {q2 : Nat × ab_V} {q3 : Nat × ab_V} {q4 : Nat × ab_V} {q5 : Nat × ab_V} {q6 : Nat × ab_V} {q7 : Nat × ab_V} (j : Nat) (j0 : Nat) (j1 : Nat) (j2 : Nat) (j3 : Nat) (j4 : Nat) (j5 : Nat) (j6 : Nat) (j7 : Nat) (hd : decode cc pc = .ok (.iinc i n, 3)) (hk : lv[j]? = some (i, ab_I x)) (hn : i < nL) (h0 : lv[j0]? = some q0) (n0 : ab_k i q0 = true) (h1 : lv[j1]? = some q1) (n1 : ab_k i q1 = true) (h2 : lv[j2]? = some q2) (n2 : ab_k i q2 = true) (h3 : lv[j3]? = some q3) (n3 : ab_k i q3 = true) (h4 : lv[j4]? = some q4) (n4 : ab_k i q4 = true) (h5 : lv[j5]? = some q5) (n5 : ab_k i q5 = true) (h6 : lv[j6]? = some q6) (n6 : ab_k i q6 = true) (h7 : lv[j7]? = some q7) (n7 : ab_k i q7 = true) (kk : ab_J p l e R s m args below meth c Q D ca A H0 nL cells slots ad N u (pc + 3) [(i, ab_I (x + Int32.ofInt n)), q0, q1, q2, q3, q4, q5, q6, q7] st) : ab_J p l e R s m args below meth c Q D ca A H0 nL cells slots ad N u pc lv st := ab_iinc X j hd hk rfl hn rfl (ab_lv (fun q hq => by
  simp only [List.mem_cons, List.not_mem_nil, or_false] at hq
  rcases hq with rfl | rfl | rfl | rfl | rfl | rfl | rfl | rfl | rfl
  · exact List.mem_cons_self
  · exact List.mem_cons_of_mem _ (ab_km h0 n0)
  · exact List.mem_cons_of_mem _ (ab_km h1 n1)
  · exact List.mem_cons_of_mem _ (ab_km h2 n2)
  · exact List.mem_cons_of_mem _ (ab_km h3 n3)
  · exact List.mem_cons_of_mem _ (ab_km h4 n4)
  · exact List.mem_cons_of_mem _ (ab_km h5 n5)
  · exact List.mem_cons_of_mem _ (ab_km h6 n6)
  · exact List.mem_cons_of_mem _ (ab_km h7 n7)) kk)
theorem ab_istore_n9 (X : ab_X p s m args c cc own nL D ca A H0) {i : Nat} {k : Fin 4} {x : Int32} {q0 : Nat × ab_V} {q1 : Nat × ab_V} {q2 : Nat × ab_V} {q3 : Nat × ab_V} {q4 : Nat × ab_V} {q5 : Nat × ab_V} {q6 : Nat × ab_V} {q7 : Nat × ab_V} {q8 : Nat × ab_V} (j0 : Nat) (j1 : Nat) (j2 : Nat) (j3 : Nat) (j4 : Nat) (j5 : Nat) (j6 : Nat) (j7 : Nat) (j8 : Nat) (hd : decode cc pc = .ok (.istore_n k, 1)) (hi : (k : Nat) = i) (hn : i < nL) (h0 : lv[j0]? = some q0) (n0 : ab_k i q0 = true) (h1 : lv[j1]? = some q1) (n1 : ab_k i q1 = true) (h2 : lv[j2]? = some q2) (n2 : ab_k i q2 = true) (h3 : lv[j3]? = some q3) (n3 : ab_k i q3 = true) (h4 : lv[j4]? = some q4) (n4 : ab_k i q4 = true) (h5 : lv[j5]? = some q5) (n5 : ab_k i q5 = true) (h6 : lv[j6]? = some q6) (n6 : ab_k i q6 = true) (h7 : lv[j7]? = some q7) (n7 : ab_k i q7 = true) (h8 : lv[j8]? = some q8) (n8 : ab_k i q8 = true) (kk : ab_J p l e R s m args below meth c Q D ca A H0 nL cells slots ad N u (pc + 1) [(i, ab_I x), q0, q1, q2, q3, q4, q5, q6, q7, q8] st) : ab_J p l e R s m args below meth c Q D ca A H0 nL cells slots ad N u pc lv (ab_I x :: st) := ab_istore_n X hd hi hn rfl (ab_lv (fun q hq => by
  simp only [List.mem_cons, List.not_mem_nil, or_false] at hq
  rcases hq with rfl | rfl | rfl | rfl | rfl | rfl | rfl | rfl | rfl | rfl
  · exact List.mem_cons_self
  · exact List.mem_cons_of_mem _ (ab_km h0 n0)
  · exact List.mem_cons_of_mem _ (ab_km h1 n1)
  · exact List.mem_cons_of_mem _ (ab_km h2 n2)
  · exact List.mem_cons_of_mem _ (ab_km h3 n3)
  · exact List.mem_cons_of_mem _ (ab_km h4 n4)
  · exact List.mem_cons_of_mem _ (ab_km h5 n5)
  · exact List.mem_cons_of_mem _ (ab_km h6 n6)
  · exact List.mem_cons_of_mem _ (ab_km h7 n7)
  · exact List.mem_cons_of_mem _ (ab_km h8 n8)) kk)
theorem ab_istore9 (X : ab_X p s m args c cc own nL D ca A H0) {i : Nat} {x : Int32} {q0 : Nat × ab_V} {q1 : Nat × ab_V} {q2 : Nat × ab_V} {q3 : Nat × ab_V} {q4 : Nat × ab_V} {q5 : Nat × ab_V} {q6 : Nat × ab_V} {q7 : Nat × ab_V} {q8 : Nat × ab_V} (j0 : Nat) (j1 : Nat) (j2 : Nat) (j3 : Nat) (j4 : Nat) (j5 : Nat) (j6 : Nat) (j7 : Nat) (j8 : Nat) (hd : decode cc pc = .ok (.istore i, 2)) (hn : i < nL) (h0 : lv[j0]? = some q0) (n0 : ab_k i q0 = true) (h1 : lv[j1]? = some q1) (n1 : ab_k i q1 = true) (h2 : lv[j2]? = some q2) (n2 : ab_k i q2 = true) (h3 : lv[j3]? = some q3) (n3 : ab_k i q3 = true) (h4 : lv[j4]? = some q4) (n4 : ab_k i q4 = true) (h5 : lv[j5]? = some q5) (n5 : ab_k i q5 = true) (h6 : lv[j6]? = some q6) (n6 : ab_k i q6 = true) (h7 : lv[j7]? = some q7) (n7 : ab_k i q7 = true) (h8 : lv[j8]? = some q8) (n8 : ab_k i q8 = true) (kk : ab_J p l e R s m args below meth c Q D ca A H0 nL cells slots ad N u (pc + 2) [(i, ab_I x), q0, q1, q2, q3, q4, q5, q6, q7, q8] st) : ab_J p l e R s m args below meth c Q D ca A H0 nL cells slots ad N u pc lv (ab_I x :: st) := ab_istore X hd hn rfl (ab_lv (fun q hq => by
  simp only [List.mem_cons, List.not_mem_nil, or_false] at hq
  rcases hq with rfl | rfl | rfl | rfl | rfl | rfl | rfl | rfl | rfl | rfl
  · exact List.mem_cons_self
  · exact List.mem_cons_of_mem _ (ab_km h0 n0)
  · exact List.mem_cons_of_mem _ (ab_km h1 n1)
  · exact List.mem_cons_of_mem _ (ab_km h2 n2)
  · exact List.mem_cons_of_mem _ (ab_km h3 n3)
  · exact List.mem_cons_of_mem _ (ab_km h4 n4)
  · exact List.mem_cons_of_mem _ (ab_km h5 n5)
  · exact List.mem_cons_of_mem _ (ab_km h6 n6)
  · exact List.mem_cons_of_mem _ (ab_km h7 n7)
  · exact List.mem_cons_of_mem _ (ab_km h8 n8)) kk)
theorem ab_astore_n9 (X : ab_X p s m args c cc own nL D ca A H0) {i : Nat} {k : Fin 4} {x : Option (Nat × Nat)} {q0 : Nat × ab_V} {q1 : Nat × ab_V} {q2 : Nat × ab_V} {q3 : Nat × ab_V} {q4 : Nat × ab_V} {q5 : Nat × ab_V} {q6 : Nat × ab_V} {q7 : Nat × ab_V} {q8 : Nat × ab_V} (j0 : Nat) (j1 : Nat) (j2 : Nat) (j3 : Nat) (j4 : Nat) (j5 : Nat) (j6 : Nat) (j7 : Nat) (j8 : Nat) (hd : decode cc pc = .ok (.astore_n k, 1)) (hi : (k : Nat) = i) (hn : i < nL) (h0 : lv[j0]? = some q0) (n0 : ab_k i q0 = true) (h1 : lv[j1]? = some q1) (n1 : ab_k i q1 = true) (h2 : lv[j2]? = some q2) (n2 : ab_k i q2 = true) (h3 : lv[j3]? = some q3) (n3 : ab_k i q3 = true) (h4 : lv[j4]? = some q4) (n4 : ab_k i q4 = true) (h5 : lv[j5]? = some q5) (n5 : ab_k i q5 = true) (h6 : lv[j6]? = some q6) (n6 : ab_k i q6 = true) (h7 : lv[j7]? = some q7) (n7 : ab_k i q7 = true) (h8 : lv[j8]? = some q8) (n8 : ab_k i q8 = true) (kk : ab_J p l e R s m args below meth c Q D ca A H0 nL cells slots ad N u (pc + 1) [(i, ab_R x), q0, q1, q2, q3, q4, q5, q6, q7, q8] st) : ab_J p l e R s m args below meth c Q D ca A H0 nL cells slots ad N u pc lv (ab_R x :: st) := ab_astore_n X hd hi hn rfl (ab_lv (fun q hq => by
  simp only [List.mem_cons, List.not_mem_nil, or_false] at hq
  rcases hq with rfl | rfl | rfl | rfl | rfl | rfl | rfl | rfl | rfl | rfl
  · exact List.mem_cons_self
  · exact List.mem_cons_of_mem _ (ab_km h0 n0)
  · exact List.mem_cons_of_mem _ (ab_km h1 n1)
  · exact List.mem_cons_of_mem _ (ab_km h2 n2)
  · exact List.mem_cons_of_mem _ (ab_km h3 n3)
  · exact List.mem_cons_of_mem _ (ab_km h4 n4)
  · exact List.mem_cons_of_mem _ (ab_km h5 n5)
  · exact List.mem_cons_of_mem _ (ab_km h6 n6)
  · exact List.mem_cons_of_mem _ (ab_km h7 n7)
  · exact List.mem_cons_of_mem _ (ab_km h8 n8)) kk)
theorem ab_astore9 (X : ab_X p s m args c cc own nL D ca A H0) {i : Nat} {x : Option (Nat × Nat)} {q0 : Nat × ab_V} {q1 : Nat × ab_V} {q2 : Nat × ab_V} {q3 : Nat × ab_V} {q4 : Nat × ab_V} {q5 : Nat × ab_V} {q6 : Nat × ab_V} {q7 : Nat × ab_V} {q8 : Nat × ab_V} (j0 : Nat) (j1 : Nat) (j2 : Nat) (j3 : Nat) (j4 : Nat) (j5 : Nat) (j6 : Nat) (j7 : Nat) (j8 : Nat) (hd : decode cc pc = .ok (.astore i, 2)) (hn : i < nL) (h0 : lv[j0]? = some q0) (n0 : ab_k i q0 = true) (h1 : lv[j1]? = some q1) (n1 : ab_k i q1 = true) (h2 : lv[j2]? = some q2) (n2 : ab_k i q2 = true) (h3 : lv[j3]? = some q3) (n3 : ab_k i q3 = true) (h4 : lv[j4]? = some q4) (n4 : ab_k i q4 = true) (h5 : lv[j5]? = some q5) (n5 : ab_k i q5 = true) (h6 : lv[j6]? = some q6) (n6 : ab_k i q6 = true) (h7 : lv[j7]? = some q7) (n7 : ab_k i q7 = true) (h8 : lv[j8]? = some q8) (n8 : ab_k i q8 = true) (kk : ab_J p l e R s m args below meth c Q D ca A H0 nL cells slots ad N u (pc + 2) [(i, ab_R x), q0, q1, q2, q3, q4, q5, q6, q7, q8] st) : ab_J p l e R s m args below meth c Q D ca A H0 nL cells slots ad N u pc lv (ab_R x :: st) := ab_astore X hd hn rfl (ab_lv (fun q hq => by
  simp only [List.mem_cons, List.not_mem_nil, or_false] at hq
  rcases hq with rfl | rfl | rfl | rfl | rfl | rfl | rfl | rfl | rfl | rfl
  · exact List.mem_cons_self
  · exact List.mem_cons_of_mem _ (ab_km h0 n0)
  · exact List.mem_cons_of_mem _ (ab_km h1 n1)
  · exact List.mem_cons_of_mem _ (ab_km h2 n2)
  · exact List.mem_cons_of_mem _ (ab_km h3 n3)
  · exact List.mem_cons_of_mem _ (ab_km h4 n4)
  · exact List.mem_cons_of_mem _ (ab_km h5 n5)
  · exact List.mem_cons_of_mem _ (ab_km h6 n6)
  · exact List.mem_cons_of_mem _ (ab_km h7 n7)
  · exact List.mem_cons_of_mem _ (ab_km h8 n8)) kk)
theorem ab_iinc9 (X : ab_X p s m args c cc own nL D ca A H0) {i : Nat} {n : Int} {x : Int32} {q0 : Nat × ab_V} {q1 : Nat × ab_V} {q2 : Nat × ab_V} {q3 : Nat × ab_V} {q4 : Nat × ab_V} {q5 : Nat × ab_V} {q6 : Nat × ab_V} {q7 : Nat × ab_V} {q8 : Nat × ab_V} (j : Nat) (j0 : Nat) (j1 : Nat) (j2 : Nat) (j3 : Nat) (j4 : Nat) (j5 : Nat) (j6 : Nat) (j7 : Nat) (j8 : Nat) (hd : decode cc pc = .ok (.iinc i n, 3)) (hk : lv[j]? = some (i, ab_I x)) (hn : i < nL) (h0 : lv[j0]? = some q0) (n0 : ab_k i q0 = true) (h1 : lv[j1]? = some q1) (n1 : ab_k i q1 = true) (h2 : lv[j2]? = some q2) (n2 : ab_k i q2 = true) (h3 : lv[j3]? = some q3) (n3 : ab_k i q3 = true) (h4 : lv[j4]? = some q4) (n4 : ab_k i q4 = true) (h5 : lv[j5]? = some q5) (n5 : ab_k i q5 = true) (h6 : lv[j6]? = some q6) (n6 : ab_k i q6 = true) (h7 : lv[j7]? = some q7) (n7 : ab_k i q7 = true) (h8 : lv[j8]? = some q8) (n8 : ab_k i q8 = true) (kk : ab_J p l e R s m args below meth c Q D ca A H0 nL cells slots ad N u (pc + 3) [(i, ab_I (x + Int32.ofInt n)), q0, q1, q2, q3, q4, q5, q6, q7, q8] st) : ab_J p l e R s m args below meth c Q D ca A H0 nL cells slots ad N u pc lv st := ab_iinc X j hd hk rfl hn rfl (ab_lv (fun q hq => by
  simp only [List.mem_cons, List.not_mem_nil, or_false] at hq
  rcases hq with rfl | rfl | rfl | rfl | rfl | rfl | rfl | rfl | rfl | rfl
  · exact List.mem_cons_self
  · exact List.mem_cons_of_mem _ (ab_km h0 n0)
  · exact List.mem_cons_of_mem _ (ab_km h1 n1)
  · exact List.mem_cons_of_mem _ (ab_km h2 n2)
  · exact List.mem_cons_of_mem _ (ab_km h3 n3)
  · exact List.mem_cons_of_mem _ (ab_km h4 n4)
  · exact List.mem_cons_of_mem _ (ab_km h5 n5)
  · exact List.mem_cons_of_mem _ (ab_km h6 n6)
  · exact List.mem_cons_of_mem _ (ab_km h7 n7)
  · exact List.mem_cons_of_mem _ (ab_km h8 n8)) kk)
theorem ab_gI (X : ab_X p s m args c cc own nL D ca A H0) {idx c' k i : Nat} {v : Int32} (hf : ab_fl own idx c' k 0) (hd : decode cc pc = .ok (.getfield idx, 3)) (hi : i < N c') (hv : u.1 c' i k = v) (kk : ab_J p l e R s m args below meth c Q D ca A H0 nL cells slots ad N u (pc + 3) lv (ab_I v :: st)) : ab_J p l e R s m args below meth c Q D ca A H0 nL cells slots ad N u pc lv (ab_O c' i :: st) := ab_getI X hf hd hi (by rw [hv]; exact kk)
theorem ab_gR (X : ab_X p s m args c cc own nL D ca A H0) {idx c' k i : Nat} {r : Option (Nat × Nat)} (hf : ab_fl own idx c' k 1) (hd : decode cc pc = .ok (.getfield idx, 3)) (hi : i < N c') (hv : u.2.1 c' i k = r) (kk : ab_J p l e R s m args below meth c Q D ca A H0 nL cells slots ad N u (pc + 3) lv (ab_R r :: st)) : ab_J p l e R s m args below meth c Q D ca A H0 nL cells slots ad N u pc lv (ab_O c' i :: st) := ab_getR X hf hd hi (by rw [hv]; exact kk)
/-- another name for the state -/
theorem ab_u {u' : ab_S} (h : u = u') (kk : ab_J p l e R s m args below meth c Q D ca A H0 nL cells slots ad N u' pc lv st) : ab_J p l e R s m args below meth c Q D ca A H0 nL cells slots ad N u pc lv st := by rw [h]; exact kk
theorem ab_top {x v : Int32} (h : x = v) (kk : ab_J p l e R s m args below meth c Q D ca A H0 nL cells slots ad N u pc lv (ab_I v :: st)) : ab_J p l e R s m args below meth c Q D ca A H0 nL cells slots ad N u pc lv (ab_I x :: st) := by rw [h]; exact kk
end AbS
