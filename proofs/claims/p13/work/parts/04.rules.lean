/-! The judgement and its rules, an instruction each. -/
/-- what stays the same in a method's body -/
def ab_X (p : Program) (s : State) (m : MethodId) (args : Array Value) (c : Code) (cc : ByteArray) (own : String) (nL : Nat) (D : va_G) (ca : Nat → ClassId) (A : Nat → Prop) (H0 : Heap) : Prop :=
  p.tables.exec = Jvm.exec ∧ c.code = cc ∧ c.maxLocals = nL ∧ s.vm.findClass own = some m.cls ∧ (∀ w ∈ ab_T, w.before args s = true) ∧ va_K D vwCl (ab_tys ca) s ∧ (∀ q : Nat, H0.size ≤ q → A q) ∧ ab_Nw s
def ab_J (p : Program) (l : Launch) (e : Env) (R : Room) (s : State) (m : MethodId) (args : Array Value) (below : List Frame) (meth : Method) (c : Code) (Q : State → Prop) (D : va_G) (ca : Nat → ClassId) (A : Nat → Prop) (H0 : Heap) (nL cells slots : Nat) (ad : ab_Ad) (N : Nat → Nat) (u : ab_S) (pc : Nat) (lv : List (Nat × ab_V)) (st : List ab_V) : Prop :=
  ∀ (H : Heap) (locs : List Loc) (ls : Array Slot), ab_W D ca ad N u A H → va_S A H0 H locs → lv_has ls nL (lv.map fun q => (q.1, ab_cv ad q.2)) → W p l e R s m args below meth c H locs cells slots Q (F0 m pc ls (st.map (ab_cv ad)))
def ab_ft (i : Nat) (lv : List (Nat × ab_V)) : List (Nat × ab_V) := lv.filter fun q => !(q.1 == i) && !(q.1 + 1 == i && ab_is2 q.2)
theorem ab_ft_map (ad : ab_Ad) (i : Nat) (lv : List (Nat × ab_V)) : (lv.map fun q => (q.1, ab_cv ad q.2)).filter (fun q => !(q.1 == i) && !(q.1 + 1 == i && q.2.category == 2)) = (ab_ft i lv).map fun q => (q.1, ab_cv ad q.2) := by
  unfold ab_ft
  rw [List.filter_map]
  congr 1
  apply List.filter_congr
  intro q _
  show (!(q.1 == i) && !(q.1 + 1 == i && (ab_cv ad q.2).category == 2)) = _
  rw [ab_cat]
def ab_ft2 (i : Nat) (lv : List (Nat × ab_V)) : List (Nat × ab_V) := lv.filter fun q => !(q.1 == i) && (!(q.1 == i + 1) && !(q.1 + 1 == i && ab_is2 q.2))
theorem ab_ft2_map (ad : ab_Ad) (i : Nat) (lv : List (Nat × ab_V)) : (lv.map fun q => (q.1, ab_cv ad q.2)).filter (fun q => !(q.1 == i) && (!(q.1 == i + 1) && !(q.1 + 1 == i && q.2.category == 2))) = (ab_ft2 i lv).map fun q => (q.1, ab_cv ad q.2) := by
  unfold ab_ft2
  rw [List.filter_map]
  congr 1
  apply List.filter_congr
  intro q _
  show (!(q.1 == i) && (!(q.1 == i + 1) && !(q.1 + 1 == i && (ab_cv ad q.2).category == 2))) = _
  rw [ab_cat]
theorem ab_lv_at {ad : ab_Ad} {lv : List (Nat × ab_V)} {k i : Nat} {v : ab_V} (hk : lv[k]? = some (i, v)) : (lv.map fun q => (q.1, ab_cv ad q.2))[k]? = some (i, ab_cv ad v) := by
  rw [List.getElem?_map, hk]; rfl
section AbJ
variable {p : Program} {l : Launch} {e : Env} {R : Room} {s : State} {m : MethodId} {args : Array Value} {below : List Frame} {meth : Method} {c : Code} {Q : State → Prop}
variable {cc : ByteArray} {own : String} {nL : Nat} {D : va_G} {ca : Nat → ClassId} {A : Nat → Prop} {H0 : Heap} {cells slots : Nat} {ad : ab_Ad} {N : Nat → Nat} {u : ab_S} {pc : Nat} {lv : List (Nat × ab_V)} {st : List ab_V}
theorem ab_iconst (X : ab_X p s m args c cc own nL D ca A H0) {n : Int} {v : Int32} (hd : decode cc pc = .ok (.iconst n, 1)) (hv : Int32.ofInt n = v) (k : ab_J p l e R s m args below meth c Q D ca A H0 nL cells slots ad N u (pc + 1) lv (ab_I v :: st)) : ab_J p l e R s m args below meth c Q D ca A H0 nL cells slots ad N u pc lv (st) := fun H locs ls hW hS hl => lv_iconst X.1 X.2.1 hd hv (k H locs ls hW hS hl)
theorem ab_bipush (X : ab_X p s m args c cc own nL D ca A H0) {n : Int} {v : Int32} (hd : decode cc pc = .ok (.bipush n, 2)) (hv : (Int8.ofInt n).toInt32 = v) (k : ab_J p l e R s m args below meth c Q D ca A H0 nL cells slots ad N u (pc + 2) lv (ab_I v :: st)) : ab_J p l e R s m args below meth c Q D ca A H0 nL cells slots ad N u pc lv (st) := fun H locs ls hW hS hl => lv_bipush X.1 X.2.1 hd hv (k H locs ls hW hS hl)
theorem ab_sipush (X : ab_X p s m args c cc own nL D ca A H0) {n : Int} {v : Int32} (hd : decode cc pc = .ok (.sipush n, 3)) (hv : (Int16.ofInt n).toInt32 = v) (k : ab_J p l e R s m args below meth c Q D ca A H0 nL cells slots ad N u (pc + 3) lv (ab_I v :: st)) : ab_J p l e R s m args below meth c Q D ca A H0 nL cells slots ad N u pc lv (st) := fun H locs ls hW hS hl => lv_sipush X.1 X.2.1 hd hv (k H locs ls hW hS hl)
theorem ab_lconst (X : ab_X p s m args c cc own nL D ca A H0) {n : Fin 2} {v : Int64} (hd : decode cc pc = .ok (.lconst n, 1)) (hv : Int64.ofNat (n : Nat) = v) (k : ab_J p l e R s m args below meth c Q D ca A H0 nL cells slots ad N u (pc + 1) lv (ab_L v :: st)) : ab_J p l e R s m args below meth c Q D ca A H0 nL cells slots ad N u pc lv (st) := fun H locs ls hW hS hl => lv_lconst X.1 X.2.1 hd hv (k H locs ls hW hS hl)
theorem ab_null (X : ab_X p s m args c cc own nL D ca A H0)  (hd : decode cc pc = .ok (.aconst_null, 1))  (k : ab_J p l e R s m args below meth c Q D ca A H0 nL cells slots ad N u (pc + 1) lv (ab_R none :: st)) : ab_J p l e R s m args below meth c Q D ca A H0 nL cells slots ad N u pc lv (st) := fun H locs ls hW hS hl => lv_null X.1 X.2.1 hd (k H locs ls hW hS hl)
theorem ab_iadd (X : ab_X p s m args c cc own nL D ca A H0) {x y : Int32} (hd : decode cc pc = .ok (.iadd, 1))  (k : ab_J p l e R s m args below meth c Q D ca A H0 nL cells slots ad N u (pc + 1) lv (ab_I (x + y) :: st)) : ab_J p l e R s m args below meth c Q D ca A H0 nL cells slots ad N u pc lv (ab_I y :: ab_I x :: st) := fun H locs ls hW hS hl => lv_iadd X.1 X.2.1 hd (k H locs ls hW hS hl)
theorem ab_isub (X : ab_X p s m args c cc own nL D ca A H0) {x y : Int32} (hd : decode cc pc = .ok (.isub, 1))  (k : ab_J p l e R s m args below meth c Q D ca A H0 nL cells slots ad N u (pc + 1) lv (ab_I (x - y) :: st)) : ab_J p l e R s m args below meth c Q D ca A H0 nL cells slots ad N u pc lv (ab_I y :: ab_I x :: st) := fun H locs ls hW hS hl => lv_isub X.1 X.2.1 hd (k H locs ls hW hS hl)
theorem ab_imul (X : ab_X p s m args c cc own nL D ca A H0) {x y : Int32} (hd : decode cc pc = .ok (.imul, 1))  (k : ab_J p l e R s m args below meth c Q D ca A H0 nL cells slots ad N u (pc + 1) lv (ab_I (x * y) :: st)) : ab_J p l e R s m args below meth c Q D ca A H0 nL cells slots ad N u pc lv (ab_I y :: ab_I x :: st) := fun H locs ls hW hS hl => lv_imul X.1 X.2.1 hd (k H locs ls hW hS hl)
theorem ab_iand (X : ab_X p s m args c cc own nL D ca A H0) {x y : Int32} (hd : decode cc pc = .ok (.iand, 1))  (k : ab_J p l e R s m args below meth c Q D ca A H0 nL cells slots ad N u (pc + 1) lv (ab_I (x &&& y) :: st)) : ab_J p l e R s m args below meth c Q D ca A H0 nL cells slots ad N u pc lv (ab_I y :: ab_I x :: st) := fun H locs ls hW hS hl => lv_iand X.1 X.2.1 hd (k H locs ls hW hS hl)
theorem ab_ior (X : ab_X p s m args c cc own nL D ca A H0) {x y : Int32} (hd : decode cc pc = .ok (.ior, 1))  (k : ab_J p l e R s m args below meth c Q D ca A H0 nL cells slots ad N u (pc + 1) lv (ab_I (x ||| y) :: st)) : ab_J p l e R s m args below meth c Q D ca A H0 nL cells slots ad N u pc lv (ab_I y :: ab_I x :: st) := fun H locs ls hW hS hl => lv_ior X.1 X.2.1 hd (k H locs ls hW hS hl)
theorem ab_ixor (X : ab_X p s m args c cc own nL D ca A H0) {x y : Int32} (hd : decode cc pc = .ok (.ixor, 1))  (k : ab_J p l e R s m args below meth c Q D ca A H0 nL cells slots ad N u (pc + 1) lv (ab_I (x ^^^ y) :: st)) : ab_J p l e R s m args below meth c Q D ca A H0 nL cells slots ad N u pc lv (ab_I y :: ab_I x :: st) := fun H locs ls hW hS hl => lv_ixor X.1 X.2.1 hd (k H locs ls hW hS hl)
theorem ab_ishl (X : ab_X p s m args c cc own nL D ca A H0) {x y : Int32} (hd : decode cc pc = .ok (.ishl, 1))  (k : ab_J p l e R s m args below meth c Q D ca A H0 nL cells slots ad N u (pc + 1) lv (ab_I (x <<< (y &&& 31)) :: st)) : ab_J p l e R s m args below meth c Q D ca A H0 nL cells slots ad N u pc lv (ab_I y :: ab_I x :: st) := fun H locs ls hW hS hl => lv_ishl X.1 X.2.1 hd (k H locs ls hW hS hl)
theorem ab_ishr (X : ab_X p s m args c cc own nL D ca A H0) {x y : Int32} (hd : decode cc pc = .ok (.ishr, 1))  (k : ab_J p l e R s m args below meth c Q D ca A H0 nL cells slots ad N u (pc + 1) lv (ab_I (x >>> (y &&& 31)) :: st)) : ab_J p l e R s m args below meth c Q D ca A H0 nL cells slots ad N u pc lv (ab_I y :: ab_I x :: st) := fun H locs ls hW hS hl => lv_ishr X.1 X.2.1 hd (k H locs ls hW hS hl)
theorem ab_iushr (X : ab_X p s m args c cc own nL D ca A H0) {x y : Int32} (hd : decode cc pc = .ok (.iushr, 1))  (k : ab_J p l e R s m args below meth c Q D ca A H0 nL cells slots ad N u (pc + 1) lv (ab_I (x.toUInt32 >>> (y.toUInt32 &&& Int32.toUInt32 31)).toInt32 :: st)) : ab_J p l e R s m args below meth c Q D ca A H0 nL cells slots ad N u pc lv (ab_I y :: ab_I x :: st) := fun H locs ls hW hS hl => lv_iushr X.1 X.2.1 hd rfl (k H locs ls hW hS hl)
theorem ab_idiv (X : ab_X p s m args c cc own nL D ca A H0) {x y : Int32} (hd : decode cc pc = .ok (.idiv, 1)) (hne : ¬ y = 0) (k : ab_J p l e R s m args below meth c Q D ca A H0 nL cells slots ad N u (pc + 1) lv (ab_I (x / y) :: st)) : ab_J p l e R s m args below meth c Q D ca A H0 nL cells slots ad N u pc lv (ab_I y :: ab_I x :: st) := fun H locs ls hW hS hl => lv_idiv X.1 X.2.1 hd hne (k H locs ls hW hS hl)
theorem ab_irem (X : ab_X p s m args c cc own nL D ca A H0) {x y : Int32} (hd : decode cc pc = .ok (.irem, 1)) (hne : ¬ y = 0) (k : ab_J p l e R s m args below meth c Q D ca A H0 nL cells slots ad N u (pc + 1) lv (ab_I (x - x / y * y) :: st)) : ab_J p l e R s m args below meth c Q D ca A H0 nL cells slots ad N u pc lv (ab_I y :: ab_I x :: st) := fun H locs ls hW hS hl => lv_irem X.1 X.2.1 hd hne (k H locs ls hW hS hl)
theorem ab_i2l (X : ab_X p s m args c cc own nL D ca A H0) {x : Int32} (hd : decode cc pc = .ok (.i2l, 1))  (k : ab_J p l e R s m args below meth c Q D ca A H0 nL cells slots ad N u (pc + 1) lv (ab_L x.toInt64 :: st)) : ab_J p l e R s m args below meth c Q D ca A H0 nL cells slots ad N u pc lv (ab_I x :: st) := fun H locs ls hW hS hl => lv_i2l X.1 X.2.1 hd rfl (k H locs ls hW hS hl)
theorem ab_l2i (X : ab_X p s m args c cc own nL D ca A H0) {x : Int64} (hd : decode cc pc = .ok (.l2i, 1))  (k : ab_J p l e R s m args below meth c Q D ca A H0 nL cells slots ad N u (pc + 1) lv (ab_I x.toInt32 :: st)) : ab_J p l e R s m args below meth c Q D ca A H0 nL cells slots ad N u pc lv (ab_L x :: st) := fun H locs ls hW hS hl => lv_l2i X.1 X.2.1 hd rfl (k H locs ls hW hS hl)
theorem ab_i2b (X : ab_X p s m args c cc own nL D ca A H0) {x : Int32} (hd : decode cc pc = .ok (.i2b, 1))  (k : ab_J p l e R s m args below meth c Q D ca A H0 nL cells slots ad N u (pc + 1) lv (ab_I x.toInt8.toInt32 :: st)) : ab_J p l e R s m args below meth c Q D ca A H0 nL cells slots ad N u pc lv (ab_I x :: st) := fun H locs ls hW hS hl => lv_i2b X.1 X.2.1 hd rfl (k H locs ls hW hS hl)
theorem ab_lshr (X : ab_X p s m args c cc own nL D ca A H0) {x : Int64} {y : Int32} (hd : decode cc pc = .ok (.lshr, 1))  (k : ab_J p l e R s m args below meth c Q D ca A H0 nL cells slots ad N u (pc + 1) lv (ab_L (x >>> (y.toInt64 &&& 63)) :: st)) : ab_J p l e R s m args below meth c Q D ca A H0 nL cells slots ad N u pc lv (ab_I y :: ab_L x :: st) := fun H locs ls hW hS hl => lv_lshr X.1 X.2.1 hd rfl (k H locs ls hW hS hl)
theorem ab_lcmp (X : ab_X p s m args c cc own nL D ca A H0) {x y : Int64} (hd : decode cc pc = .ok (.lcmp, 1))  (k : ab_J p l e R s m args below meth c Q D ca A H0 nL cells slots ad N u (pc + 1) lv (ab_I (lg_cmp x y) :: st)) : ab_J p l e R s m args below meth c Q D ca A H0 nL cells slots ad N u pc lv (ab_L y :: ab_L x :: st) := fun H locs ls hW hS hl => W.lcmp X.1 X.2.1 hd (k H locs ls hW hS hl)
theorem ab_cat1 {ad : ab_Ad} {v : ab_V} (h : ab_is2 v = false) : (ab_cv ad v).category = 1 := by
  rcases lv_cat (ab_cv ad v) with q | q
  · exact q
  · have := ab_cat ad v
    rw [h, q] at this
    cases this
theorem ab_dup (X : ab_X p s m args c cc own nL D ca A H0) {v : ab_V} (hd : decode cc pc = .ok (.dup, 1)) (hv : ab_is2 v = false) (k : ab_J p l e R s m args below meth c Q D ca A H0 nL cells slots ad N u (pc + 1) lv (v :: v :: st)) : ab_J p l e R s m args below meth c Q D ca A H0 nL cells slots ad N u pc lv (v :: st) := fun H locs ls hW hS hl => lv_dup X.1 X.2.1 hd (ab_cat1 hv) (k H locs ls hW hS hl)
theorem ab_pop (X : ab_X p s m args c cc own nL D ca A H0) {v : ab_V} (hd : decode cc pc = .ok (.pop, 1)) (hv : ab_is2 v = false) (k : ab_J p l e R s m args below meth c Q D ca A H0 nL cells slots ad N u (pc + 1) lv (st)) : ab_J p l e R s m args below meth c Q D ca A H0 nL cells slots ad N u pc lv (v :: st) := fun H locs ls hW hS hl => lv_pop X.1 X.2.1 hd (ab_cat1 hv) (k H locs ls hW hS hl)
theorem ab_dup_x1 (X : ab_X p s m args c cc own nL D ca A H0) {v w : ab_V} (hd : decode cc pc = .ok (.dup_x1, 1)) (hv : ab_is2 v = false) (hw : ab_is2 w = false) (k : ab_J p l e R s m args below meth c Q D ca A H0 nL cells slots ad N u (pc + 1) lv (v :: w :: v :: st)) : ab_J p l e R s m args below meth c Q D ca A H0 nL cells slots ad N u pc lv (v :: w :: st) := fun H locs ls hW hS hl => lv_dup_x1 X.1 X.2.1 hd (ab_cat1 hv) (ab_cat1 hw) (k H locs ls hW hS hl)
theorem ab_dup_x2 (X : ab_X p s m args c cc own nL D ca A H0) {v w x : ab_V} (hd : decode cc pc = .ok (.dup_x2, 1)) (hv : ab_is2 v = false) (hw : ab_is2 w = false) (hx : ab_is2 x = false) (k : ab_J p l e R s m args below meth c Q D ca A H0 nL cells slots ad N u (pc + 1) lv (v :: w :: x :: v :: st)) : ab_J p l e R s m args below meth c Q D ca A H0 nL cells slots ad N u pc lv (v :: w :: x :: st) := fun H locs ls hW hS hl => lv_dup_x2 X.1 X.2.1 hd (ab_cat1 hv) (ab_cat1 hw) (ab_cat1 hx) (k H locs ls hW hS hl)
theorem ab_dup2 (X : ab_X p s m args c cc own nL D ca A H0) {v w : ab_V} (hd : decode cc pc = .ok (.dup2, 1)) (hv : ab_is2 v = false) (hw : ab_is2 w = false) (k : ab_J p l e R s m args below meth c Q D ca A H0 nL cells slots ad N u (pc + 1) lv (v :: w :: v :: w :: st)) : ab_J p l e R s m args below meth c Q D ca A H0 nL cells slots ad N u pc lv (v :: w :: st) := fun H locs ls hW hS hl => lv_dup2_11 X.1 X.2.1 hd (ab_cat1 hv) (ab_cat1 hw) (k H locs ls hW hS hl)
theorem ab_iload_n (X : ab_X p s m args c cc own nL D ca A H0) {k : Fin 4} {i : Nat} {x : Int32} (j : Nat) (hd : decode cc pc = .ok (.iload_n k, 1)) (hi : (k : Nat) = i) (hk : lv[j]? = some (i, ab_I x)) (k : ab_J p l e R s m args below meth c Q D ca A H0 nL cells slots ad N u (pc + 1) lv (ab_I x :: st)) : ab_J p l e R s m args below meth c Q D ca A H0 nL cells slots ad N u pc lv st := fun H locs ls hW hS hl => lv_iload_n X.1 X.2.1 hd hi (lv_at hl j (ab_lv_at hk)) (k H locs ls hW hS hl)
theorem ab_lload_n (X : ab_X p s m args c cc own nL D ca A H0) {k : Fin 4} {i : Nat} {x : Int64} (j : Nat) (hd : decode cc pc = .ok (.lload_n k, 1)) (hi : (k : Nat) = i) (hk : lv[j]? = some (i, ab_L x)) (k : ab_J p l e R s m args below meth c Q D ca A H0 nL cells slots ad N u (pc + 1) lv (ab_L x :: st)) : ab_J p l e R s m args below meth c Q D ca A H0 nL cells slots ad N u pc lv st := fun H locs ls hW hS hl => lv_lload_n X.1 X.2.1 hd hi (lv_at hl j (ab_lv_at hk)) (k H locs ls hW hS hl)
theorem ab_iload (X : ab_X p s m args c cc own nL D ca A H0) {i : Nat} {x : Int32} (j : Nat) (hd : decode cc pc = .ok (.iload i, 2)) (hk : lv[j]? = some (i, ab_I x)) (k : ab_J p l e R s m args below meth c Q D ca A H0 nL cells slots ad N u (pc + 2) lv (ab_I x :: st)) : ab_J p l e R s m args below meth c Q D ca A H0 nL cells slots ad N u pc lv st := fun H locs ls hW hS hl => lv_iload X.1 X.2.1 hd (lv_at hl j (ab_lv_at hk)) (k H locs ls hW hS hl)
theorem ab_lload (X : ab_X p s m args c cc own nL D ca A H0) {i : Nat} {x : Int64} (j : Nat) (hd : decode cc pc = .ok (.lload i, 2)) (hk : lv[j]? = some (i, ab_L x)) (k : ab_J p l e R s m args below meth c Q D ca A H0 nL cells slots ad N u (pc + 2) lv (ab_L x :: st)) : ab_J p l e R s m args below meth c Q D ca A H0 nL cells slots ad N u pc lv st := fun H locs ls hW hS hl => lv_lload X.1 X.2.1 hd (lv_at hl j (ab_lv_at hk)) (k H locs ls hW hS hl)
theorem ab_aload_n (X : ab_X p s m args c cc own nL D ca A H0) {k : Fin 4} {i : Nat} {r : Option (Nat × Nat)} (j : Nat) (hd : decode cc pc = .ok (.aload_n k, 1)) (hi : (k : Nat) = i) (hk : lv[j]? = some (i, ab_R r)) (k : ab_J p l e R s m args below meth c Q D ca A H0 nL cells slots ad N u (pc + 1) lv (ab_R r :: st)) : ab_J p l e R s m args below meth c Q D ca A H0 nL cells slots ad N u pc lv st := fun H locs ls hW hS hl => by
  have h1 := lv_at hl j (ab_lv_at hk)
  have h2 := k H locs ls hW hS hl
  cases r with
  | none => exact lv_aload_nN X.1 X.2.1 hd hi h1 h2
  | some q => exact lv_aload_n X.1 X.2.1 hd hi h1 h2
theorem ab_aload (X : ab_X p s m args c cc own nL D ca A H0) {i : Nat} {r : Option (Nat × Nat)} (j : Nat) (hd : decode cc pc = .ok (.aload i, 2)) (hk : lv[j]? = some (i, ab_R r)) (k : ab_J p l e R s m args below meth c Q D ca A H0 nL cells slots ad N u (pc + 2) lv (ab_R r :: st)) : ab_J p l e R s m args below meth c Q D ca A H0 nL cells slots ad N u pc lv st := fun H locs ls hW hS hl => by
  have h1 := lv_at hl j (ab_lv_at hk)
  have h2 := k H locs ls hW hS hl
  cases r with
  | none => exact lv_aloadN X.1 X.2.1 hd h1 h2
  | some q => exact lv_aload X.1 X.2.1 hd h1 h2
theorem ab_istore_n (X : ab_X p s m args c cc own nL D ca A H0) {k : Fin 4} {i : Nat} {x : Int32} {lv' : List (Nat × ab_V)} (hd : decode cc pc = .ok (.istore_n k, 1)) (hi : (k : Nat) = i) (hn : i < nL) (hv : (i, ab_I x) :: ab_ft i lv = lv') (k : ab_J p l e R s m args below meth c Q D ca A H0 nL cells slots ad N u (pc + 1) lv' st) : ab_J p l e R s m args below meth c Q D ca A H0 nL cells slots ad N u pc lv (ab_I x :: st) := fun H locs ls hW hS hl => lv_istore_n X.1 X.2.1 hd hi hl hn rfl fun ls' h' => k H locs ls' hW hS (by rw [ab_ft_map] at h'; rw [← hv]; exact h')
theorem ab_istore (X : ab_X p s m args c cc own nL D ca A H0) {i : Nat} {x : Int32} {lv' : List (Nat × ab_V)} (hd : decode cc pc = .ok (.istore i, 2)) (hn : i < nL) (hv : (i, ab_I x) :: ab_ft i lv = lv') (k : ab_J p l e R s m args below meth c Q D ca A H0 nL cells slots ad N u (pc + 2) lv' st) : ab_J p l e R s m args below meth c Q D ca A H0 nL cells slots ad N u pc lv (ab_I x :: st) := fun H locs ls hW hS hl => lv_istore X.1 X.2.1 hd hl hn rfl fun ls' h' => k H locs ls' hW hS (by rw [ab_ft_map] at h'; rw [← hv]; exact h')
theorem ab_iinc (X : ab_X p s m args c cc own nL D ca A H0) {i : Nat} {n : Int} {x v : Int32} {lv' : List (Nat × ab_V)} (j : Nat) (hd : decode cc pc = .ok (.iinc i n, 3)) (hk : lv[j]? = some (i, ab_I x)) (hx : x + Int32.ofInt n = v) (hn : i < nL) (hv : (i, ab_I v) :: ab_ft i lv = lv') (k : ab_J p l e R s m args below meth c Q D ca A H0 nL cells slots ad N u (pc + 3) lv' st) : ab_J p l e R s m args below meth c Q D ca A H0 nL cells slots ad N u pc lv st := fun H locs ls hW hS hl => lv_iinc (k := j) X.1 X.2.1 hd hl (ab_lv_at hk) hx hn rfl fun ls' h' => k H locs ls' hW hS (by rw [ab_ft_map] at h'; rw [← hv]; exact h')
theorem ab_astore_n (X : ab_X p s m args c cc own nL D ca A H0) {k : Fin 4} {i : Nat} {r : Option (Nat × Nat)} {lv' : List (Nat × ab_V)} (hd : decode cc pc = .ok (.astore_n k, 1)) (hi : (k : Nat) = i) (hn : i < nL) (hv : (i, ab_R r) :: ab_ft i lv = lv') (k : ab_J p l e R s m args below meth c Q D ca A H0 nL cells slots ad N u (pc + 1) lv' st) : ab_J p l e R s m args below meth c Q D ca A H0 nL cells slots ad N u pc lv (ab_R r :: st) := fun H locs ls hW hS hl => by
  cases r with
  | none => exact lv_astore_nN X.1 X.2.1 hd hi hl hn rfl fun ls' h' => k H locs ls' hW hS (by rw [ab_ft_map] at h'; rw [← hv]; exact h')
  | some q => exact lv_astore_n X.1 X.2.1 hd hi hl hn rfl fun ls' h' => k H locs ls' hW hS (by rw [ab_ft_map] at h'; rw [← hv]; exact h')
theorem ab_astore (X : ab_X p s m args c cc own nL D ca A H0) {i : Nat} {r : Option (Nat × Nat)} {lv' : List (Nat × ab_V)} (hd : decode cc pc = .ok (.astore i, 2)) (hn : i < nL) (hv : (i, ab_R r) :: ab_ft i lv = lv') (k : ab_J p l e R s m args below meth c Q D ca A H0 nL cells slots ad N u (pc + 2) lv' st) : ab_J p l e R s m args below meth c Q D ca A H0 nL cells slots ad N u pc lv (ab_R r :: st) := fun H locs ls hW hS hl => by
  cases r with
  | none => exact lv_astoreN X.1 X.2.1 hd hl hn rfl fun ls' h' => k H locs ls' hW hS (by rw [ab_ft_map] at h'; rw [← hv]; exact h')
  | some q => exact lv_astore X.1 X.2.1 hd hl hn rfl fun ls' h' => k H locs ls' hW hS (by rw [ab_ft_map] at h'; rw [← hv]; exact h')
theorem ab_icmp_eq (X : ab_X p s m args c cc own nL D ca A H0) {x y : Int32} {off : Int} (tgt : Nat) (hd : decode cc pc = .ok (.if_icmp .eq off, 3)) (ht : (pc : Int) + off = (tgt : Int)) (kt : x = y → ab_J p l e R s m args below meth c Q D ca A H0 nL cells slots ad N u tgt lv st) (kf : ¬ x = y → ab_J p l e R s m args below meth c Q D ca A H0 nL cells slots ad N u (pc + 3) lv st) : ab_J p l e R s m args below meth c Q D ca A H0 nL cells slots ad N u pc lv (ab_I y :: ab_I x :: st) := fun H locs ls hW hS hl => lv_icmp_eq X.1 X.2.1 hd ht (fun h => kt h H locs ls hW hS hl) (fun h => kf h H locs ls hW hS hl)
theorem ab_icmp_ne (X : ab_X p s m args c cc own nL D ca A H0) {x y : Int32} {off : Int} (tgt : Nat) (hd : decode cc pc = .ok (.if_icmp .ne off, 3)) (ht : (pc : Int) + off = (tgt : Int)) (kt : ¬ x = y → ab_J p l e R s m args below meth c Q D ca A H0 nL cells slots ad N u tgt lv st) (kf : x = y → ab_J p l e R s m args below meth c Q D ca A H0 nL cells slots ad N u (pc + 3) lv st) : ab_J p l e R s m args below meth c Q D ca A H0 nL cells slots ad N u pc lv (ab_I y :: ab_I x :: st) := fun H locs ls hW hS hl => lv_icmp_ne X.1 X.2.1 hd ht (fun h => kt h H locs ls hW hS hl) (fun h => kf h H locs ls hW hS hl)
theorem ab_icmp_lt (X : ab_X p s m args c cc own nL D ca A H0) {x y : Int32} {off : Int} (tgt : Nat) (hd : decode cc pc = .ok (.if_icmp .lt off, 3)) (ht : (pc : Int) + off = (tgt : Int)) (kt : x < y → ab_J p l e R s m args below meth c Q D ca A H0 nL cells slots ad N u tgt lv st) (kf : ¬ x < y → ab_J p l e R s m args below meth c Q D ca A H0 nL cells slots ad N u (pc + 3) lv st) : ab_J p l e R s m args below meth c Q D ca A H0 nL cells slots ad N u pc lv (ab_I y :: ab_I x :: st) := fun H locs ls hW hS hl => lv_icmp_lt X.1 X.2.1 hd ht (fun h => kt h H locs ls hW hS hl) (fun h => kf h H locs ls hW hS hl)
theorem ab_icmp_ge (X : ab_X p s m args c cc own nL D ca A H0) {x y : Int32} {off : Int} (tgt : Nat) (hd : decode cc pc = .ok (.if_icmp .ge off, 3)) (ht : (pc : Int) + off = (tgt : Int)) (kt : y ≤ x → ab_J p l e R s m args below meth c Q D ca A H0 nL cells slots ad N u tgt lv st) (kf : ¬ y ≤ x → ab_J p l e R s m args below meth c Q D ca A H0 nL cells slots ad N u (pc + 3) lv st) : ab_J p l e R s m args below meth c Q D ca A H0 nL cells slots ad N u pc lv (ab_I y :: ab_I x :: st) := fun H locs ls hW hS hl => lv_icmp_ge X.1 X.2.1 hd ht (fun h => kt h H locs ls hW hS hl) (fun h => kf h H locs ls hW hS hl)
theorem ab_icmp_gt (X : ab_X p s m args c cc own nL D ca A H0) {x y : Int32} {off : Int} (tgt : Nat) (hd : decode cc pc = .ok (.if_icmp .gt off, 3)) (ht : (pc : Int) + off = (tgt : Int)) (kt : y < x → ab_J p l e R s m args below meth c Q D ca A H0 nL cells slots ad N u tgt lv st) (kf : ¬ y < x → ab_J p l e R s m args below meth c Q D ca A H0 nL cells slots ad N u (pc + 3) lv st) : ab_J p l e R s m args below meth c Q D ca A H0 nL cells slots ad N u pc lv (ab_I y :: ab_I x :: st) := fun H locs ls hW hS hl => lv_icmp_gt X.1 X.2.1 hd ht (fun h => kt h H locs ls hW hS hl) (fun h => kf h H locs ls hW hS hl)
theorem ab_icmp_le (X : ab_X p s m args c cc own nL D ca A H0) {x y : Int32} {off : Int} (tgt : Nat) (hd : decode cc pc = .ok (.if_icmp .le off, 3)) (ht : (pc : Int) + off = (tgt : Int)) (kt : x ≤ y → ab_J p l e R s m args below meth c Q D ca A H0 nL cells slots ad N u tgt lv st) (kf : ¬ x ≤ y → ab_J p l e R s m args below meth c Q D ca A H0 nL cells slots ad N u (pc + 3) lv st) : ab_J p l e R s m args below meth c Q D ca A H0 nL cells slots ad N u pc lv (ab_I y :: ab_I x :: st) := fun H locs ls hW hS hl => lv_icmp_le X.1 X.2.1 hd ht (fun h => kt h H locs ls hW hS hl) (fun h => kf h H locs ls hW hS hl)
theorem ab_if_eq (X : ab_X p s m args c cc own nL D ca A H0) {x : Int32} {off : Int} (tgt : Nat) (hd : decode cc pc = .ok (.ifCond .eq off, 3)) (ht : (pc : Int) + off = (tgt : Int)) (kt : x = 0 → ab_J p l e R s m args below meth c Q D ca A H0 nL cells slots ad N u tgt lv st) (kf : ¬ x = 0 → ab_J p l e R s m args below meth c Q D ca A H0 nL cells slots ad N u (pc + 3) lv st) : ab_J p l e R s m args below meth c Q D ca A H0 nL cells slots ad N u pc lv (ab_I x :: st) := fun H locs ls hW hS hl => lv_if_eq X.1 X.2.1 hd ht (fun h => kt h H locs ls hW hS hl) (fun h => kf h H locs ls hW hS hl)
theorem ab_if_ne (X : ab_X p s m args c cc own nL D ca A H0) {x : Int32} {off : Int} (tgt : Nat) (hd : decode cc pc = .ok (.ifCond .ne off, 3)) (ht : (pc : Int) + off = (tgt : Int)) (kt : ¬ x = 0 → ab_J p l e R s m args below meth c Q D ca A H0 nL cells slots ad N u tgt lv st) (kf : x = 0 → ab_J p l e R s m args below meth c Q D ca A H0 nL cells slots ad N u (pc + 3) lv st) : ab_J p l e R s m args below meth c Q D ca A H0 nL cells slots ad N u pc lv (ab_I x :: st) := fun H locs ls hW hS hl => lv_if_ne X.1 X.2.1 hd ht (fun h => kt h H locs ls hW hS hl) (fun h => kf h H locs ls hW hS hl)
theorem ab_if_lt (X : ab_X p s m args c cc own nL D ca A H0) {x : Int32} {off : Int} (tgt : Nat) (hd : decode cc pc = .ok (.ifCond .lt off, 3)) (ht : (pc : Int) + off = (tgt : Int)) (kt : x < 0 → ab_J p l e R s m args below meth c Q D ca A H0 nL cells slots ad N u tgt lv st) (kf : ¬ x < 0 → ab_J p l e R s m args below meth c Q D ca A H0 nL cells slots ad N u (pc + 3) lv st) : ab_J p l e R s m args below meth c Q D ca A H0 nL cells slots ad N u pc lv (ab_I x :: st) := fun H locs ls hW hS hl => lv_if_lt X.1 X.2.1 hd ht (fun h => kt h H locs ls hW hS hl) (fun h => kf h H locs ls hW hS hl)
theorem ab_if_ge (X : ab_X p s m args c cc own nL D ca A H0) {x : Int32} {off : Int} (tgt : Nat) (hd : decode cc pc = .ok (.ifCond .ge off, 3)) (ht : (pc : Int) + off = (tgt : Int)) (kt : 0 ≤ x → ab_J p l e R s m args below meth c Q D ca A H0 nL cells slots ad N u tgt lv st) (kf : ¬ 0 ≤ x → ab_J p l e R s m args below meth c Q D ca A H0 nL cells slots ad N u (pc + 3) lv st) : ab_J p l e R s m args below meth c Q D ca A H0 nL cells slots ad N u pc lv (ab_I x :: st) := fun H locs ls hW hS hl => lv_if_ge X.1 X.2.1 hd ht (fun h => kt h H locs ls hW hS hl) (fun h => kf h H locs ls hW hS hl)
theorem ab_if_gt (X : ab_X p s m args c cc own nL D ca A H0) {x : Int32} {off : Int} (tgt : Nat) (hd : decode cc pc = .ok (.ifCond .gt off, 3)) (ht : (pc : Int) + off = (tgt : Int)) (kt : 0 < x → ab_J p l e R s m args below meth c Q D ca A H0 nL cells slots ad N u tgt lv st) (kf : ¬ 0 < x → ab_J p l e R s m args below meth c Q D ca A H0 nL cells slots ad N u (pc + 3) lv st) : ab_J p l e R s m args below meth c Q D ca A H0 nL cells slots ad N u pc lv (ab_I x :: st) := fun H locs ls hW hS hl => lv_if_gt X.1 X.2.1 hd ht (fun h => kt h H locs ls hW hS hl) (fun h => kf h H locs ls hW hS hl)
theorem ab_if_le (X : ab_X p s m args c cc own nL D ca A H0) {x : Int32} {off : Int} (tgt : Nat) (hd : decode cc pc = .ok (.ifCond .le off, 3)) (ht : (pc : Int) + off = (tgt : Int)) (kt : x ≤ 0 → ab_J p l e R s m args below meth c Q D ca A H0 nL cells slots ad N u tgt lv st) (kf : ¬ x ≤ 0 → ab_J p l e R s m args below meth c Q D ca A H0 nL cells slots ad N u (pc + 3) lv st) : ab_J p l e R s m args below meth c Q D ca A H0 nL cells slots ad N u pc lv (ab_I x :: st) := fun H locs ls hW hS hl => lv_if_le X.1 X.2.1 hd ht (fun h => kt h H locs ls hW hS hl) (fun h => kf h H locs ls hW hS hl)
theorem ab_goto (X : ab_X p s m args c cc own nL D ca A H0) {off : Int} (tgt : Nat) (hd : decode cc pc = .ok (.goto off, 3)) (ht : (pc : Int) + off = (tgt : Int)) (k : ab_J p l e R s m args below meth c Q D ca A H0 nL cells slots ad N u tgt lv st) : ab_J p l e R s m args below meth c Q D ca A H0 nL cells slots ad N u pc lv st := fun H locs ls hW hS hl => lv_goto X.1 X.2.1 hd ht (k H locs ls hW hS hl)
theorem ab_ifnull (X : ab_X p s m args c cc own nL D ca A H0) {r : Option (Nat × Nat)} {off : Int} (tgt : Nat) (hd : decode cc pc = .ok (.ifnull off, 3)) (ht : (pc : Int) + off = (tgt : Int)) (kt : r = none → ab_J p l e R s m args below meth c Q D ca A H0 nL cells slots ad N u tgt lv st) (kf : ¬ r = none → ab_J p l e R s m args below meth c Q D ca A H0 nL cells slots ad N u (pc + 3) lv st) : ab_J p l e R s m args below meth c Q D ca A H0 nL cells slots ad N u pc lv (ab_R r :: st) := fun H locs ls hW hS hl => by
  cases r with
  | none => exact lv_ifnullN X.1 X.2.1 hd ht (kt rfl H locs ls hW hS hl)
  | some q => exact lv_ifnull X.1 X.2.1 hd (kf (fun h => by cases h) H locs ls hW hS hl)
theorem ab_ifnonnull (X : ab_X p s m args c cc own nL D ca A H0) {r : Option (Nat × Nat)} {off : Int} (tgt : Nat) (hd : decode cc pc = .ok (.ifnonnull off, 3)) (ht : (pc : Int) + off = (tgt : Int)) (kt : ¬ r = none → ab_J p l e R s m args below meth c Q D ca A H0 nL cells slots ad N u tgt lv st) (kf : r = none → ab_J p l e R s m args below meth c Q D ca A H0 nL cells slots ad N u (pc + 3) lv st) : ab_J p l e R s m args below meth c Q D ca A H0 nL cells slots ad N u pc lv (ab_R r :: st) := fun H locs ls hW hS hl => by
  cases r with
  | none => exact lv_ifnonnullN X.1 X.2.1 hd (kf rfl H locs ls hW hS hl)
  | some q => exact lv_ifnonnull X.1 X.2.1 hd ht (kt (fun h => by cases h) H locs ls hW hS hl)
theorem ab_tableOut (X : ab_X p s m args c cc own nL D ca A H0) {dflt lo hi : Int} {offs : Array Int} {len : Nat} {x : Int32} (tgt : Nat) (hd : decode cc pc = .ok (.tableswitch dflt lo hi offs, len)) (h : x.toInt < lo ∨ hi < x.toInt) (ht : (pc : Int) + dflt = (tgt : Int)) (k : ab_J p l e R s m args below meth c Q D ca A H0 nL cells slots ad N u tgt lv st) : ab_J p l e R s m args below meth c Q D ca A H0 nL cells slots ad N u pc lv (ab_I x :: st) := fun H locs ls hW hS hl => lv_tableOut X.1 X.2.1 hd h ht (k H locs ls hW hS hl)
theorem ab_tableIn (X : ab_X p s m args c cc own nL D ca A H0) {dflt lo hi : Int} {offs : Array Int} {len : Nat} {x : Int32} {off : Int} (tgt : Nat) (hd : decode cc pc = .ok (.tableswitch dflt lo hi offs, len)) (h1 : ¬ x.toInt < lo) (h2 : ¬ hi < x.toInt) (ho : offs[(x.toInt - lo).toNat]? = some off) (ht : (pc : Int) + off = (tgt : Int)) (k : ab_J p l e R s m args below meth c Q D ca A H0 nL cells slots ad N u tgt lv st) : ab_J p l e R s m args below meth c Q D ca A H0 nL cells slots ad N u pc lv (ab_I x :: st) := fun H locs ls hW hS hl => lv_tableIn X.1 X.2.1 hd h1 h2 ho ht (k H locs ls hW hS hl)
theorem ab_lookup (X : ab_X p s m args c cc own nL D ca A H0) {dflt : Int} {ps : Array (Int × Int)} {len : Nat} {x : Int32} {off : Int} (tgt : Nat) (hd : decode cc pc = .ok (.lookupswitch dflt ps, len)) (hp : (ps.toList.zip (ps.toList.drop 1)).all (fun (a, next) => a.1 < next.1) = true) (ho : Op.lookupswitch.offset ps.toList dflt x.toInt = off) (ht : (pc : Int) + off = (tgt : Int)) (k : ab_J p l e R s m args below meth c Q D ca A H0 nL cells slots ad N u tgt lv st) : ab_J p l e R s m args below meth c Q D ca A H0 nL cells slots ad N u pc lv (ab_I x :: st) := fun H locs ls hW hS hl => lv_lookup X.1 X.2.1 hd hp ho ht (k H locs ls hW hS hl)
theorem ab_ldc (X : ab_X p s m args c cc own nL D ca A H0) {idx : Nat} {v : Int32} (hc : Cond.constant own idx v ∈ ab_T) (hd : decode cc pc = .ok (.ldc idx, 2)) (k : ab_J p l e R s m args below meth c Q D ca A H0 nL cells slots ad N u (pc + 2) lv (ab_I v :: st)) : ab_J p l e R s m args below meth c Q D ca A H0 nL cells slots ad N u pc lv st := fun H locs ls hW hS hl => lv_ldc X.1 X.2.1 X.2.2.2.1 (X.2.2.2.2.1 _ hc) hd (k H locs ls hW hS hl)
theorem ab_ldc2 (X : ab_X p s m args c cc own nL D ca A H0) {idx : Nat} {v : Int64} (hc : Cond.constantLong own idx v ∈ ab_T) (hd : decode cc pc = .ok (.ldc2_w idx, 3)) (k : ab_J p l e R s m args below meth c Q D ca A H0 nL cells slots ad N u (pc + 3) lv (ab_L v :: st)) : ab_J p l e R s m args below meth c Q D ca A H0 nL cells slots ad N u pc lv st := fun H locs ls hW hS hl => lv_ldc2 X.1 X.2.1 X.2.2.2.1 (X.2.2.2.2.1 _ hc) hd (k H locs ls hW hS hl)
/-- fewer locals are remembered, in any order -/
theorem ab_lv {lv' : List (Nat × ab_V)} (h : ∀ q ∈ lv', q ∈ lv) (k : ab_J p l e R s m args below meth c Q D ca A H0 nL cells slots ad N u pc lv' st) : ab_J p l e R s m args below meth c Q D ca A H0 nL cells slots ad N u pc lv st := fun H locs ls hW hS hl => k H locs ls hW hS ⟨hl.1, hl.2.1, fun q hq => by
  obtain ⟨q', h1, rfl⟩ := List.mem_map.mp hq
  exact hl.2.2 _ (List.mem_map.mpr ⟨q', h q' h1, rfl⟩)⟩
theorem ab_widen {k n : Nat} (h1 : cells ≤ k) (h2 : slots ≤ n) (kk : ab_J p l e R s m args below meth c Q D ca A H0 nL k n ad N u pc lv st) : ab_J p l e R s m args below meth c Q D ca A H0 nL cells slots ad N u pc lv st := fun H locs ls hW hS hl => W.widen h1 h2 (kk H locs ls hW hS hl)
/-! fields and arrays -/
/-- the pool entry idx of the class own is the field k (of type t: 0 an int or boolean, 1 a reference) of the kind c -/
def ab_fl (own : String) (idx c k t : Nat) : Prop := ab_tag c = 0 ∧ ∃ (C : String) (T : u_T) (n : Nat), vwCl[ab_ci c]? = some (C, T, n) ∧ (∀ w ∈ u_ws C T n, w ∈ ab_T) ∧ k < n ∧ (ab_ts c)[k]? = some t ∧ Cond.fieldLink own idx (T k).1 (T k).2.1 (T k).2.2.1 ∈ ab_T
/-- it may be written: its type, not final -/
def ab_fp (own : String) (idx c k t : Nat) (ty : FieldType) : Prop := ab_tag c = 0 ∧ ∃ (C : String) (T : u_T) (n : Nat) (ty0 : Nat → FieldType), vwCl[ab_ci c]? = some (C, T, n) ∧ (∀ w ∈ u_ws C T n, w ∈ ab_T) ∧ k < n ∧ (ab_ts c)[k]? = some t ∧ Cond.fieldLink own idx (T k).1 (T k).2.1 (T k).2.2.1 ∈ ab_T ∧ (∀ k, k < n → parseFieldDescriptor (T k).2.2.1 = some (ty0 k)) ∧ (∀ a, a < n → ∀ b, b < n → a ≠ b → (T a).2.1 ≠ (T b).2.1) ∧ (T k).2.2.2 = false ∧ ty0 k = ty
theorem ab_getI (X : ab_X p s m args c cc own nL D ca A H0) {idx c' k i : Nat} (hf : ab_fl own idx c' k 0) (hd : decode cc pc = .ok (.getfield idx, 3)) (hi : i < N c') (kk : ab_J p l e R s m args below meth c Q D ca A H0 nL cells slots ad N u (pc + 3) lv (ab_I (u.1 c' i k) :: st)) : ab_J p l e R s m args below meth c Q D ca A H0 nL cells slots ad N u pc lv (ab_O c' i :: st) := fun H locs ls hW hS hl => by
  obtain ⟨h0, C, T, n, h1, h2, h3, h4, h5⟩ := hf
  obtain ⟨ws, q0, hP, hD, hk⟩ := hW.at hi
  rw [ab_ent_o h0] at hk
  exact va_get X.1 X.2.1 X.2.2.2.2.1 h2 X.2.2.2.1 X.2.2.2.2.2.1 hP q0 hk h1 k h3 (X.2.2.2.2.1 _ h5) (fun _ h => h) (ab_fs_get h4) hd (kk H locs ls hW hS hl)
theorem ab_getR (X : ab_X p s m args c cc own nL D ca A H0) {idx c' k i : Nat} (hf : ab_fl own idx c' k 1) (hd : decode cc pc = .ok (.getfield idx, 3)) (hi : i < N c') (kk : ab_J p l e R s m args below meth c Q D ca A H0 nL cells slots ad N u (pc + 3) lv (ab_R (u.2.1 c' i k) :: st)) : ab_J p l e R s m args below meth c Q D ca A H0 nL cells slots ad N u pc lv (ab_O c' i :: st) := fun H locs ls hW hS hl => by
  obtain ⟨h0, C, T, n, h1, h2, h3, h4, h5⟩ := hf
  obtain ⟨ws, q0, hP, hD, hk⟩ := hW.at hi
  rw [ab_ent_o h0] at hk
  exact va_get X.1 X.2.1 X.2.2.2.2.1 h2 X.2.2.2.1 X.2.2.2.2.2.1 hP q0 hk h1 k h3 (X.2.2.2.2.1 _ h5) (fun _ h => h) (ab_fs_get h4) hd (kk H locs ls hW hS hl)
theorem ab_putI (X : ab_X p s m args c cc own nL D ca A H0) {idx c' k i : Nat} {ty : FieldType} {v : Int32} (hf : ab_fp own idx c' k 0 ty) (hd : decode cc pc = .ok (.putfield idx, 3)) (hi : i < N c') (hn : narrow ty (.int v) = .int v) (hft : fits ty (.int v) = true) (kk : ab_J p l e R s m args below meth c Q D ca A H0 nL cells slots ad N (ab_ui u c' i k v) (pc + 3) lv st) : ab_J p l e R s m args below meth c Q D ca A H0 nL cells slots ad N u pc lv (ab_I v :: ab_O c' i :: st) := fun H locs ls hW hS hl => by
  obtain ⟨h0, C, T, n, ty0, h1, h2, h3, h4, h5, h6, h7, h8, h9⟩ := hf
  obtain ⟨ws, q0, hP, hD, hk, -, hset⟩ := hW.put hi
  rw [ab_ent_o h0] at hk
  refine va_put X.1 X.2.1 X.2.2.2.2.1 h2 ty0 h6 h7 X.2.2.2.1 X.2.2.2.2.2.1 hP hD hS q0 hk h1 k h3 (X.2.2.2.2.1 _ h5) (fun _ h => h) h8 (by rw [h6 k h3, h9]) hn hft (by rw [ab_fs_len]; exact (List.getElem?_eq_some_iff.mp h4).1) hd (fun H1 locs1 hP1 hD1 hS1 => kk H1 locs1 ls (hset H1 _ _ hP1 hD1 ?_ fun c2 i2 h => ab_ent_ui h) hS1 hl)
  rw [ab_ent_o h0, ab_fs_set h4]
  · simp [ab_fv, ab_up, ab_cv]
  · intro j t' hj
    have e : ab_up u.1 c' i k v c' i j = u.1 c' i j := ab_up_n _ _ fun q => hj q.2.2
    simp only [ab_fv, e]
theorem ab_putR (X : ab_X p s m args c cc own nL D ca A H0) {idx c' k i : Nat} {C0 : String} {r : Option (Nat × Nat)} (hf : ab_fp own idx c' k 1 (.object C0)) (hd : decode cc pc = .ok (.putfield idx, 3)) (hi : i < N c') (kk : ab_J p l e R s m args below meth c Q D ca A H0 nL cells slots ad N (ab_ur u c' i k r) (pc + 3) lv st) : ab_J p l e R s m args below meth c Q D ca A H0 nL cells slots ad N u pc lv (ab_R r :: ab_O c' i :: st) := fun H locs ls hW hS hl => by
  obtain ⟨h0, C, T, n, ty0, h1, h2, h3, h4, h5, h6, h7, h8, h9⟩ := hf
  obtain ⟨ws, q0, hP, hD, hk, -, hset⟩ := hW.put hi
  rw [ab_ent_o h0] at hk
  refine va_put X.1 X.2.1 X.2.2.2.2.1 h2 ty0 h6 h7 X.2.2.2.1 X.2.2.2.2.2.1 hP hD hS q0 hk h1 k h3 (X.2.2.2.2.1 _ h5) (fun _ h => h) h8 (by rw [h6 k h3, h9]) (by cases r <;> rfl) (by cases r <;> rfl) (by rw [ab_fs_len]; exact (List.getElem?_eq_some_iff.mp h4).1) hd (fun H1 locs1 hP1 hD1 hS1 => kk H1 locs1 ls (hset H1 _ _ hP1 hD1 ?_ fun c2 i2 h => ab_ent_ur h) hS1 hl)
  rw [ab_ent_o h0, ab_fs_set h4]
  · simp [ab_fv, ab_up, ab_cv]
  · intro j t' hj
    have e : ab_up u.2.1 c' i k r c' i j = u.2.1 c' i j := ab_up_n _ _ fun q => hj q.2.2
    simp only [ab_fv, e]
theorem ab_ix {j : Int32} {n L : Nat} (hj : j = nI n) (hn : n < L) (hL : L < 2 ^ 31) : vp_in j L ∧ j.toNatClampNeg = n := by
  subst hj
  exact ⟨vp_in_nI hn hL, nI_clamp (by omega)⟩
theorem ab_iald (X : ab_X p s m args c cc own nL D ca A H0) {c' i : Nat} {j : Int32} (n : Nat) (ha : ab_tag c' = 1 ∧ ab_ci c' = 0) (hd : decode cc pc = .ok (.iaload, 1)) (hi : i < N c') (hj : j = nI n) (hn : n < ab_ln c' i) (hL : ab_ln c' i < 2 ^ 31) (kk : ab_J p l e R s m args below meth c Q D ca A H0 nL cells slots ad N u (pc + 1) lv (ab_I (u.1 c' i n) :: st)) : ab_J p l e R s m args below meth c Q D ca A H0 nL cells slots ad N u pc lv (ab_I j :: ab_O c' i :: st) := fun H locs ls hW hS hl => by
  obtain ⟨ws, q0, hP, hD, hk⟩ := hW.at hi
  obtain ⟨hin, hcl⟩ := ab_ix hj hn hL
  rw [ab_ent_i ha.1, ha.2] at hk
  exact va_iald X.1 X.2.1 X.2.2.2.2.2.1 hP q0 0 hk rfl hin hd (by rw [hcl]; exact kk H locs ls hW hS hl)
theorem ab_zald (X : ab_X p s m args c cc own nL D ca A H0) {c' i : Nat} {j : Int32} (n : Nat) (ha : ab_tag c' = 1 ∧ ab_ci c' = 1) (hd : decode cc pc = .ok (.baload, 1)) (hi : i < N c') (hj : j = nI n) (hn : n < ab_ln c' i) (hL : ab_ln c' i < 2 ^ 31) (kk : ab_J p l e R s m args below meth c Q D ca A H0 nL cells slots ad N u (pc + 1) lv (ab_I (u.1 c' i n) :: st)) : ab_J p l e R s m args below meth c Q D ca A H0 nL cells slots ad N u pc lv (ab_I j :: ab_O c' i :: st) := fun H locs ls hW hS hl => by
  obtain ⟨ws, q0, hP, hD, hk⟩ := hW.at hi
  obtain ⟨hin, hcl⟩ := ab_ix hj hn hL
  rw [ab_ent_i ha.1, ha.2] at hk
  exact va_zald X.1 X.2.1 X.2.2.2.2.2.1 hP q0 1 hk rfl hin hd (by rw [hcl]; exact kk H locs ls hW hS hl)
theorem ab_lald (X : ab_X p s m args c cc own nL D ca A H0) {c' i : Nat} {j : Int32} (n : Nat) (ha : ab_tag c' = 2 ∧ ab_ci c' = 2) (hd : decode cc pc = .ok (.laload, 1)) (hi : i < N c') (hj : j = nI n) (hn : n < ab_ln c' i) (hL : ab_ln c' i < 2 ^ 31) (kk : ab_J p l e R s m args below meth c Q D ca A H0 nL cells slots ad N u (pc + 1) lv (ab_L (u.2.2 c' i n) :: st)) : ab_J p l e R s m args below meth c Q D ca A H0 nL cells slots ad N u pc lv (ab_I j :: ab_O c' i :: st) := fun H locs ls hW hS hl => by
  obtain ⟨ws, q0, hP, hD, hk⟩ := hW.at hi
  obtain ⟨hin, hcl⟩ := ab_ix hj hn hL
  rw [ab_ent_l ha.1, ha.2] at hk
  exact va_lald X.1 X.2.1 X.2.2.2.2.2.1 hP q0 2 hk rfl hin hd (by rw [hcl]; exact kk H locs ls hW hS hl)
theorem ab_aald (X : ab_X p s m args c cc own nL D ca A H0) {c' i : Nat} {j : Int32} (n : Nat) (ha : ab_tag c' = 3 ∧ ∃ C, ∀ ca : Nat → ClassId, (ab_tys ca)[ab_ci c']? = some (ca (ab_ci c'), .object C)) (hd : decode cc pc = .ok (.aaload, 1)) (hi : i < N c') (hj : j = nI n) (hn : n < ab_ln c' i) (hL : ab_ln c' i < 2 ^ 31) (kk : ab_J p l e R s m args below meth c Q D ca A H0 nL cells slots ad N u (pc + 1) lv (ab_R (u.2.1 c' i n) :: st)) : ab_J p l e R s m args below meth c Q D ca A H0 nL cells slots ad N u pc lv (ab_I j :: ab_O c' i :: st) := fun H locs ls hW hS hl => by
  obtain ⟨ws, q0, hP, hD, hk⟩ := hW.at hi
  obtain ⟨hin, hcl⟩ := ab_ix hj hn hL
  obtain ⟨h0, C, hC⟩ := ha
  rw [ab_ent_r h0] at hk
  exact va_aldq X.1 X.2.1 X.2.2.2.2.2.1 hP q0 (ab_ci c') hk (hC ca) hin hd (by rw [hcl]; exact kk H locs ls hW hS hl)
theorem ab_alen (X : ab_X p s m args c cc own nL D ca A H0) {c' i : Nat} {v : Int32} (ha : ¬ ab_tag c' = 0 ∧ ∃ ty, ∀ ca : Nat → ClassId, (ab_tys ca)[ab_ci c']? = some (ca (ab_ci c'), ty)) (hd : decode cc pc = .ok (.arraylength, 1)) (hi : i < N c') (hv : nI (ab_ln c' i) = v) (kk : ab_J p l e R s m args below meth c Q D ca A H0 nL cells slots ad N u (pc + 1) lv (ab_I v :: st)) : ab_J p l e R s m args below meth c Q D ca A H0 nL cells slots ad N u pc lv (ab_O c' i :: st) := fun H locs ls hW hS hl => by
  obtain ⟨ws, q0, hP, hD, hk⟩ := hW.at hi
  obtain ⟨h0, ty, hT⟩ := ha
  have he : ∃ x : vp_A, ab_ent ca ad u c' i = .inl (ca (ab_ci c'), x) ∧ x.1 = ab_ln c' i := by
    unfold ab_ent
    rw [if_neg h0]
    split
    · exact ⟨_, rfl, rfl⟩
    · split
      · exact ⟨_, rfl, rfl⟩
      · exact ⟨_, rfl, rfl⟩
  obtain ⟨x, he, hx⟩ := he
  rw [he] at hk
  exact va_alen X.1 X.2.1 X.2.2.2.2.2.1 hP q0 (ab_ci c') hk (hT ca) (by rw [hx]; exact hv) hd (kk H locs ls hW hS hl)
theorem ab_iast (X : ab_X p s m args c cc own nL D ca A H0) {c' i : Nat} {j x : Int32} (n : Nat) (ha : ab_tag c' = 1 ∧ ab_ci c' = 0) (hd : decode cc pc = .ok (.iastore, 1)) (hi : i < N c') (hj : j = nI n) (hn : n < ab_ln c' i) (hL : ab_ln c' i < 2 ^ 31) (kk : ab_J p l e R s m args below meth c Q D ca A H0 nL cells slots ad N (ab_ui u c' i n x) (pc + 1) lv st) : ab_J p l e R s m args below meth c Q D ca A H0 nL cells slots ad N u pc lv (ab_I x :: ab_I j :: ab_O c' i :: st) := fun H locs ls hW hS hl => by
  obtain ⟨ws, q0, hP, hD, hk, -, hset⟩ := hW.put hi
  obtain ⟨hin, hcl⟩ := ab_ix hj hn hL
  rw [ab_ent_i ha.1, ha.2] at hk
  refine va_iast X.1 X.2.1 X.2.2.2.2.2.1 hP hD hS q0 0 hk rfl hin hd (fun H1 locs1 hP1 hD1 hS1 => kk H1 locs1 ls (hset H1 _ _ hP1 hD1 ?_ fun c2 i2 h => ab_ent_ui h) hS1 hl)
  rw [ab_ent_i ha.1, ha.2, hcl]
  refine congrArg (fun f => (Sum.inl (ca 0, ab_ln c' i, Sum.inl f) : va_E)) ?_
  funext q
  by_cases hq : q = n
  · subst hq; simp [upd, ab_up]
  · simp [upd, ab_up, hq]
theorem ab_zast (X : ab_X p s m args c cc own nL D ca A H0) {c' i : Nat} {j x : Int32} (n : Nat) (ha : ab_tag c' = 1 ∧ ab_ci c' = 1) (hd : decode cc pc = .ok (.bastore, 1)) (hi : i < N c') (hj : j = nI n) (hn : n < ab_ln c' i) (hL : ab_ln c' i < 2 ^ 31) (hx : x = 0 ∨ x = 1) (kk : ab_J p l e R s m args below meth c Q D ca A H0 nL cells slots ad N (ab_ui u c' i n x) (pc + 1) lv st) : ab_J p l e R s m args below meth c Q D ca A H0 nL cells slots ad N u pc lv (ab_I x :: ab_I j :: ab_O c' i :: st) := fun H locs ls hW hS hl => by
  obtain ⟨ws, q0, hP, hD, hk, -, hset⟩ := hW.put hi
  obtain ⟨hin, hcl⟩ := ab_ix hj hn hL
  have hnx : vp_nar .boolean x = x := by rcases hx with rfl | rfl <;> decide +kernel
  rw [ab_ent_i ha.1, ha.2] at hk
  refine va_zast X.1 X.2.1 X.2.2.2.2.2.1 hP hD hS q0 1 hk rfl hin hd (fun H1 locs1 hP1 hD1 hS1 => kk H1 locs1 ls (hset H1 _ _ hP1 hD1 ?_ fun c2 i2 h => ab_ent_ui h) hS1 hl)
  rw [ab_ent_i ha.1, ha.2, hcl, hnx]
  refine congrArg (fun f => (Sum.inl (ca 1, ab_ln c' i, Sum.inl f) : va_E)) ?_
  funext q
  by_cases hq : q = n
  · subst hq; simp [upd, ab_up]
  · simp [upd, ab_up, hq]
theorem ab_last (X : ab_X p s m args c cc own nL D ca A H0) {c' i : Nat} {j : Int32} {x : Int64} (n : Nat) (ha : ab_tag c' = 2 ∧ ab_ci c' = 2) (hd : decode cc pc = .ok (.lastore, 1)) (hi : i < N c') (hj : j = nI n) (hn : n < ab_ln c' i) (hL : ab_ln c' i < 2 ^ 31) (kk : ab_J p l e R s m args below meth c Q D ca A H0 nL cells slots ad N (ab_ul u c' i n x) (pc + 1) lv st) : ab_J p l e R s m args below meth c Q D ca A H0 nL cells slots ad N u pc lv (ab_L x :: ab_I j :: ab_O c' i :: st) := fun H locs ls hW hS hl => by
  obtain ⟨ws, q0, hP, hD, hk, -, hset⟩ := hW.put hi
  obtain ⟨hin, hcl⟩ := ab_ix hj hn hL
  rw [ab_ent_l ha.1, ha.2] at hk
  refine va_last X.1 X.2.1 X.2.2.2.2.2.1 hP hD hS q0 2 hk rfl hin hd (fun H1 locs1 hP1 hD1 hS1 => kk H1 locs1 ls (hset H1 _ _ hP1 hD1 ?_ fun c2 i2 h => ab_ent_ul h) hS1 hl)
  rw [ab_ent_l ha.1, ha.2, hcl]
  refine congrArg (fun f => (Sum.inl (ca 2, ab_ln c' i, Sum.inr (Sum.inl f)) : va_E)) ?_
  funext q
  by_cases hq : q = n
  · subst hq; simp [vp_updL, ab_up]
  · simp [vp_updL, ab_up, hq]
theorem ab_aast (X : ab_X p s m args c cc own nL D ca A H0) {c' i c2 i2 : Nat} {j : Int32} (n : Nat) (ha : ab_tag c' = 3 ∧ ab_tag c2 = 0 ∧ ∃ r : vw_C, vwCl[ab_ci c2]? = some r ∧ ∀ ca : Nat → ClassId, (ab_tys ca)[ab_ci c']? = some (ca (ab_ci c'), .object r.1)) (hd : decode cc pc = .ok (.aastore, 1)) (hi : i < N c') (hi2 : i2 < N c2) (hj : j = nI n) (hn : n < ab_ln c' i) (hL : ab_ln c' i < 2 ^ 31) (kk : ab_J p l e R s m args below meth c Q D ca A H0 nL cells slots ad N (ab_ur u c' i n (some (c2, i2))) (pc + 1) lv st) : ab_J p l e R s m args below meth c Q D ca A H0 nL cells slots ad N u pc lv (ab_O c2 i2 :: ab_I j :: ab_O c' i :: st) := fun H locs ls hW hS hl => by
  obtain ⟨ws, q0, hP, hD, hk, h1, hset⟩ := hW.put hi
  obtain ⟨hin, hcl⟩ := ab_ix hj hn hL
  obtain ⟨t3, t0, r, hr, hT⟩ := ha
  obtain ⟨q2, hq2⟩ := List.getElem?_of_mem (h1 c2 i2 hi2)
  rw [ab_ent_o t0] at hq2
  rw [ab_ent_r t3] at hk
  refine va_astq X.1 X.2.1 X.2.2.2.2.2.1 hP hD hS q0 (ab_ci c') q2 (ab_ci c2) hk (hT ca) hq2 hr hin hd (fun H1 locs1 hP1 hD1 hS1 => kk H1 locs1 ls (hset H1 _ _ hP1 hD1 ?_ fun c2 i2 h => ab_ent_ur h) hS1 hl)
  rw [ab_ent_r t3, hcl]
  refine congrArg (fun f => (Sum.inl (ca (ab_ci c'), ab_ln c' i, Sum.inr (Sum.inr (Sum.inr (Sum.inr f)))) : va_E)) ?_
  funext q
  by_cases hq : q = n
  · subst hq; simp [va_up, ab_up]
  · simp [va_up, ab_up, hq]
end AbJ
