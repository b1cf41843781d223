/-! The abstract layer: values, states, worlds, one judgement J over the kit's W. -/
abbrev ab_V : Type := Int32 ⊕ Int64 ⊕ Option (Nat × Nat)
abbrev ab_I (x : Int32) : ab_V := Sum.inl x
abbrev ab_L (x : Int64) : ab_V := Sum.inr (Sum.inl x)
abbrev ab_R (r : Option (Nat × Nat)) : ab_V := Sum.inr (Sum.inr r)
abbrev ab_O (c i : Nat) : ab_V := Sum.inr (Sum.inr (some (c, i)))
abbrev ab_Ad : Type := Nat → Nat → Nat
def ab_rf (ad : ab_Ad) (r : Option (Nat × Nat)) : Value := va_rf (r.map fun q => ad q.1 q.2)
def ab_cv (ad : ab_Ad) (v : ab_V) : Value := match v with
  | .inl x => .int x
  | .inr (.inl x) => .long x
  | .inr (.inr r) => ab_rf ad r
def ab_is2 (v : ab_V) : Bool := match v with
  | .inr (.inl _) => true
  | _ => false
theorem ab_cat (ad : ab_Ad) (v : ab_V) : ((ab_cv ad v).category == 2) = ab_is2 v := by
  rcases v with x | x | r
  · rfl
  · rfl
  · cases r <;> rfl
/-- ints (and booleans), references, longs: by kind, number, place -/
abbrev ab_S : Type := (Nat → Nat → Nat → Int32) × (Nat → Nat → Nat → Option (Nat × Nat)) × (Nat → Nat → Nat → Int64)
def ab_up {α : Type} (f : Nat → Nat → Nat → α) (c i k : Nat) (v : α) : Nat → Nat → Nat → α := fun c' i' k' => if c' = c ∧ i' = i ∧ k' = k then v else f c' i' k'
theorem ab_up_s {α : Type} (f : Nat → Nat → Nat → α) (c i k : Nat) (v : α) : ab_up f c i k v c i k = v := by simp [ab_up]
theorem ab_up_n {α : Type} (f : Nat → Nat → Nat → α) {c i k c' i' k' : Nat} (v : α) (h : ¬ (c' = c ∧ i' = i ∧ k' = k)) : ab_up f c i k v c' i' k' = f c' i' k' := by simp [ab_up, h]
abbrev ab_ui (u : ab_S) (c i k : Nat) (v : Int32) : ab_S := (ab_up u.1 c i k v, u.2)
abbrev ab_ur (u : ab_S) (c i k : Nat) (r : Option (Nat × Nat)) : ab_S := (u.1, ab_up u.2.1 c i k r, u.2.2)
abbrev ab_ul (u : ab_S) (c i k : Nat) (v : Int64) : ab_S := (u.1, u.2.1, ab_up u.2.2 c i k v)
def ab_fv (ad : ab_Ad) (u : ab_S) (c i k t : Nat) : Value := if t = 0 then .int (u.1 c i k) else ab_rf ad (u.2.1 c i k)
def ab_fs (ad : ab_Ad) (u : ab_S) (c i : Nat) (ts : List Nat) : List Value := ts.mapIdx fun k t => ab_fv ad u c i k t
theorem ab_fs_get {ad : ab_Ad} {u : ab_S} {c i k t : Nat} {ts : List Nat} (h : ts[k]? = some t) : (ab_fs ad u c i ts)[k]? = some (ab_fv ad u c i k t) := by
  simp [ab_fs, List.getElem?_mapIdx, h]
theorem ab_fs_len {ad : ab_Ad} {u : ab_S} {c i : Nat} {ts : List Nat} : (ab_fs ad u c i ts).length = ts.length := by simp [ab_fs]
theorem ab_fs_set {ad : ab_Ad} {u u' : ab_S} {c i k t : Nat} {ts : List Nat} {v : Value} (h : ts[k]? = some t) (hv : ab_fv ad u' c i k t = v) (ho : ∀ j t', j ≠ k → ab_fv ad u' c i j t' = ab_fv ad u c i j t') : (ab_fs ad u c i ts).set k v = ab_fs ad u' c i ts := by
  have hl : k < (ab_fs ad u c i ts).length := by rw [ab_fs_len]; exact (List.getElem?_eq_some_iff.mp h).1
  apply List.ext_getElem?
  intro j
  by_cases hj : j = k
  · subst hj
    rw [List.getElem?_set_self hl, ab_fs_get h, hv]
  · rw [List.getElem?_set_ne (Ne.symm hj)]
    simp only [ab_fs, List.getElem?_mapIdx]
    cases ts[j]? with
    | none => rfl
    | some t' => simp only [Option.map_some]; rw [ho j t' hj]
/-- what the cell (c, i) holds -/
def ab_ent (ca : Nat → ClassId) (ad : ab_Ad) (u : ab_S) (c i : Nat) : va_E :=
  if ab_tag c = 0 then .inr (ab_ci c, ab_fs ad u c i (ab_ts c))
  else if ab_tag c = 1 then .inl (ca (ab_ci c), ab_ln c i, .inl (u.1 c i))
  else if ab_tag c = 2 then .inl (ca (ab_ci c), ab_ln c i, .inr (.inl (u.2.2 c i)))
  else .inl (ca (ab_ci c), ab_ln c i, .inr (.inr (.inr (.inr fun j => (u.2.1 c i j).map fun q => ad q.1 q.2))))
section AbE
variable {ca : Nat → ClassId} {ad : ab_Ad} {u : ab_S} {c i : Nat}
theorem ab_ent_o (h : ab_tag c = 0) : ab_ent ca ad u c i = .inr (ab_ci c, ab_fs ad u c i (ab_ts c)) := by unfold ab_ent; rw [if_pos h]
theorem ab_ent_i (h : ab_tag c = 1) : ab_ent ca ad u c i = .inl (ca (ab_ci c), ab_ln c i, .inl (u.1 c i)) := by unfold ab_ent; rw [if_neg (by omega), if_pos h]
theorem ab_ent_l (h : ab_tag c = 2) : ab_ent ca ad u c i = .inl (ca (ab_ci c), ab_ln c i, .inr (.inl (u.2.2 c i))) := by unfold ab_ent; rw [if_neg (by omega), if_neg (by omega), if_pos h]
theorem ab_ent_r (h : ab_tag c = 3) : ab_ent ca ad u c i = .inl (ca (ab_ci c), ab_ln c i, .inr (.inr (.inr (.inr fun j => (u.2.1 c i j).map fun q => ad q.1 q.2)))) := by unfold ab_ent; rw [if_neg (by omega), if_neg (by omega), if_neg (by omega)]
/-- a write at (c, i) leaves every other cell -/
theorem ab_ent_ui {k : Nat} {v : Int32} {c' i' : Nat} (h : ¬ (c' = c ∧ i' = i)) : ab_ent ca ad (ab_ui u c i k v) c' i' = ab_ent ca ad u c' i' := by
  have e : ∀ j, ab_up u.1 c i k v c' i' j = u.1 c' i' j := fun j => ab_up_n _ _ fun q => h ⟨q.1, q.2.1⟩
  have e2 : ab_up u.1 c i k v c' i' = u.1 c' i' := funext e
  simp only [ab_ent, ab_fs, ab_fv, e, e2]
theorem ab_ent_ur {k : Nat} {v : Option (Nat × Nat)} {c' i' : Nat} (h : ¬ (c' = c ∧ i' = i)) : ab_ent ca ad (ab_ur u c i k v) c' i' = ab_ent ca ad u c' i' := by
  have e : ∀ j, ab_up u.2.1 c i k v c' i' j = u.2.1 c' i' j := fun j => ab_up_n _ _ fun q => h ⟨q.1, q.2.1⟩
  simp only [ab_ent, ab_fs, ab_fv, e]
theorem ab_ent_ul {k : Nat} {v : Int64} {c' i' : Nat} (h : ¬ (c' = c ∧ i' = i)) : ab_ent ca ad (ab_ul u c i k v) c' i' = ab_ent ca ad u c' i' := by
  have e : ∀ j, ab_up u.2.2 c i k v c' i' j = u.2.2 c' i' j := fun j => ab_up_n _ _ fun q => h ⟨q.1, q.2.1⟩
  have e2 : ab_up u.2.2 c i k v c' i' = u.2.2 c' i' := funext e
  simp only [ab_ent, ab_fs, ab_fv, e2]
end AbE
/-- the world: the cells (c, i), i < N c, and no others, each as the state u has it -/
def ab_W (D : va_G) (ca : Nat → ClassId) (ad : ab_Ad) (N : Nat → Nat) (u : ab_S) (A : Nat → Prop) (H : Heap) : Prop :=
  (∀ c i c' i' : Nat, i < N c → i' < N c' → ad c i = ad c' i' → c = c' ∧ i = i') ∧
  ∃ ws : va_W, va_P D vwCl ws H ∧ va_D A ws ∧ (∀ c i : Nat, i < N c → (ad c i, ab_ent ca ad u c i) ∈ ws) ∧ (∀ q ∈ ws, ∃ c i : Nat, i < N c ∧ q = (ad c i, ab_ent ca ad u c i))
section AbW
variable {D : va_G} {ca : Nat → ClassId} {ad : ab_Ad} {N : Nat → Nat} {u u' : ab_S} {A B : Nat → Prop} {H H1 : Heap}
theorem ab_W.weaken (h : ab_W D ca ad N u A H) (hAB : ∀ c i : Nat, i < N c → B (ad c i)) : ab_W D ca ad N u B H := by
  obtain ⟨h0, ws, hP, hD, h1, h2⟩ := h
  refine ⟨h0, ws, hP, ⟨hD.1, fun k q hk => ?_⟩, h1, h2⟩
  obtain ⟨c, i, hi, rfl⟩ := h2 q (List.mem_of_getElem? hk)
  exact hAB c i hi
theorem ab_W.inA (h : ab_W D ca ad N u A H) {c i : Nat} (hi : i < N c) : A (ad c i) := by
  obtain ⟨h0, ws, hP, hD, h1, h2⟩ := h
  obtain ⟨k, hk⟩ := List.getElem?_of_mem (h1 c i hi)
  exact hD.2 k _ hk
theorem ab_W.at (h : ab_W D ca ad N u A H) {c i : Nat} (hi : i < N c) : ∃ (ws : va_W) (k : Nat), va_P D vwCl ws H ∧ va_D A ws ∧ ws[k]? = some (ad c i, ab_ent ca ad u c i) := by
  obtain ⟨-, ws, hP, hD, h1, -⟩ := h
  obtain ⟨k, hk⟩ := List.getElem?_of_mem (h1 c i hi)
  exact ⟨ws, k, hP, hD, hk⟩
theorem ab_W.put (h : ab_W D ca ad N u A H) {c i : Nat} (hi : i < N c) : ∃ (ws : va_W) (k : Nat), va_P D vwCl ws H ∧ va_D A ws ∧ ws[k]? = some (ad c i, ab_ent ca ad u c i) ∧ (∀ c' i' : Nat, i' < N c' → (ad c' i', ab_ent ca ad u c' i') ∈ ws) ∧
    ∀ (H1 : Heap) (u' : ab_S) (e : va_E), va_P D vwCl (ws.set k (ad c i, e)) H1 → va_D A (ws.set k (ad c i, e)) → e = ab_ent ca ad u' c i → (∀ c' i' : Nat, ¬ (c' = c ∧ i' = i) → ab_ent ca ad u' c' i' = ab_ent ca ad u c' i') → ab_W D ca ad N u' A H1 := by
  obtain ⟨h0, ws, hP, hD, h1, h2⟩ := h
  obtain ⟨k, hk⟩ := List.getElem?_of_mem (h1 c i hi)
  refine ⟨ws, k, hP, hD, hk, h1, fun H1 u' e hP' hD' he ho => ⟨h0, _, hP', hD', fun c' i' hi' => ?_, fun q hq => ?_⟩⟩
  · have hl := (List.getElem?_eq_some_iff.mp hk).1
    by_cases hc : c' = c ∧ i' = i
    · obtain ⟨rfl, rfl⟩ := hc
      rw [← he]
      exact List.mem_of_getElem? (i := k) (List.getElem?_set_self hl)
    · rw [ho c' i' hc]
      obtain ⟨k', hk'⟩ := List.getElem?_of_mem (h1 c' i' hi')
      have hne : k' ≠ k := by
        intro e
        subst e
        rw [hk] at hk'
        have q := (Prod.mk.inj (Option.some.inj hk')).1
        obtain ⟨a, b⟩ := h0 c i c' i' hi hi' q
        exact hc ⟨a.symm, b.symm⟩
      exact List.mem_of_getElem? (i := k') (by rw [List.getElem?_set_ne (Ne.symm hne)]; exact hk')
  · have hl := (List.getElem?_eq_some_iff.mp hk).1
    obtain ⟨j, hj⟩ := List.getElem?_of_mem hq
    by_cases hjk : j = k
    · subst hjk
      rw [List.getElem?_set_self hl] at hj
      cases hj
      exact ⟨c, i, hi, by rw [he]⟩
    · rw [List.getElem?_set_ne (Ne.symm hjk)] at hj
      obtain ⟨c', i', hi', rfl⟩ := h2 q (List.mem_of_getElem? hj)
      have hn : ¬ (c' = c ∧ i' = i) := fun ⟨a, b⟩ => by
        subst a; subst b
        exact hjk (hD.1 j k _ _ hj hk rfl)
      exact ⟨c', i', hi', by rw [ho c' i' hn]⟩
end AbW
/-! what stands outside of the world and is never written: the statics of Throwable (null or a reference), the table of kinds; (21, 0) is that table -/
def ab_kinds (j : Nat) : Int32 := ([1, 2, 3, 4, 6, 7, 8] : List Int32).getD j 0
def ab_LS (C n d : String) (A : Nat → Prop) (U : State) (H : Heap) : Prop := ∃ (c : ClassId) (k : Class) (i : Nat) (f : Field) (a : Nat) (cell : Cell), U.vm.findClass C = some c ∧ U.fieldFound? C n d = some (c, k, i, f) ∧ f.isStatic = true ∧ k.statics = some a ∧ H[a]? = some cell ∧ cell.vm.isStatics = true ∧ cell.cls = c ∧ f.slot < cell.slots.size ∧ k.staticTypes[f.slot]? = some f.type ∧ ¬ A a
theorem ab_LS.moved {C n d : String} {A : Nat → Prop} {u U : State} {H : Heap} (hvm : u.vm.Alike U.vm) (h : ab_LS C n d A u H) : ab_LS C n d A U H := by
  obtain ⟨c, k, i, f, a, cell, h1, h2, h3, h4, h5, h6, h7, h8, h9, h10⟩ := h
  obtain ⟨k', hi', hek⟩ := State.fieldFound?_setVm hvm h2
  exact ⟨c, k', i, f, a, cell, by rw [hvm.findClass]; exact h1, hi', h3, by rw [hek]; exact h4, h5, h6, h7, h8, by rw [hek]; exact h9, h10⟩
theorem ab_LS.kept {C n d : String} {A : Nat → Prop} {U : State} {H H1 : Heap} (h : ab_LS C n d A U H) (hq : ∀ a : Nat, a < H.size → ¬ A a → H1[a]? = H[a]?) : ab_LS C n d A U H1 := by
  obtain ⟨c, k, i, f, a, cell, h1, h2, h3, h4, h5, h6, h7, h8, h9, h10⟩ := h
  exact ⟨c, k, i, f, a, cell, h1, h2, h3, h4, by rw [hq a (Array.getElem?_eq_some_iff.mp h5).1 h10]; exact h5, h6, h7, h8, h9, h10⟩
theorem ab_LS.narrow {C n d : String} {A B : Nat → Prop} {U : State} {H : Heap} (h : ab_LS C n d A U H) (hAB : ∀ q, B q → A q) : ab_LS C n d B U H := by
  obtain ⟨c, k, i, f, a, cell, h1, h2, h3, h4, h5, h6, h7, h8, h9, h10⟩ := h
  exact ⟨c, k, i, f, a, cell, h1, h2, h3, h4, h5, h6, h7, h8, h9, fun q => h10 (hAB a q)⟩
theorem ab_LS.use {C n d : String} {A : Nat → Prop} {U : State} {args : Array Value} (h : ab_LS C n d A U U.heap) : (Cond.laysStatic C n d).before args U = true := by
  obtain ⟨c, k, i, f, a, cell, h1, h2, h3, h4, h5, h6, h7, h8, h9, h10⟩ := h
  exact Cond.laysStatic_of h1 h2 h3 h4 h5 h6 h7 h8 h9
theorem ab_Zq.use {C n d : String} {A : Nat → Prop} {U : State} {args : Array Value} (h : va_Zq C n d A U U.heap) : (Cond.isRef (.static C n d)).before args U = true := by
  rcases h with h | ⟨t, h⟩ <;>
  · obtain ⟨cf, kf, fi, f, a, cell, h1, h2, h3, h4, h5, h6, h7, h8⟩ := h
    simp [Cond.before, Cond.holds, Cond.value, Term.eval, State.fieldNamed?, h1, h2, h4, h5, h6, h7]
/-! the seven names, (22, i), and their bytes, (24, i) -/
def ab_sl : List Nat := [4, 5, 6, 6, 4, 3, 4]
def ab_sb : List (List Int32) := [[107, 101, 121, 40], [104, 97, 115, 104, 40], [97, 102, 116, 101, 114, 40], [111, 108, 100, 101, 114, 40], [97, 110, 100, 40], [111, 114, 40], [116, 104, 114, 40]]
def ab_st (i : Nat) : String := (["key(", "hash(", "after(", "older(", "and(", "or(", "thr("] : List String).getD i ""
/-! two kinds of exception, of which one isn't the other -/
def ab_nc (a b : String) (U : State) : Prop := ∃ c t, U.vm.findClass a = some c ∧ U.vm.findClass b = some t ∧ U.vm.assignable c t = false
theorem ab_nc.moved {a b : String} {u U : State} (hW : u.vm.Alike U.vm) (h : ab_nc a b u) : ab_nc a b U := by
  obtain ⟨c, t, h1, h2, h3⟩ := h
  exact ⟨c, t, by rw [hW.findClass]; exact h1, by rw [hW.findClass]; exact h2, by rw [hW.assignable]; exact h3⟩
theorem ab_nc.of {a b : String} {U : State} {args : Array Value} (h : (Cond.not (.castable a b)).before args U = true) : ab_nc a b U := by
  simp only [Cond.before, Cond.holds, Cond.value] at h
  cases hc : U.vm.findClass a with
  | none => simp [hc] at h
  | some c =>
    cases ht : U.vm.findClass b with
    | none => simp [hc, ht] at h
    | some t => exact ⟨c, t, by first | rfl | exact hc, by first | rfl | exact ht, by simpa [hc, ht] using h⟩
def ab_Ss (ad : ab_Ad) (A : Nat → Prop) (U : State) (H : Heap) : Prop :=
  vk_S 7 ab_sl ab_sb (ad 22) (ad 24) A U H ∧ va_Z "java/lang/String" "COMPACT_STRINGS" "Z" (.int 1) A U H ∧ va_Zq "jdk/internal/util/Preconditions" "SIOOBE_FORMATTER" "Ljava/util/function/BiFunction;" A U H ∧
  (∀ i : Nat, i < 7 → vk_R "PolicyForge$Reader" (93 + 2 * i) (ab_st i) (ad 22 i) U) ∧ ab_nc "java/lang/IllegalArgumentException" "java/util/NoSuchElementException" U ∧ ab_nc "java/lang/IllegalStateException" "java/lang/IllegalArgumentException" U
theorem ab_Ss.moved {ad : ab_Ad} {A : Nat → Prop} {u U : State} {H : Heap} (hW : u.WarmedH U.vm) (h : ab_Ss ad A u H) : ab_Ss ad A U H := ⟨h.1.moved hW.alike, h.2.1.moved hW.alike, h.2.2.1.moved hW.alike, fun i hi => (h.2.2.2.1 i hi).warm hW, h.2.2.2.2.1.moved hW.alike, h.2.2.2.2.2.moved hW.alike⟩
theorem ab_Ss.kept {ad : ab_Ad} {A : Nat → Prop} {U : State} {H H1 : Heap} (h : ab_Ss ad A U H) (hq : ∀ a : Nat, a < H.size → ¬ A a → H1[a]? = H[a]?) : ab_Ss ad A U H1 := ⟨h.1.kept hq, h.2.1.kept hq, h.2.2.1.kept hq, h.2.2.2⟩
theorem ab_Ss.narrow {ad : ab_Ad} {A B : Nat → Prop} {U : State} {H : Heap} (h : ab_Ss ad A U H) (hAB : ∀ q, B q → A q) : ab_Ss ad B U H := ⟨h.1.narrow hAB, h.2.1.narrow hAB, h.2.2.1.narrow hAB, h.2.2.2⟩
def ab_Zs (ad : ab_Ad) (A : Nat → Prop) (U : State) (H : Heap) : Prop :=
  va_Zq "java/lang/Throwable" "UNASSIGNED_STACK" "[Ljava/lang/StackTraceElement;" A U H ∧ va_Zq "java/lang/Throwable" "SUPPRESSED_SENTINEL" "Ljava/util/List;" A U H ∧
  va_Z "PolicyForge" "KINDS" "[I" (.ref (ad 21 0)) A U H ∧ va_T .int (ad 21 0) 7 (fun j => .int (ab_kinds j)) A U H ∧
  ab_LS "java/lang/Throwable" "UNASSIGNED_STACK" "[Ljava/lang/StackTraceElement;" A U H ∧ ab_LS "java/lang/Throwable" "SUPPRESSED_SENTINEL" "Ljava/util/List;" A U H ∧ ab_Ss ad A U H
theorem ab_Zs.moved {ad : ab_Ad} {A : Nat → Prop} {u U : State} {H : Heap} (hW : u.WarmedH U.vm) (h : ab_Zs ad A u H) : ab_Zs ad A U H := ⟨h.1.moved hW.alike, h.2.1.moved hW.alike, h.2.2.1.moved hW.alike, h.2.2.2.1.moved hW.alike, h.2.2.2.2.1.moved hW.alike, h.2.2.2.2.2.1.moved hW.alike, h.2.2.2.2.2.2.moved hW⟩
theorem ab_Zs.kept {ad : ab_Ad} {A : Nat → Prop} {U : State} {H H1 : Heap} (h : ab_Zs ad A U H) (hq : ∀ a : Nat, a < H.size → ¬ A a → H1[a]? = H[a]?) : ab_Zs ad A U H1 := ⟨h.1.kept hq, h.2.1.kept hq, h.2.2.1.kept hq, h.2.2.2.1.kept hq, h.2.2.2.2.1.kept hq, h.2.2.2.2.2.1.kept hq, h.2.2.2.2.2.2.kept hq⟩
theorem ab_Zs.narrow {ad : ab_Ad} {A B : Nat → Prop} {U : State} {H : Heap} (h : ab_Zs ad A U H) (hAB : ∀ q, B q → A q) : ab_Zs ad B U H := ⟨h.1.narrow hAB, h.2.1.narrow hAB, h.2.2.1.narrow hAB, h.2.2.2.1.narrow hAB, h.2.2.2.2.1.narrow hAB, h.2.2.2.2.2.1.narrow hAB, h.2.2.2.2.2.2.narrow hAB⟩
/-! words of the tables that aren't carried along by the kit's own row: carried here -/
def ab_odd (w : Cond) : Bool := match w with
  | .methodLinkNest .. => true
  | .fieldLinkNest .. => true
  | .castable .. => true
  | .declares .. => true
  | .arrayOver (.object _) => true
  | _ => false
def ab_Nw (U : State) : Prop := ∀ w ∈ lw_tbl.filter ab_odd, va_Nw w U
theorem ab_Nw.moved {u U : State} (hW : u.WarmedH U.vm) (h : ab_Nw u) : ab_Nw U := fun w hw => by
  have h1 := h w hw
  have h2 := (List.mem_filter.mp hw).2
  cases w with
  | methodLinkNest a i y host => exact va_Nw.warmM hW h1
  | fieldLinkNest a i b n d hh => exact va_Nw.warmF hW h1
  | castable a b => exact va_Nw.warmC hW h1
  | declares x => exact va_Nw.warmD hW h1
  | arrayOver t =>
    cases t with
    | object C => exact va_AO.moved hW.alike h1
    | _ => cases h2
  | _ => cases h2
theorem ab_Nw.at {U : State} (h : ab_Nw U) {w : Cond} (i : Nat) (hi : lw_tbl[i]? = some w) (ho : ab_odd w = true) : va_Nw w U := h w (List.mem_filter.mpr ⟨List.mem_of_getElem? hi, ho⟩)
