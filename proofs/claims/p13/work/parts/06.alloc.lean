/-! New cells. -/
def ab_live (N : Nat → Nat) (v : ab_V) : Prop := match v with
  | .inr (.inr (some q)) => q.2 < N q.1 ∨ 21 ≤ q.1
  | _ => True
/-- what isn't there yet holds nothing; no reference leads there -/
def ab_G (N : Nat → Nat) (u : ab_S) : Prop := (∀ c i k : Nat, N c ≤ i → u.1 c i k = 0 ∧ u.2.1 c i k = none ∧ u.2.2 c i k = 0) ∧ ∀ (c i k : Nat) (q : Nat × Nat), u.2.1 c i k = some q → q.2 < N q.1 ∨ 21 ≤ q.1
def ab_nx (N : Nat → Nat) (c : Nat) : Nat → Nat := fun c' => if c' = c then N c + 1 else N c'
def ab_ex (N : Nat → Nat) (ad ad' : ab_Ad) : Prop := ∀ c i : Nat, i < N c ∨ 21 ≤ c → ad' c i = ad c i
theorem ab_nx_le (N : Nat → Nat) (c c' : Nat) : N c' ≤ ab_nx N c c' := by
  unfold ab_nx; split
  · next h => rw [h]; omega
  · exact Nat.le_refl _
theorem ab_ex.trans {N N' : Nat → Nat} {a b c : ab_Ad} (h : ab_ex N a b) (hN : ∀ k, N k ≤ N' k) (h2 : ab_ex N' b c) : ab_ex N a c := fun k i hi => (h2 k i (hi.imp (fun z => Nat.lt_of_lt_of_le z (hN k)) id)).trans (h k i hi)
theorem ab_ex.rf {N : Nat → Nat} {a : ab_Ad} : ab_ex N a a := fun _ _ _ => rfl
theorem ab_rf_ex {N : Nat → Nat} {ad ad' : ab_Ad} (h : ab_ex N ad ad') {r : Option (Nat × Nat)} (hr : ∀ q, r = some q → q.2 < N q.1 ∨ 21 ≤ q.1) : (r.map fun q => ad' q.1 q.2) = r.map fun q => ad q.1 q.2 := by
  cases r with
  | none => rfl
  | some q => simp only [Option.map_some]; rw [h q.1 q.2 (hr q rfl)]
theorem ab_cv_ex {N : Nat → Nat} {ad ad' : ab_Ad} (h : ab_ex N ad ad') {v : ab_V} (hv : ab_live N v) : ab_cv ad' v = ab_cv ad v := by
  rcases v with x | x | r
  · rfl
  · rfl
  · show va_rf _ = va_rf _
    rw [ab_rf_ex h (r := r) (fun q e => by subst e; exact hv)]
theorem ab_map_ex {N : Nat → Nat} {ad ad' : ab_Ad} (h : ab_ex N ad ad') {st : List ab_V} (hv : ∀ v ∈ st, ab_live N v) : st.map (ab_cv ad') = st.map (ab_cv ad) := List.map_congr_left fun v hm => ab_cv_ex h (hv v hm)
theorem ab_lv_ex {N : Nat → Nat} {ad ad' : ab_Ad} (h : ab_ex N ad ad') {lv : List (Nat × ab_V)} (hv : ∀ q ∈ lv, ab_live N q.2) : (lv.map fun q => (q.1, ab_cv ad' q.2)) = lv.map fun q => (q.1, ab_cv ad q.2) := List.map_congr_left fun q hm => by rw [ab_cv_ex h (hv q hm)]
theorem ab_ent_ex {N : Nat → Nat} {ad ad' : ab_Ad} (h : ab_ex N ad ad') {u : ab_S} (hG : ab_G N u) (ca : Nat → ClassId) (c i : Nat) : ab_ent ca ad' u c i = ab_ent ca ad u c i := by
  have e : ∀ k, ((u.2.1 c i k).map fun q => ad' q.1 q.2) = (u.2.1 c i k).map fun q => ad q.1 q.2 := fun k => ab_rf_ex h fun q hq => hG.2 c i k q hq
  simp only [ab_ent, ab_fs, ab_fv, ab_rf, e]
theorem ab_G.ui {N : Nat → Nat} {u : ab_S} (h : ab_G N u) {c i k : Nat} (hi : i < N c) (v : Int32) : ab_G N (ab_ui u c i k v) := by
  refine ⟨fun c' i' k' hk => ?_, h.2⟩
  have hn : ¬ (c' = c ∧ i' = i ∧ k' = k) := fun ⟨a, b, _⟩ => by subst a; subst b; omega
  exact ⟨(ab_up_n _ _ hn).trans (h.1 c' i' k' hk).1, (h.1 c' i' k' hk).2⟩
theorem ab_G.ur {N : Nat → Nat} {u : ab_S} (h : ab_G N u) {c i k : Nat} (hi : i < N c) {r : Option (Nat × Nat)} (hr : ab_live N (ab_R r)) : ab_G N (ab_ur u c i k r) := by
  refine ⟨fun c' i' k' hk => ?_, fun c' i' k' q hq => ?_⟩
  · have hn : ¬ (c' = c ∧ i' = i ∧ k' = k) := fun ⟨a, b, _⟩ => by subst a; subst b; omega
    exact ⟨(h.1 c' i' k' hk).1, (ab_up_n _ _ hn).trans (h.1 c' i' k' hk).2.1, (h.1 c' i' k' hk).2.2⟩
  · by_cases hn : c' = c ∧ i' = i ∧ k' = k
    · obtain ⟨rfl, rfl, rfl⟩ := hn
      rw [show (ab_ur u c' i' k' r).2.1 c' i' k' = r from ab_up_s _ _ _ _ _] at hq
      subst hq
      exact hr
    · rw [show (ab_ur u c i k r).2.1 c' i' k' = u.2.1 c' i' k' from ab_up_n _ _ hn] at hq
      exact h.2 c' i' k' q hq
theorem ab_G.ul {N : Nat → Nat} {u : ab_S} (h : ab_G N u) {c i k : Nat} (hi : i < N c) (v : Int64) : ab_G N (ab_ul u c i k v) := by
  refine ⟨fun c' i' k' hk => ?_, h.2⟩
  have hn : ¬ (c' = c ∧ i' = i ∧ k' = k) := fun ⟨a, b, _⟩ => by subst a; subst b; omega
  exact ⟨(h.1 c' i' k' hk).1, (h.1 c' i' k' hk).2.1, (ab_up_n _ _ hn).trans (h.1 c' i' k' hk).2.2⟩
theorem ab_G.more {N N' : Nat → Nat} {u : ab_S} (h : ab_G N u) (hN : ∀ c, N c ≤ N' c) : ab_G N' u := ⟨fun c i k hk => h.1 c i k (Nat.le_trans (hN c) hk), fun c i k q hq => (h.2 c i k q hq).imp (fun z => Nat.lt_of_lt_of_le z (hN _)) id⟩
theorem ab_W.push {D : va_G} {ca : Nat → ClassId} {ad : ab_Ad} {N : Nat → Nat} {u : ab_S} {A : Nat → Prop} {H : Heap} (h : ab_W D ca ad N u A H) (hG : ab_G N u) (c : Nat) : ∃ ws : va_W, va_P D vwCl ws H ∧ va_D A ws ∧
    ∀ (H1 : Heap) (a : Nat) (ad' : ab_Ad), ab_ex N ad ad' → ad' c (N c) = a → va_P D vwCl (ws ++ [(a, ab_ent ca ad' u c (N c))]) H1 → va_D A (ws ++ [(a, ab_ent ca ad' u c (N c))]) → ab_W D ca ad' (ab_nx N c) u A H1 := by
  obtain ⟨h0, ws, hP, hD, h1, h2⟩ := h
  refine ⟨ws, hP, hD, fun H1 a ad' hx ha hP1 hD1 => ?_⟩
  have hold : ∀ c' i' : Nat, i' < N c' → (ad' c' i', ab_ent ca ad' u c' i') ∈ ws := fun c' i' hi' => by rw [ab_ent_ex hx hG, hx c' i' (Or.inl hi')]; exact h1 c' i' hi'
  have hcase : ∀ c' i' : Nat, i' < ab_nx N c c' → i' < N c' ∨ (c' = c ∧ i' = N c) := fun c' i' hi' => by
    unfold ab_nx at hi'
    by_cases hc : c' = c
    · subst hc; rw [if_pos rfl] at hi'
      by_cases hi : i' < N c'
      · exact Or.inl hi
      · exact Or.inr ⟨rfl, by omega⟩
    · rw [if_neg hc] at hi'; exact Or.inl hi'
  have hnew : (ws ++ [(a, ab_ent ca ad' u c (N c))])[ws.length]? = some (a, ab_ent ca ad' u c (N c)) := by simp
  have hap : ∀ c' i' : Nat, i' < N c' → ad' c' i' ≠ a := fun c' i' hi' e => by
    obtain ⟨k, hk⟩ := List.getElem?_of_mem (hold c' i' hi')
    have hl := (List.getElem?_eq_some_iff.mp hk).1
    have := hD1.1 k ws.length _ _ (by rw [List.getElem?_append_left hl]; exact hk) hnew e
    omega
  refine ⟨fun c1 i1 c2 i2 hi1 hi2 e => ?_, _, hP1, hD1, fun c' i' hi' => ?_, fun q hq => ?_⟩
  · rcases hcase c1 i1 hi1 with a1 | ⟨rfl, rfl⟩ <;> rcases hcase c2 i2 hi2 with a2 | ⟨rfl, rfl⟩
    · rw [hx c1 i1 (Or.inl a1), hx c2 i2 (Or.inl a2)] at e
      exact h0 c1 i1 c2 i2 a1 a2 e
    · exact absurd (e.trans ha) (hap c1 i1 a1)
    · exact absurd (e.symm.trans ha) (hap c2 i2 a2)
    · exact ⟨rfl, rfl⟩
  · rcases hcase c' i' hi' with a1 | ⟨rfl, rfl⟩
    · exact List.mem_append_left _ (hold c' i' a1)
    · rw [ha]; exact List.mem_append_right _ (List.mem_singleton.mpr rfl)
  · rcases List.mem_append.mp hq with hq | hq
    · obtain ⟨c', i', hi', rfl⟩ := h2 q hq
      exact ⟨c', i', Nat.lt_of_lt_of_le hi' (ab_nx_le N c c'), by rw [ab_ent_ex hx hG, hx c' i' (Or.inl hi')]⟩
    · rw [List.mem_singleton.mp hq]
      exact ⟨c, N c, by unfold ab_nx; rw [if_pos rfl]; omega, by rw [ha]⟩
def ab_adx (ad : ab_Ad) (c i a : Nat) : ab_Ad := fun c' i' => if c' = c ∧ i' = i then a else ad c' i'
theorem ab_adx_ex {ad : ab_Ad} {N : Nat → Nat} {c a : Nat} (hc : c < 21) : ab_ex N ad (ab_adx ad c (N c) a) := fun c' i' hi' => by
  unfold ab_adx
  rw [if_neg]
  rintro ⟨rfl, rfl⟩
  omega
theorem ab_adx_s {ad : ab_Ad} {c i a : Nat} : ab_adx ad c i a c i = a := by simp [ab_adx]
/-- the pool entry idx of own is the class of the kind c', of n fields -/
def ab_nw (own : String) (idx c' n : Nat) : Prop := ab_tag c' = 0 ∧ ∃ (C : String) (T : u_T) (ty0 : Nat → FieldType), vwCl[ab_ci c']? = some (C, T, n) ∧ (∀ w ∈ u_ws C T n, w ∈ ab_T) ∧ (∀ k, k < n → parseFieldDescriptor (T k).2.2.1 = some (ty0 k)) ∧ (∀ w ∈ ([.classLink own idx C, .instantiable C n, .initialized C] : List Cond), w ∈ ab_T) ∧ (ab_ts c').length = n ∧ ∀ k, k < n → defaultValue (ty0 k) = if (ab_ts c')[k]? = some 0 then .int 0 else .null
section AbN
variable {p : Program} {l : Launch} {e : Env} {R : Room} {s : State} {m : MethodId} {args : Array Value} {below : List Frame} {meth : Method} {c : Code} {Q : State → Prop}
variable {cc : ByteArray} {own : String} {nL : Nat} {D : va_G} {ca : Nat → ClassId} {A : Nat → Prop} {H0 : Heap} {cells slots : Nat} {ad : ab_Ad} {N : Nat → Nat} {u : ab_S} {pc : Nat} {lv : List (Nat × ab_V)} {st : List ab_V}
theorem ab_new (X : ab_X p s m args c cc own nL D ca A H0) {idx c' n : Nat} (hf : ab_nw own idx c' n) (hd : decode cc pc = .ok (.new idx, 3)) (h21 : c' < 21) (hG : ab_G N u) (hlv : ∀ q ∈ lv, ab_live N q.2) (hst : ∀ v ∈ st, ab_live N v) (hc : cells + 1 ≤ R.cells ∧ slots + n ≤ R.slots)
    (kk : ∀ ad' : ab_Ad, ab_ex N ad ad' → ab_J p l e R s m args below meth c Q D ca A H0 nL (cells + 1) (slots + n) ad' (ab_nx N c') u (pc + 3) lv (ab_O c' (N c') :: st)) : ab_J p l e R s m args below meth c Q D ca A H0 nL cells slots ad N u pc lv st := fun H locs ls hW hS hl => by
  obtain ⟨h0, C, T, ty0, h1, h2, h3, h4, h5, h6⟩ := hf
  obtain ⟨ws, hP, hD, hpush⟩ := hW.push hG c'
  have hfs : ∀ j : Nat, j < n → defaultValue (ty0 j) = vp_V (ab_fs ad u c' (N c') (ab_ts c')) j := fun j hj => by
    rw [h6 j hj]
    have hl' : j < (ab_ts c').length := by omega
    have hg : (ab_ts c')[j]? = some ((ab_ts c')[j]) := List.getElem?_eq_getElem hl'
    have z := hG.1 c' (N c') j (Nat.le_refl _)
    rw [vp_V, List.getD_eq_getElem?_getD, ab_fs_get hg, hg]
    simp only [Option.some.injEq, Option.getD_some, ab_fv, z.1, z.2.1]
    split <;> rfl
  refine va_new (ci := ab_ci c') (fs := ab_fs ad u c' (N c') (ab_ts c')) X.1 X.2.1 X.2.2.2.2.1 h2 ty0 h3 X.2.2.2.1 (X.2.2.2.2.1 _ (h4 _ (by simp))) (X.2.2.2.2.1 _ (h4 _ (by simp))) (X.2.2.2.2.1 _ (h4 _ (by simp))) X.2.2.2.2.2.1 hP hD hS X.2.2.2.2.2.2.1 h1 hfs hc.1 hc.2 hd (fun q H1 hP1 hD1 hS1 => ?_)
  have ex := ab_adx_ex (ad := ad) (N := N) (c := c') (a := q) h21
  have k1 := kk _ ex H1 locs ls (hpush H1 q _ ex ab_adx_s (by rw [ab_ent_ex ex hG, ab_ent_o h0]; exact hP1) (by rw [ab_ent_ex ex hG, ab_ent_o h0]; exact hD1)) hS1 (by rw [ab_lv_ex ex hlv]; exact hl)
  have e : (ab_O c' (N c') :: st).map (ab_cv (ab_adx ad c' (N c') q)) = Value.ref q :: st.map (ab_cv ad) := by
    rw [List.map_cons, ab_map_ex ex hst]
    show va_rf (some (ab_adx ad c' (N c') q c' (N c'))) :: _ = _
    rw [ab_adx_s]; rfl
  rw [e] at k1
  exact k1
theorem ab_caeq {tys : List (ClassId × FieldType)} {cA cB : ClassId} {ty : FieldType} {t : Nat} (hK : va_K D vwCl tys s) (hK' : va_K D vwCl (tys ++ [(cA, ty)]) s) (h : tys[t]? = some (cB, ty)) : cA = cB := by
  have a := (hK'.2 tys.length (cA, ty) (by simp)).2
  have b := (hK.2 t _ h).2
  cases ty with
  | object C =>
    obtain ⟨_, _, _, _, _, a4⟩ := a
    obtain ⟨_, _, _, _, _, b4⟩ := b
    exact Option.some.inj (a4.symm.trans b4)
  | _ => exact Option.some.inj (Eq.trans (Eq.symm a) b)
/-- a new array of ints, booleans or longs of the kind c' -/
theorem ab_newa (X : ab_X p s m args c cc own nL D ca A H0) {c' : Nat} {atype : ArrayType} {ty : FieldType} {j : Int32} (ht : newarray.typeOf atype = ty) (hw : Cond.arrayClass ty ∈ ab_T) (hk : (ab_tag c' = 1 ∧ (ty = .int ∨ ty = .boolean)) ∨ (ab_tag c' = 2 ∧ ty = .long)) (hty : ∀ ca : Nat → ClassId, (ab_tys ca)[ab_ci c']? = some (ca (ab_ci c'), ty)) (hd : decode cc pc = .ok (.newarray atype, 2)) (hj : j = nI (ab_ln c' (N c'))) (hL : ab_ln c' (N c') < 65536) (h21 : c' < 21) (hG : ab_G N u) (hlv : ∀ q ∈ lv, ab_live N q.2) (hst : ∀ v ∈ st, ab_live N v) (hc : cells + 1 ≤ R.cells ∧ slots + ab_ln c' (N c') ≤ R.slots)
    (kk : ∀ ad' : ab_Ad, ab_ex N ad ad' → ab_J p l e R s m args below meth c Q D ca A H0 nL (cells + 1) (slots + ab_ln c' (N c')) ad' (ab_nx N c') u (pc + 2) lv (ab_O c' (N c') :: st)) : ab_J p l e R s m args below meth c Q D ca A H0 nL cells slots ad N u pc lv (ab_I j :: st) := fun H locs ls hW hS hl => by
  obtain ⟨ws, hP, hD, hpush⟩ := hW.push hG c'
  subst hj
  have hcb : ab_ln c' (N c') * componentBytes ty ≤ 536870912 := by
    rcases hk with ⟨-, rfl | rfl⟩ | ⟨-, rfl⟩ <;> simp only [componentBytes] <;> omega
  have z := fun k => hG.1 c' (N c') k (Nat.le_refl _)
  have he : ∃ a0 : vp_A, ab_ent ca ad u c' (N c') = .inl (ca (ab_ci c'), a0) ∧ ∀ cA : ClassId, vp_cell cA a0 = arrV cA (ab_ln c' (N c')) (fun _ => defaultValue ty) := by
    rcases hk with ⟨h1, h2⟩ | ⟨h1, h2⟩
    · refine ⟨_, ab_ent_i h1, fun cA => ?_⟩
      rw [vp_cell_i]
      congr 1
      funext k
      rw [(z k).1]
      rcases h2 with rfl | rfl <;> rfl
    · refine ⟨_, ab_ent_l h1, fun cA => ?_⟩
      rw [vp_cell_l]
      congr 1
      funext k
      rw [(z k).2.2, h2]
      rfl
  obtain ⟨a0, he, ha0⟩ := he
  refine va_newa (a0 := a0) X.1 X.2.1 (by rw [ht]; exact X.2.2.2.2.1 _ hw) ht X.2.2.2.2.2.1 hP hD hS X.2.2.2.2.2.2.1 ha0 (nI_pos (by omega)) (nI_clamp (by omega)) hcb hc.1 hc.2 hd (fun q cA H1 hK1 hP1 hD1 hS1 => ?_)
  have hcA : cA = ca (ab_ci c') := ab_caeq X.2.2.2.2.2.1 hK1 (hty ca)
  subst hcA
  have ex := ab_adx_ex (ad := ad) (N := N) (c := c') (a := q) h21
  have k1 := kk _ ex H1 locs ls (hpush H1 q _ ex ab_adx_s (by rw [ab_ent_ex ex hG, he]; exact hP1) (by rw [ab_ent_ex ex hG, he]; exact hD1)) hS1 (by rw [ab_lv_ex ex hlv]; exact hl)
  have e : (ab_O c' (N c') :: st).map (ab_cv (ab_adx ad c' (N c') q)) = Value.ref q :: st.map (ab_cv ad) := by
    rw [List.map_cons, ab_map_ex ex hst]
    show va_rf (some (ab_adx ad c' (N c') q c' (N c'))) :: _ = _
    rw [ab_adx_s]; rfl
  rw [e] at k1
  exact k1
/-- a new array of references of the kind c' -/
theorem ab_newq (X : ab_X p s m args c cc own nL D ca A H0) {c' idx : Nat} {C : String} {j : Int32} (h3 : ab_tag c' = 3) (hw : Cond.classLink own idx C ∈ ab_T ∧ Cond.arrayOver (.object C) ∈ lw_tbl.filter ab_odd) (hty : ∀ ca : Nat → ClassId, (ab_tys ca)[ab_ci c']? = some (ca (ab_ci c'), .object C)) (hd : decode cc pc = .ok (.anewarray idx, 3)) (hj : j = nI (ab_ln c' (N c'))) (hL : ab_ln c' (N c') < 65536) (h21 : c' < 21) (hG : ab_G N u) (hlv : ∀ q ∈ lv, ab_live N q.2) (hst : ∀ v ∈ st, ab_live N v) (hc : cells + 1 ≤ R.cells ∧ slots + ab_ln c' (N c') ≤ R.slots)
    (kk : ∀ ad' : ab_Ad, ab_ex N ad ad' → ab_J p l e R s m args below meth c Q D ca A H0 nL (cells + 1) (slots + ab_ln c' (N c')) ad' (ab_nx N c') u (pc + 3) lv (ab_O c' (N c') :: st)) : ab_J p l e R s m args below meth c Q D ca A H0 nL cells slots ad N u pc lv (ab_I j :: st) := fun H locs ls hW hS hl => by
  obtain ⟨ws, hP, hD, hpush⟩ := hW.push hG c'
  subst hj
  have he : ab_ent ca ad u c' (N c') = .inl (ca (ab_ci c'), ab_ln c' (N c'), .inr (.inr (.inr (.inr (fun _ => none))))) := by
    rw [ab_ent_r h3]
    refine congrArg (fun f => (Sum.inl (ca (ab_ci c'), ab_ln c' (N c'), Sum.inr (Sum.inr (Sum.inr (Sum.inr f)))) : va_E)) ?_
    funext k
    rw [(hG.1 c' (N c') k (Nat.le_refl _)).2.1]
    rfl
  refine va_newq X.1 X.2.1 X.2.2.2.1 (X.2.2.2.2.1 _ hw.1) (X.2.2.2.2.2.2.2 _ hw.2) X.2.2.2.2.2.1 hP hD hS X.2.2.2.2.2.2.1 (nI_pos (by omega)) (nI_clamp (by omega)) (by omega) hc.1 hc.2 hd (fun q cA H1 hK1 hP1 hD1 hS1 => ?_)
  have hcA : cA = ca (ab_ci c') := ab_caeq X.2.2.2.2.2.1 hK1 (hty ca)
  subst hcA
  have ex := ab_adx_ex (ad := ad) (N := N) (c := c') (a := q) h21
  have k1 := kk _ ex H1 locs ls (hpush H1 q _ ex ab_adx_s (by rw [ab_ent_ex ex hG, he]; exact hP1) (by rw [ab_ent_ex ex hG, he]; exact hD1)) hS1 (by rw [ab_lv_ex ex hlv]; exact hl)
  have e : (ab_O c' (N c') :: st).map (ab_cv (ab_adx ad c' (N c') q)) = Value.ref q :: st.map (ab_cv ad) := by
    rw [List.map_cons, ab_map_ex ex hst]
    show va_rf (some (ab_adx ad c' (N c') q c' (N c'))) :: _ = _
    rw [ab_adx_s]; rfl
  rw [e] at k1
  exact k1
end AbN
