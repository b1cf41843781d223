/-! Calls between nest mates. -/
section AbM
variable {p : Program} {l : Launch} {e : Env} {R : Room} {s : State} {m : MethodId} {args : Array Value} {below : List Frame} {meth : Method} {c : Code} {Q : State → Prop}
variable {cc : ByteArray} {own : String} {nL : Nat} {D : va_G} {ca : Nat → ClassId} {A : Nat → Prop} {H0 : Heap} {cells slots : Nat} {ad : ab_Ad} {N N' : Nat → Nat} {u : ab_S} {pc : Nat} {lv : List (Nat × ab_V)} {st : List ab_V}
def ab_lSN (own : String) (idx : Nat) (y : MethodName) (host : String) (cc' : ByteArray) (nL' : Nat) (ret' : Option FieldType) (n : Nat) : Prop :=
  Cond.methodLinkNest own idx y host ∈ lw_tbl.filter ab_odd ∧ (∀ w ∈ ([.static y, .initialized y.cls, .code y cc' nL' ret'] : List Cond), w ∈ ab_T) ∧
  (y.cls ≠ "java/lang/invoke/MethodHandle" ∧ y.cls ≠ "java/lang/invoke/VarHandle" ∧ (parseMethodDescriptor y.desc).map (fun d => d.parameters.length) = some n) ∧ nL' ≤ 41
theorem ab_callSN {z : Bool} {Post : ab_S → Option ab_V → Prop} (X : ab_X p s m args c cc own nL D ca A H0) {y : MethodName} {cc' : ByteArray} {nL' d' idx n : Nat} {host : String} {ret' : Option FieldType} {as stk : List ab_V} (hz : z = true → ab_Zs ad A s H0) (hC : ab_C z l D ca y cc' nL' ret' d' N u as Post) (hk : ab_lSN own idx y host cc' nL' ret' n) (hd : decode cc pc = .ok (.invokestatic idx, 3)) (hst : stk = as.reverse ++ st) (hn : as.length = n) (hR : d' + 1 ≤ R.frames ∧ 60 * (d' + 1) ≤ R.locals) (hc : cells ≤ R.cells ∧ slots ≤ R.slots) (hw : ab_len st ≤ 8)
    (kk : ∀ (u' : ab_S) (r : Option ab_V), Post u' r → ab_J p l e R s m args below meth c Q D ca A H0 nL cells slots ad N u' (pc + 3) lv (r.toList ++ st)) : ab_J p l e R s m args below meth c Q D ca A H0 nL cells slots ad N u pc lv stk := fun H locs ls hW hS hl => by
  obtain ⟨hlk, hws, hy, hnL⟩ := hk
  subst hst; subst hn
  have hp : PreS s H (ab_Pc z D ca ad N u H.size as) (as.map (ab_cv ad)) := ⟨ab_Pc_blind, fun U hU hWU => ⟨rfl, by rw [hU], by rw [hU]; exact hW.weaken (fun _ _ _ => trivial), va_K.moved hWU.alike X.2.2.2.2.2.1, ab_Nw.moved hWU X.2.2.2.2.2.2.2, fun h => by rw [hU]; exact ab_Zs.go X (hz h) hW hS hWU⟩⟩
  have hG : GoodIn ab_T (Cond.code y cc' nL' ret' :: ab_T) := fun w h => by
    refine ab_T_good w ?_
    rcases List.mem_cons.mp h with rfl | h
    · exact hws _ (by simp)
    · exact h
  have cb : va_CN R s args own idx y host cc' nL' ret' (Cond.code y cc' nL' ret' :: ab_T) (ab_rm d' 0 0) 0 0 as.length := va_cnB as.length X.2.2.2.2.1 hG rfl rfl rfl (X.2.2.2.2.2.2.2 _ hlk) (X.2.2.2.2.1 _ (hws _ (by simp))) hy ⟨hR.1, by show 8 + (nL' + 11) + 60 * d' ≤ R.locals; omega⟩
  exact ab_after X hW hS hl (va_runSN ⟨X.1, X.2.1, X.2.2.1, X.2.2.2.1, X.2.2.2.2.1⟩ (hC ad H.size) ⟨cb, X.2.2.2.2.1 _ (hws _ (by simp)), trivial⟩ hp rfl (by simp) hl.1 (by show (as.reverse ++ st).map (ab_cv ad) = _; rw [List.map_append, List.map_reverse]) (lv_room (by rw [ab_wt]; exact hw)) hd hc) kk
def ab_lIN (own : String) (idx : Nat) (y : MethodName) (host : String) (cc' : ByteArray) (nL' n : Nat) : Prop :=
  Cond.methodLinkNest own idx y host ∈ lw_tbl.filter ab_odd ∧ (∀ w ∈ ([.instanceMethod y, .initialized y.cls, .code y cc' nL' none] : List Cond), w ∈ ab_T) ∧
  (y.name = "<init>" ∧ y.cls ≠ "java/lang/invoke/MethodHandle" ∧ y.cls ≠ "java/lang/invoke/VarHandle" ∧ (parseMethodDescriptor y.desc).map (fun d => d.parameters.length) = some n) ∧ nL' ≤ 41
theorem ab_callIN {Post : ab_S → Prop} (X : ab_X p s m args c cc own nL D ca A H0) {y : MethodName} {cc' : ByteArray} {nL' d' idx c' i n mc ms : Nat} {host : String} {as stk : List ab_V} (hC : ab_CA l D ca y cc' nL' d' mc ms N u (ab_O c' i :: as) N' Post) (hk : ab_lIN own idx y host cc' nL' n) (hd : decode cc pc = .ok (.invokespecial idx, 3)) (hst : stk = as.reverse ++ ab_O c' i :: st) (hn : as.length = n) (hlv : ∀ q ∈ lv, ab_live N q.2) (hstl : ∀ v ∈ st, ab_live N v) (hR : d' + 1 ≤ R.frames ∧ 60 * (d' + 1) ≤ R.locals) (hc : cells + mc ≤ R.cells ∧ slots + ms ≤ R.slots) (hw : ab_len st ≤ 8)
    (kk : ∀ (ad' : ab_Ad) (u' : ab_S), ab_ex N ad ad' → Post u' → ab_J p l e R s m args below meth c Q D ca A H0 nL (cells + mc) (slots + ms) ad' N' u' (pc + 3) lv st) : ab_J p l e R s m args below meth c Q D ca A H0 nL cells slots ad N u pc lv stk := fun H locs ls hW hS hl => by
  obtain ⟨hlk, hws, ⟨hyn, hy⟩, hnL⟩ := hk
  subst hst; subst hn
  have hp : PreS s H (ab_Pc false D ca ad N u H.size (ab_O c' i :: as)) (Value.ref (ad c' i) :: as.map (ab_cv ad)) := ⟨ab_Pc_blind, fun U hU hWU => ⟨rfl, by rw [hU], by rw [hU]; exact hW.weaken (fun _ _ _ => trivial), va_K.moved hWU.alike X.2.2.2.2.2.1, ab_Nw.moved hWU X.2.2.2.2.2.2.2, fun h => by cases h⟩⟩
  have hG : GoodIn ab_T (Cond.code y cc' nL' none :: ab_T) := fun w h => by
    refine ab_T_good w ?_
    rcases List.mem_cons.mp h with rfl | h
    · exact hws _ (by simp)
    · exact h
  have cb : va_CN R s args own idx y host cc' nL' none (Cond.code y cc' nL' none :: ab_T) (ab_rm d' mc ms) mc ms as.length := va_cnB as.length X.2.2.2.2.1 hG rfl rfl rfl (X.2.2.2.2.2.2.2 _ hlk) (X.2.2.2.2.1 _ (hws _ (by simp))) hy ⟨hR.1, by show 8 + (nL' + 11) + 60 * d' ≤ R.locals; omega⟩
  exact ab_afterA X hW hS hl hlv hstl (va_runIN ⟨X.1, X.2.1, X.2.2.1, X.2.2.2.1, X.2.2.2.2.1⟩ (hC ad H.size) ⟨cb, hyn, X.2.2.2.2.1 _ (hws _ (by simp))⟩ hp rfl (by simp) hl.1 (by show (as.reverse ++ ab_O c' i :: st).map (ab_cv ad) = _; rw [List.map_append, List.map_reverse]; rfl) (lv_room (by rw [ab_wt]; exact hw)) hd hc) kk
end AbM
