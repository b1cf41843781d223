/-! Rules for walks along every path: a switch with all its ways, a reference out of an array with its name. -/
def ab_tok (pc : Nat) (td : Nat) (lo hi : Int) (offs : Array Int) (ks : List (Int32 × Nat)) : Bool :=
  (ks.all fun q => decide (lo ≤ q.1.toInt) && decide (q.1.toInt ≤ hi) && (offs[(q.1.toInt - lo).toNat]? == some ((q.2 : Int) - (pc : Int)))) &&
  ((List.range (hi - lo + 1).toNat).all fun i => match offs[i]? with
    | none => false
    | some o => decide ((pc : Int) + o = (td : Int)) || ks.any fun q => decide (q.1.toInt = lo + (i : Int)))
section AbMore
variable {p : Program} {l : Launch} {e : Env} {R : Room} {s : State} {m : MethodId} {args : Array Value} {below : List Frame} {meth : Method} {c : Code} {Q : State → Prop}
variable {cc : ByteArray} {own : String} {nL : Nat} {D : va_G} {ca : Nat → ClassId} {A : Nat → Prop} {H0 : Heap} {cells slots : Nat} {ad : ab_Ad} {N : Nat → Nat} {u : ab_S} {pc : Nat} {lv : List (Nat × ab_V)} {st : List ab_V}
theorem ab_tsw (X : ab_X p s m args c cc own nL D ca A H0) {dflt lo hi : Int} {offs : Array Int} {len : Nat} {x : Int32} (ks : List (Int32 × Nat)) (td : Nat) (hd : decode cc pc = .ok (.tableswitch dflt lo hi offs, len)) (hk : ab_tok pc td lo hi offs ks = true) (ht : (pc : Int) + dflt = (td : Int)) (kk : ∀ q ∈ ks, x = q.1 → ab_J p l e R s m args below meth c Q D ca A H0 nL cells slots ad N u q.2 lv st) (kd : (∀ q ∈ ks, ¬ x = q.1) → ab_J p l e R s m args below meth c Q D ca A H0 nL cells slots ad N u td lv st) : ab_J p l e R s m args below meth c Q D ca A H0 nL cells slots ad N u pc lv (ab_I x :: st) := by
  unfold ab_tok at hk
  rw [Bool.and_eq_true, List.all_eq_true, List.all_eq_true] at hk
  obtain ⟨k1, k2⟩ := hk
  by_cases hq : ∃ q ∈ ks, x = q.1
  · obtain ⟨q, hm, hx⟩ := hq
    have h1 := k1 q hm
    rw [Bool.and_eq_true, Bool.and_eq_true, decide_eq_true_iff, decide_eq_true_iff, beq_iff_eq] at h1
    obtain ⟨⟨a1, a2⟩, a3⟩ := h1
    rw [← hx] at a1 a2 a3
    exact ab_tableIn X q.2 hd (by omega) (by omega) a3 (by omega) (kk q hm hx)
  · have hn : ∀ q ∈ ks, ¬ x = q.1 := fun q hm hx => hq ⟨q, hm, hx⟩
    by_cases hr : x.toInt < lo ∨ hi < x.toInt
    · exact ab_tableOut X td hd hr ht (kd hn)
    · have hi' : (x.toInt - lo).toNat ∈ List.range (hi - lo + 1).toNat := List.mem_range.mpr (by omega)
      have h2 := k2 _ hi'
      cases ho : offs[(x.toInt - lo).toNat]? with
      | none => rw [ho] at h2; cases h2
      | some o =>
        rw [ho] at h2
        have h3 : (decide ((pc : Int) + o = (td : Int)) || ks.any fun q => decide (q.1.toInt = lo + (((x.toInt - lo).toNat : Nat) : Int))) = true := h2
        rw [Bool.or_eq_true, decide_eq_true_iff, List.any_eq_true] at h3
        rcases h3 with h3 | ⟨q, hm, h4⟩
        · exact ab_tableIn X td hd (by omega) (by omega) ho h3 (kd hn)
        · rw [decide_eq_true_iff] at h4
          exact absurd (Int32.toInt_inj.mp (by omega)) (hn q hm)
theorem ab_aalv (X : ab_X p s m args c cc own nL D ca A H0) {c' i : Nat} {j : Int32} (n : Nat) (ha : ab_tag c' = 3 ∧ ∃ C, ∀ ca : Nat → ClassId, (ab_tys ca)[ab_ci c']? = some (ca (ab_ci c'), .object C)) (hd : decode cc pc = .ok (.aaload, 1)) (hi : i < N c') (hj : j = nI n) (hn : n < ab_ln c' i) (hL : ab_ln c' i < 2 ^ 31) {r : Option (Nat × Nat)} (hv : u.2.1 c' i n = r) (kk : ab_J p l e R s m args below meth c Q D ca A H0 nL cells slots ad N u (pc + 1) lv (ab_R r :: st)) : ab_J p l e R s m args below meth c Q D ca A H0 nL cells slots ad N u pc lv (ab_I j :: ab_O c' i :: st) := ab_aald X n ha hd hi hj hn hL (by rw [hv]; exact kk)
theorem ab_ldcw (X : ab_X p s m args c cc own nL D ca A H0) {idx : Nat} {v : Int32} (hc : Cond.constant own idx v ∈ ab_T) (hd : decode cc pc = .ok (.ldc_w idx, 3)) (k : ab_J p l e R s m args below meth c Q D ca A H0 nL cells slots ad N u (pc + 3) lv (ab_I v :: st)) : ab_J p l e R s m args below meth c Q D ca A H0 nL cells slots ad N u pc lv st := fun H locs ls hW hS hl => lv_ldcw X.1 X.2.1 X.2.2.2.1 (X.2.2.2.2.1 _ hc) hd (k H locs ls hW hS hl)
end AbMore

