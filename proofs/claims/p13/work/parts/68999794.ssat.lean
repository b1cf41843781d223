/-! The class's satisfy: the lightest row of the policy's form B becomes the witness. -/
theorem Fw.cp {K : List Nat} {kd ar cn : Nat → Nat} {ch : Nat → Nat → Nat} {u u' : ab_S} {p f w : Nat} (h : Fw kd ar cn ch u p f w) (g : cP K u u') (h3 : ¬ 3 ∈ K) (h9 : ¬ 9 ∈ K) : Fw kd ar cn ch u' p f w := by
  obtain ⟨x1, x2, x3, x4, x5⟩ := h
  exact ⟨g.ii h3 x1, g.ii h3 x2, g.ii h3 x3, g.ii h3 x4, fun i hi => g.rr h9 (x5 i hi)⟩
/-- only rows of even number and the facts have changed -/
def sO (u u' : ab_S) : Prop := ∀ c i k, c ≠ 6 → ¬ ((c = 4 ∨ c = 8) ∧ i % 2 = 0) → u'.1 c i k = u.1 c i k
theorem sO.trans {u u1 u2 : ab_S} (h : sO u u1) (g : sO u1 u2) : sO u u2 := fun c i k a b => (g c i k a b).trans (h c i k a b)
theorem rO.so {f : Nat} {u u' : ab_S} (h : rO (fun i => i = 2 * f ∨ i = 122) u u') : sO u u' := fun c i k _ z => h.1 c i k (fun y => z ⟨y.1, by have := y.2; omega⟩)
theorem Rw.so {u u' : ab_S} {r : Nat} {xs : List Nat} (h : Rw u r xs) (o : sO u u') (hr : r % 2 = 1) : Rw u' r xs := h.cong (fun k => o _ _ _ (by decide) (by omega)) (fun k => o _ _ _ (by decide) (by omega))
section XSv2
variable {M : Nat} {kd ar cn lf : Nat → Nat} {ch : Nat → Nat → Nat} {Y : Nat → Nat → Nat × Nat × Nat} {R : Nat → List Nat} {H : Nat → Option (List Nat)}
theorem sm_cp2 (W : tW M kd ar cn lf ch) {p j w : Nat} (hp : p < M) (hw : wok (kd p) (ar p) (cn p) j w) : sm (fun i => lf (cp ch w p i)) (ct cn w p) ≤ lf p := by
  by_cases h8 : w = 8 ∨ w = 24
  · have c : ct cn w p = 1 := by rcases h8 with e | e <;> rw [e] <;> rfl
    have e : cp ch w p 0 = p := by rcases h8 with e | e <;> rw [e] <;> rfl
    rw [c]
    show 0 + lf (cp ch w p 0) ≤ lf p
    rw [e]; omega
  · exact sm_cp W hp hw h8
/-- a form that is in another -/
theorem kid_B (W : tW M kd ar cn lf ch) (F : ∀ q, q < M → xF kd ar cn ch Y R q) (hB : ∀ q, q < M → xB lf Y R q) (hH : ∀ q, q < M → oB 1 (H q)) {q j : Nat} (hq : q < M) (hj : j < 3) {i : Nat} (hi : i < ct cn (Y q j).1 q) : 1 ≤ lf (cp ch (Y q j).1 q i) ∧ oB (4 * lf (cp ch (Y q j).1 q i) - 2) (SV kd ar cn ch Y R H (cp ch (Y q j).1 q i) (cj cn (Y q j).1 q i)) ∧ oB (2 * lf (cp ch (Y q j).1 q i) - 1) (some (R (cp ch (Y q j).1 q i))) := by
  have cM := (dpt_lt W F hq hj hi).1
  have l1 := (W.2.2 _ cM).1.1
  have := SV_B W F hB hH _ _ (cj cn (Y q j).1 q i) (Nat.le_refl _) cM (cj_lt _ _ _ _)
  refine ⟨l1, this.wk ?_, oB.some (by have := (hB _ cM).2.1; omega) (fun x hx => Or.inl (by rcases (hB _ cM).2.2.2 x hx with z | z <;> omega))⟩
  have : (if cj cn (Y q j).1 q i = 0 then 0 else 1) ≤ 1 := by split <;> decide
  omega
theorem kid_J (W : tW M kd ar cn lf ch) (F : ∀ q, q < M → xF kd ar cn ch Y R q) (hB : ∀ q, q < M → xB lf Y R q) (hH : ∀ q, q < M → oB 1 (H q)) {q j : Nat} (hq : q < M) (hj : j < 3) (c i : Nat) (hi : i ≤ ct cn (Y q j).1 q) : oB 40 (jns (fun i => SV kd ar cn ch Y R H (cp ch (Y q j).1 q i) (cj cn (Y q j).1 q i)) (fun i => some (R (cp ch (Y q j).1 q i))) c i) := by
  have hw := ((F q hq).way W hq hj).2.1
  have l2 := (W.2.2 q hq).1.2.1
  refine (oB.jnsB (f := fun i => 4 * lf (cp ch (Y q j).1 q i)) i (fun k hk => ?_)).wk ?_
  · have := kid_B W F hB hH hq hj (i := k) (by omega)
    exact ⟨this.2.1.wk (by omega), this.2.2.wk (by omega)⟩
  · have a := sm_lnn (a := fun i => 4 * lf (cp ch (Y q j).1 q i)) (g := fun i => lf (cp ch (Y q j).1 q i)) (k := 4) (r := 0) i (fun k _ => Nat.le_refl _)
    have b := sm_mono (fun i => lf (cp ch (Y q j).1 q i)) hi
    have d := sm_cp2 W hq hw
    omega
theorem ned_le (W : tW M kd ar cn lf ch) {q j w : Nat} (hq : q < M) (hw : wok (kd q) (ar q) (cn q) j w) : ned kd ar cn w q ≤ 4 ∧ (ned kd ar cn w q ≠ ct cn w q → (rul w = 2 ∨ rul w = 3 ∨ rul w = 4) → ∀ i, cj cn w q i = 1) := by
  have kb := (W.2.2 q hq).2.2
  have k17 := W.k17 hq
  constructor
  · unfold ned
    by_cases z1 : rul w = 1
    · rw [if_pos z1]; decide
    rw [if_neg z1]
    by_cases z4 : rul w = 4
    · rw [if_pos z4]
      unfold cnu
      by_cases k5 : kd q = 5
      · rw [if_pos k5]; decide
      rw [if_neg k5]
      by_cases k6 : kd q = 6
      · rw [if_pos k6]; decide
      rw [if_neg k6]
      have k7 : kd q = 7 := by
        have := rul_4 z4
        unfold wok at hw
        omega
      have := kb (by omega)
      have := this.2.2.2.1 k7
      omega
    rw [if_neg z4]
    by_cases w18 : w = 18
    · rw [if_pos w18]
      by_cases k5 : 5 ≤ kd q
      · exact (kb k5).2.1
      · have := (W.2.2 q hq).2.1 (by omega); omega
    rw [if_neg w18]
    split <;> decide
  · intro hne hr i
    rcases hr with h2 | h3 | h4
    · exfalso
      rcases rul_2 h2 with rfl | rfl | rfl | rfl
      · exact hne rfl
      · exact hne rfl
      · exact hne rfl
      · exact hne rfl
    · exfalso
      have := rul_3 h3
      subst this
      exact hne rfl
    · rcases rul_4 h4 with rfl | rfl | rfl <;> rfl
theorem ct_le4 (W : tW M kd ar cn lf ch) {q j w : Nat} (hq : q < M) (hw : wok (kd q) (ar q) (cn q) j w) : ct cn w q ≤ 4 ∧ shx (rul w) (ct cn w q) := by
  have h4 : ct cn w q ≤ 4 ∧ (ct cn w q = 0 → rul w = 1) := by
    by_cases h8 : w = 8 ∨ w = 24
    · rcases h8 with e | e <;> rw [e] <;> exact ⟨show 1 ≤ 4 by decide, fun z => absurd (show (1 : Nat) = 0 from z) (by decide)⟩
    · rcases ct_cn W hq hw h8 with ⟨e, e2, -⟩ | ⟨e, e2, e3⟩
      · exact ⟨by omega, fun _ => e2⟩
      · have := ((W.2.2 q hq).2.2 e3).2.1
        exact ⟨by omega, fun z => by omega⟩
  refine ⟨h4.1, fun z => ?_, fun z => ?_, fun z => ?_, fun z => ct_2 z⟩
  · rcases rul_1 z with e | e | e <;> rw [e] <;> rfl
  · rcases z with z | z
    · rw [rul_3 z]; rfl
    · exact ct_1 z
  · exact Nat.pos_of_ne_zero (fun y => by have := h4.2 y; omega)
end XSv2
section SaSSat
variable {l : Launch} {D : va_G} {ca : Nat → ClassId}
theorem x_FM_lightF (u : ab_S) (a1 a2 a3 a4 : Int32) (f1 : u.1 6 0 0 = a1) (f2 : u.1 6 0 1 = a2) (f3 : u.1 6 0 2 = a3) (f4 : u.1 6 0 3 = a4) (M : Nat) (kd ar cn lf : Nat → Nat) (ch : Nat → Nat → Nat) (Y : Nat → Nat → Nat × Nat × Nat) (R : Nat → List Nat) (W : tW M kd ar cn lf ch) (F : ∀ q, q < M → xF kd ar cn ch Y R q) (q j : Nat) (hq : q < M) (hj : j < 3) (FQ : Fw kd ar cn ch u q (3 * (q + 1) + j) (Y q j).1) (K : ∀ i, i < ct cn (Y q j).1 q → Ro u (2 * (3 * (cp ch (Y q j).1 q i + 1) + cj cn (Y q j).1 q i)) ((SV kd ar cn ch Y R (slf kd ar a1 a2 a3 a4)) (cp ch (Y q j).1 q i) (cj cn (Y q j).1 q i))) (RR : ∀ c, c < M → Rw u (2 * (3 * (c + 1) + 1) + 1) (R c)) (h : CI u) : ab_C false l D ca y_FM_lighten b_FM_lighten 3 none 6 ab_nQ u [ab_O 3 (3 * (q + 1) + j), ab_O 6 0, ab_O 4 122] (fun u' v => (cP [4, 8] u u' ∧ rO (fun i => i = 2 * (3 * (q + 1) + j) ∨ i = 122) u u' ∧ Ro u' (2 * (3 * (q + 1) + j)) ((SV kd ar cn ch Y R (slf kd ar a1 a2 a3 a4)) q j)) ∧ v = none) := by
  have hM := W.2.1
  obtain ⟨-, hw, -⟩ := (F q hq).way W hq hj
  have hB : ∀ q, q < M → xB lf Y R q := fun q hq => xf_b W F (M - q) q (by omega) hq
  have hH : ∀ q, q < M → oB 1 (slf kd ar a1 a2 a3 a4 q) := fun q hq => slf_B (W.2.2 q hq).1.2.2.2.2
  obtain ⟨c4, sh⟩ := ct_le4 W hq hw
  obtain ⟨n4, nD⟩ := ned_le W hq hw
  have gM : ∀ i, i < ct cn (Y q j).1 q → cp ch (Y q j).1 q i < M := fun i hi => (dpt_lt W F hq hj hi).1
  have kb := fun i (hi : i < ct cn (Y q j).1 q) => kid_B W F hB hH hq hj hi
  have lM : ∀ c, c < M → lf c ≤ 10 := fun c hc => (W.2.2 c hc).1.2.1
  rw [SV_fix W F hq hj]
  refine x_FM_lighten u (3 * (q + 1) + j) (rul (Y q j).1) (ct cn (Y q j).1 q) (ned kd ar cn (Y q j).1 q) (mrk kd ar (Y q j).1 q) (fun i => 3 * (cp ch (Y q j).1 q i + 1) + cj cn (Y q j).1 q i) (slf kd ar a1 a2 a3 a4 q) (fun i => (SV kd ar cn ch Y R (slf kd ar a1 a2 a3 a4)) (cp ch (Y q j).1 q i) (cj cn (Y q j).1 q i)) (fun i => some (R (cp ch (Y q j).1 q i))) a1 a2 a3 a4 f1 f2 f3 f4 FQ (rul_r _) sh c4 n4 (fun z => ⟨kd q, ar q, if_pos z, by have := (W.2.2 q hq).1.2.2.2.2; omega, by have := W.k17 hq; omega, rfl⟩) (fun i hi => ?_) K (fun z => ?_) (fun z hne i hi => ?_) (fun c i hi => kid_J W F hB hH hq hj c i hi) (fun i hi => (kb i hi).2.1.wk (by have := lM _ (gM i hi); omega)) h (by omega)
  · have := gM i hi
    have := cj_lt cn (Y q j).1 q i
    show 3 * (cp ch (Y q j).1 q i + 1) + cj cn (Y q j).1 q i < 61 ∧ 3 * (cp ch (Y q j).1 q i + 1) + cj cn (Y q j).1 q i ≠ 3 * (q + 1) + j
    rcases cp_in W hq hw hi with ⟨-, e1, e2, e3, -⟩ | ⟨-, e1, -⟩ <;> omega
  · have c2 := ct_2 (cn := cn) (p := q) (Or.inr z)
    have e : cj cn (Y q j).1 q 0 = 1 := by rcases rul_78 hw z with e | e | e | e <;> rw [e] <;> rfl
    have k0 := kb 0 (by omega)
    have k1 := kb 1 (by omega)
    have d := sm_cp2 W hq hw
    rw [c2] at d
    have d : 0 + lf (cp ch (Y q j).1 q 0) + lf (cp ch (Y q j).1 q 1) ≤ lf q := d
    have := lM q hq
    refine ⟨?_, k0.2.2.wk (by omega), (oB.jnB k0.2.2 k1.2.1).wk (by omega)⟩
    show Rw u (2 * (3 * (cp ch (Y q j).1 q 0 + 1) + cj cn (Y q j).1 q 0) + 1) _
    rw [e]; exact RR _ (gM 0 (by omega))
  · have e := nD hne z i
    show Rw u (2 * (3 * (cp ch (Y q j).1 q i + 1) + cj cn (Y q j).1 q i) + 1) _
    rw [e]; exact RR _ (gM i hi)
set_option maxRecDepth 100000 in
set_option maxHeartbeats 1000000 in
theorem x_PF_satisfy (hfl : ab_fl0 l) (u : ab_S) (a1 a2 a3 a4 : Int32) (M : Nat) (kd ar cn lf : Nat → Nat) (ch : Nat → Nat → Nat) (Y : Nat → Nat → Nat × Nat × Nat) (R : Nat → List Nat) (W : tW M kd ar cn lf ch) (F : ∀ q, q < M → xF kd ar cn ch Y R q) (hp : u.2.1 0 0 7 = none ∨ (u.2.1 0 0 7 = some (2, 1) ∧ (∀ q, q < M → ∀ j, j < 3 → Fw kd ar cn ch u q (3 * (q + 1) + j) (Y q j).1) ∧ (∀ c, c < M → Rw u (2 * (3 * (c + 1) + 1) + 1) (R c)) ∧ sX u (Wd kd ar cn ch Y 0 0) (Fl cn ch Y 0 0))) (h : CI u) : ab_CT l D ca y_PF_satisfy b_PF_satisfy 6 (some FieldType.int) 8 ab_nQ u [ab_O 0 0, ab_I a1, ab_I a2, ab_I a3, ab_I a4] (fun u' v => cP [4, 6, 7, 8, 15, 16] u u' ∧ u.2.1 0 0 7 = some (2, 1) ∧ (∀ c i k, c ≠ 6 → ¬ ((c = 4 ∨ c = 8) ∧ (i % 2 = 0 ∨ i = 123)) → u'.1 c i k = u.1 c i k) ∧ ∃ x : Int32, (((SV kd ar cn ch Y R (slf kd ar a1 a2 a3 a4)) 0 0 = none ∧ (∀ k, u'.1 4 123 k = u.1 4 123 k ∧ u'.1 8 123 k = u.1 8 123 k) ∧ x = -1) ∨ ∃ xs, (SV kd ar cn ch Y R (slf kd ar a1 a2 a3 a4)) 0 0 = some xs ∧ Rw u' 123 xs ∧ xs.length ≤ 37 ∧ x = nI (wgt xs)) ∧ v = some (ab_I x)) (fun u' E => (u' = u ∧ u.2.1 0 0 7 = none) ∧ E = ab_NSE) := by
  refine ab_CT.of (by decide) (Nat.le_of_ble_eq_true rfl) ?_
  intro p e s m args below meth c ad X hZ hW0 hnh hr0 hlk
  have P0 : cP [4, 6, 7, 8, 15, 16] u u := cQ.rf h
  have hM := W.2.1
  rcases hp with hn | ⟨hs, hF, hRR, hS⟩
  ·
    refine ab_aload_n X 0 d_PF_satisfy_0 rfl rfl ?_
    refine ab_gR X fl_PF_58 d_PF_satisfy_1 (by first | assumption | decide | (show _ < 124; omega) | (show _ < 61; omega) | (show _ < 20; omega)) (hn) ?_
    refine ab_ifnonnull X 15 d_PF_satisfy_4 rfl (fun hb => absurd (rfl) hb) (fun _ => ?_)
    exact ab_throw (cells := 0) (slots := 0) X hfl hZ hW0 hnh hlk ow_PF_107 d_PF_satisfy_7 d_PF_satisfy_10 d_PF_satisfy_11 d_PF_satisfy_14 ⟨Nat.le_of_ble_eq_true rfl, Nat.le_of_ble_eq_true rfl⟩ ⟨Nat.le_of_ble_eq_true rfl, Nat.le_of_ble_eq_true rfl⟩ ⟨⟨rfl, hn⟩, rfl⟩
  · have hB : ∀ q, q < M → xB lf Y R q := fun q hq => xf_b W F (M - q) q (by omega) hq
    have hH : ∀ q, q < M → oB 1 (slf kd ar a1 a2 a3 a4 q) := fun q hq => slf_B (W.2.2 q hq).1.2.2.2.2
    obtain ⟨cl, in0⟩ := Fl_clo W F _ 0 0 (Nat.le_refl _) W.1 (by decide)
    have l10 := (W.2.2 0 W.1).1.2.1
    have b0 := SV_B W F hB hH _ 0 0 (Nat.le_refl _) W.1 (by decide)
    have fl := (Wd_len W F _ 0 0 (Nat.le_refl _) W.1 (by decide)).2
    rw [if_pos rfl] at fl b0
    have loop : ∀ (post pre : List Nat) (u1 : ab_S), Fl cn ch Y 0 0 = pre ++ post → cP [4, 6, 7, 8, 15, 16] u u1 → sO u u1 → (u1.1 6 0 0 = a1 ∧ u1.1 6 0 1 = a2 ∧ u1.1 6 0 2 = a3 ∧ u1.1 6 0 3 = a4) → (∀ q j, q < M → j < 3 → 3 * (q + 1) + j ∈ pre → Ro u1 (2 * (3 * (q + 1) + j)) ((SV kd ar cn ch Y R (slf kd ar a1 a2 a3 a4)) q j)) → ab_J p l e (ab_rm 8 1 6) s m args below meth c (ab_MQ below (ab_QT D ca ad ab_nQ s.heap.size (fun u' v => cP [4, 6, 7, 8, 15, 16] u u' ∧ u.2.1 0 0 7 = some (2, 1) ∧ (∀ c i k, c ≠ 6 → ¬ ((c = 4 ∨ c = 8) ∧ (i % 2 = 0 ∨ i = 123)) → u'.1 c i k = u.1 c i k) ∧ ∃ x : Int32, (((SV kd ar cn ch Y R (slf kd ar a1 a2 a3 a4)) 0 0 = none ∧ (∀ k, u'.1 4 123 k = u.1 4 123 k ∧ u'.1 8 123 k = u.1 8 123 k) ∧ x = -1) ∨ ∃ xs, (SV kd ar cn ch Y R (slf kd ar a1 a2 a3 a4)) 0 0 = some xs ∧ Rw u' 123 xs ∧ xs.length ≤ 37 ∧ x = nI (wgt xs)) ∧ v = some (ab_I x)) (fun u' E => (u' = u ∧ u.2.1 0 0 7 = none) ∧ E = ab_NSE)) args s 1 6 (ab_A ad ab_nQ s.heap.size)) D ca (ab_A ad ab_nQ s.heap.size) s.heap 6 0 0 ad ab_nQ u1 30 [(5, ab_I (nI pre.length)), (0, ab_O 0 0), (1, ab_I a1), (2, ab_I a2), (3, ab_I a3), (4, ab_I a4)] [] := by
      intro post
      induction post with
      | nil =>
        intro pre u1 e1 P1 O1 f1 R1
        rw [List.append_nil] at e1
        have en : u1.1 5 0 3 = nI pre.length := (P1.ii (by decide) hS.2.2.1).trans (by rw [e1])
        have hlen : pre.length ≤ 37 := by rw [← e1]; omega
        have r0 := R1 0 0 W.1 (by decide) (by rw [← e1]; exact in0)
        revert r0 b0
        cases hv : (SV kd ar cn ch Y R (slf kd ar a1 a2 a3 a4)) 0 0 with
        | none =>
          intro b0 r0
          have r0 : u1.1 4 (2 * (3 * 1)) 3 = 0 := r0
          refine ab_iload X 0 d_PF_satisfy_30 rfl ?_
          refine ab_aload_n X 1 d_PF_satisfy_32 rfl rfl ?_
          refine ab_gR X fl_PF_37 d_PF_satisfy_33 (by first | assumption | decide | (show _ < 124; omega) | (show _ < 61; omega) | (show _ < 20; omega)) (P1.1.pf3) ?_
          refine ab_gI X fl_PF_143 d_PF_satisfy_36 (by first | assumption | decide | (show _ < 124; omega) | (show _ < 61; omega) | (show _ < 20; omega)) (en) ?_
          refine ab_icmp_ge X 69 d_PF_satisfy_39 rfl (fun _ => ?_) (fun hb => absurd ((nI_le (by omega) (by omega))) hb)
          refine ab_aload_n X 1 d_PF_satisfy_69 rfl rfl ?_
          refine ab_gR X fl_PF_58 d_PF_satisfy_70 (by first | assumption | decide | (show _ < 124; omega) | (show _ < 61; omega) | (show _ < 20; omega)) (P1.rr (by decide) hs) ?_
          refine ab_gR X fl_PF_94 d_PF_satisfy_73 (by first | assumption | decide | (show _ < 124; omega) | (show _ < 61; omega) | (show _ < 20; omega)) (P1.1.pt1 (by first | assumption | decide | omega)) ?_
          refine ab_gR X fl_PF_154 d_PF_satisfy_76 (by first | assumption | decide | (show _ < 124; omega) | (show _ < 61; omega) | (show _ < 20; omega)) (P1.1.fm3 (by first | assumption | decide | omega)) ?_
          refine ab_astore5 X 1 2 3 4 5 d_PF_satisfy_79 (by decide) rfl rfl rfl rfl rfl rfl rfl rfl rfl rfl ?_
          refine ab_aload X 0 d_PF_satisfy_81 rfl ?_
          refine ab_gI X fl_PF_157 d_PF_satisfy_83 (by first | assumption | decide | (show _ < 124; omega) | (show _ < 61; omega) | (show _ < 20; omega)) (r0) ?_
          refine ab_if_ne X 91 d_PF_satisfy_86 rfl (fun hb => absurd ((by decide)) hb) (fun _ => ?_)
          refine ab_iconst (v := (-1)) X d_PF_satisfy_89 (by decide) ?_
          exact ab_retTi X hr0 hlk d_PF_satisfy_90 ⟨P1, hs, fun c i k a z => O1 c i k a (fun y => z ⟨y.1, Or.inl y.2⟩), _, Or.inl ⟨rfl, fun k => ⟨O1 _ _ _ (by decide) (by omega), O1 _ _ _ (by decide) (by omega)⟩, rfl⟩, rfl⟩
        | some xs =>
          intro b0 r0
          have r0 : Rw u1 (2 * (3 * 1)) xs := r0
          have bx := (b0 xs rfl).1
          refine ab_iload X 0 d_PF_satisfy_30 rfl ?_
          refine ab_aload_n X 1 d_PF_satisfy_32 rfl rfl ?_
          refine ab_gR X fl_PF_37 d_PF_satisfy_33 (by first | assumption | decide | (show _ < 124; omega) | (show _ < 61; omega) | (show _ < 20; omega)) (P1.1.pf3) ?_
          refine ab_gI X fl_PF_143 d_PF_satisfy_36 (by first | assumption | decide | (show _ < 124; omega) | (show _ < 61; omega) | (show _ < 20; omega)) (en) ?_
          refine ab_icmp_ge X 69 d_PF_satisfy_39 rfl (fun _ => ?_) (fun hb => absurd ((nI_le (by omega) (by omega))) hb)
          refine ab_aload_n X 1 d_PF_satisfy_69 rfl rfl ?_
          refine ab_gR X fl_PF_58 d_PF_satisfy_70 (by first | assumption | decide | (show _ < 124; omega) | (show _ < 61; omega) | (show _ < 20; omega)) (P1.rr (by decide) hs) ?_
          refine ab_gR X fl_PF_94 d_PF_satisfy_73 (by first | assumption | decide | (show _ < 124; omega) | (show _ < 61; omega) | (show _ < 20; omega)) (P1.1.pt1 (by first | assumption | decide | omega)) ?_
          refine ab_gR X fl_PF_154 d_PF_satisfy_76 (by first | assumption | decide | (show _ < 124; omega) | (show _ < 61; omega) | (show _ < 20; omega)) (P1.1.fm3 (by first | assumption | decide | omega)) ?_
          refine ab_astore5 X 1 2 3 4 5 d_PF_satisfy_79 (by decide) rfl rfl rfl rfl rfl rfl rfl rfl rfl rfl ?_
          refine ab_aload X 0 d_PF_satisfy_81 rfl ?_
          refine ab_gI X fl_PF_157 d_PF_satisfy_83 (by first | assumption | decide | (show _ < 124; omega) | (show _ < 61; omega) | (show _ < 20; omega)) (r0.2.2.2) ?_
          refine ab_if_ne X 91 d_PF_satisfy_86 rfl (fun _ => ?_) (fun hb => absurd hb ((by decide)))
          refine ab_aload_n X 1 d_PF_satisfy_91 rfl rfl ?_
          refine ab_gR X fl_PF_48 d_PF_satisfy_92 (by first | assumption | decide | (show _ < 124; omega) | (show _ < 61; omega) | (show _ < 20; omega)) (P1.1.pf5) ?_
          refine ab_aload X 0 d_PF_satisfy_95 rfl ?_
          refine ab_callV (as := [ab_O 4 (2 * (3 * 1))]) X (fun h => by cases h) (x_RW_become u1 123 (2 * (3 * 1)) (some xs) r0 (by decide) (fun ys e => by cases e; show xs.length ≤ 40; omega) P1.1 (by decide) (by decide)) lk_PF_160 d_PF_satisfy_97 rfl rfl (by first | assumption | decide | (show _ < 124; omega) | (show _ < 61; omega) | (show _ < 20; omega)) ⟨by first | exact Nat.le_of_ble_eq_true rfl | (simp only [ab_rm]; omega), by first | exact Nat.le_of_ble_eq_true rfl | (simp only [ab_rm]; omega)⟩ ⟨by first | exact Nat.le_of_ble_eq_true rfl | (simp only [ab_rm]; omega), by first | exact Nat.le_of_ble_eq_true rfl | (simp only [ab_rm]; omega)⟩ (Nat.le_of_ble_eq_true rfl) (fun u97 r97 h97 => ?_)
          obtain ⟨⟨q97, o97, r97⟩, rfl⟩ := h97
          have P97 := P1.trans q97 (by decide)
          refine ab_aload_n X 1 d_PF_satisfy_100 rfl rfl ?_
          refine ab_gR X fl_PF_48 d_PF_satisfy_101 (by first | assumption | decide | (show _ < 124; omega) | (show _ < 61; omega) | (show _ < 20; omega)) (P97.1.pf5) ?_
          refine ab_gI X fl_PF_164 d_PF_satisfy_104 (by first | assumption | decide | (show _ < 124; omega) | (show _ < 61; omega) | (show _ < 20; omega)) (r97.2.2.1) ?_
          exact ab_retTi X hr0 hlk d_PF_satisfy_107 ⟨P97, hs, fun c i k a z => (o97.1 c i k (fun y => z ⟨y.1, Or.inr y.2⟩)).trans (O1 c i k a (fun y => z ⟨y.1, Or.inl y.2⟩)), _, Or.inr ⟨xs, rfl, r97, by omega, rfl⟩, rfl⟩
      | cons f post ih =>
        intro pre u1 e1 P1 O1 f1 R1
        obtain ⟨q, j, hq, hj, ef, hk⟩ := cl pre f post e1
        subst ef
        have en : u1.1 5 0 3 = nI (Fl cn ch Y 0 0).length := P1.ii (by decide) hS.2.2.1
        have hlt : pre.length < (Fl cn ch Y 0 0).length := by rw [e1, List.length_append]; show _ < _ + (post.length + 1); omega
        have eg : u1.2.1 14 0 pre.length = some (3, 3 * (q + 1) + j) := P1.rr (by decide) ((hS.2.2.2 pre.length hlt).trans (by rw [e1, show pre.length = pre.length + 0 from rfl, gd_app]; rfl))
        refine ab_iload X 0 d_PF_satisfy_30 rfl ?_
        refine ab_aload_n X 1 d_PF_satisfy_32 rfl rfl ?_
        refine ab_gR X fl_PF_37 d_PF_satisfy_33 (by first | assumption | decide | (show _ < 124; omega) | (show _ < 61; omega) | (show _ < 20; omega)) (P1.1.pf3) ?_
        refine ab_gI X fl_PF_143 d_PF_satisfy_36 (by first | assumption | decide | (show _ < 124; omega) | (show _ < 61; omega) | (show _ < 20; omega)) (en) ?_
        refine ab_icmp_ge X 69 d_PF_satisfy_39 rfl (fun hb => absurd hb ((nI_ge (by omega) (by omega)))) (fun _ => ?_)
        refine ab_aload_n X 1 d_PF_satisfy_42 rfl rfl ?_
        refine ab_gR X fl_PF_37 d_PF_satisfy_43 (by first | assumption | decide | (show _ < 124; omega) | (show _ < 61; omega) | (show _ < 20; omega)) (P1.1.pf3) ?_
        refine ab_gR X fl_PF_146 d_PF_satisfy_46 (by first | assumption | decide | (show _ < 124; omega) | (show _ < 61; omega) | (show _ < 20; omega)) (P1.1.sc1) ?_
        refine ab_iload X 0 d_PF_satisfy_49 rfl ?_
        refine ab_aalv X (pre.length) ⟨rfl, _, fun _ => rfl⟩ d_PF_satisfy_51 (by first | assumption | decide | (show _ < 124; omega) | (show _ < 61; omega) | (show _ < 20; omega)) (rfl) (show pre.length < 38 by omega) (ab_ln_lt _ _) (eg) ?_
        refine ab_aload_n X 1 d_PF_satisfy_52 rfl rfl ?_
        refine ab_gR X fl_PF_44 d_PF_satisfy_53 (by first | assumption | decide | (show _ < 124; omega) | (show _ < 61; omega) | (show _ < 20; omega)) (P1.1.pf4) ?_
        refine ab_aload_n X 1 d_PF_satisfy_56 rfl rfl ?_
        refine ab_gR X fl_PF_30 d_PF_satisfy_57 (by first | assumption | decide | (show _ < 124; omega) | (show _ < 61; omega) | (show _ < 20; omega)) (P1.1.pf2) ?_
        refine ab_callV (as := [ab_O 6 0, ab_O 4 122]) X (fun h => by cases h) (x_FM_lightF u1 a1 a2 a3 a4 f1.1 f1.2.1 f1.2.2.1 f1.2.2.2 M kd ar cn lf ch Y R W F q j hq hj ((hF q hq j hj).cp P1 (by decide) (by decide)) (fun i hi => R1 _ _ (dpt_lt W F hq hj hi).1 (cj_lt _ _ _ _) (hk i hi)) (fun c hc => (hRR c hc).so O1 (by omega)) P1.1) lk_PF_150 d_PF_satisfy_60 rfl rfl (by first | assumption | decide | (show _ < 124; omega) | (show _ < 61; omega) | (show _ < 20; omega)) ⟨by first | exact Nat.le_of_ble_eq_true rfl | (simp only [ab_rm]; omega), by first | exact Nat.le_of_ble_eq_true rfl | (simp only [ab_rm]; omega)⟩ ⟨by first | exact Nat.le_of_ble_eq_true rfl | (simp only [ab_rm]; omega), by first | exact Nat.le_of_ble_eq_true rfl | (simp only [ab_rm]; omega)⟩ (Nat.le_of_ble_eq_true rfl) (fun u60 r60 h60 => ?_)
        obtain ⟨⟨q60, o60, r60⟩, rfl⟩ := h60
        have P60 := P1.trans q60 (by decide)
        refine ab_iinc5 X 0 1 2 3 4 5 d_PF_satisfy_63 rfl (by decide) rfl rfl rfl rfl rfl rfl rfl rfl rfl rfl ?_
        refine ab_goto X 30 d_PF_satisfy_66 rfl ?_
        rw [show nI pre.length + Int32.ofInt 1 = nI (pre ++ [3 * (q + 1) + j]).length from by rw [List.length_append]; exact nI_1 _]
        refine ih (pre ++ [3 * (q + 1) + j]) _ (by rw [e1, List.append_assoc]; rfl) P60 (O1.trans o60.so) ⟨(q60.ii (by decide) f1.1), (q60.ii (by decide) f1.2.1), (q60.ii (by decide) f1.2.2.1), (q60.ii (by decide) f1.2.2.2)⟩ (fun q' j' hq' hj' hm => ?_)
        by_cases z : q' = q ∧ j' = j
        · obtain ⟨rfl, rfl⟩ := z
          exact r60
        · have hm : 3 * (q' + 1) + j' ∈ pre := by
            rcases List.mem_append.mp hm with y | y
            · exact y
            · rw [List.mem_singleton] at y; omega
          exact (R1 q' j' hq' hj' hm).fr o60 (by omega)
    refine ab_aload_n X 0 d_PF_satisfy_0 rfl rfl ?_
    refine ab_gR X fl_PF_58 d_PF_satisfy_1 (by first | assumption | decide | (show _ < 124; omega) | (show _ < 61; omega) | (show _ < 20; omega)) (hs) ?_
    refine ab_ifnonnull X 15 d_PF_satisfy_4 rfl (fun _ => ?_) (fun hb => absurd hb ((by intro z; cases z)))
    refine ab_aload_n X 0 d_PF_satisfy_15 rfl rfl ?_
    refine ab_gR X fl_PF_44 d_PF_satisfy_16 (by first | assumption | decide | (show _ < 124; omega) | (show _ < 61; omega) | (show _ < 20; omega)) (P0.1.pf4) ?_
    refine ab_iload_n X 1 d_PF_satisfy_19 rfl rfl ?_
    refine ab_iload_n X 2 d_PF_satisfy_20 rfl rfl ?_
    refine ab_iload_n X 3 d_PF_satisfy_21 rfl rfl ?_
    refine ab_iload X 4 d_PF_satisfy_22 rfl ?_
    refine ab_callV (as := [ab_I a1, ab_I a2, ab_I a3, ab_I a4]) X (fun h => by cases h) (f_FA_set u a1 a2 a3 a4 h) lk_PF_110 d_PF_satisfy_24 rfl rfl (by first | assumption | decide | (show _ < 124; omega) | (show _ < 61; omega) | (show _ < 20; omega)) ⟨by first | exact Nat.le_of_ble_eq_true rfl | (simp only [ab_rm]; omega), by first | exact Nat.le_of_ble_eq_true rfl | (simp only [ab_rm]; omega)⟩ ⟨by first | exact Nat.le_of_ble_eq_true rfl | (simp only [ab_rm]; omega), by first | exact Nat.le_of_ble_eq_true rfl | (simp only [ab_rm]; omega)⟩ (Nat.le_of_ble_eq_true rfl) (fun u24 r24 h24 => ?_)
    obtain ⟨q24, g24, rfl⟩ := h24
    have P24 := P0.trans q24 (by decide)
    refine ab_iconst (v := 0) X d_PF_satisfy_27 (by decide) ?_
    refine ab_istore5 X 0 1 2 3 4 d_PF_satisfy_28 (by decide) rfl rfl rfl rfl rfl rfl rfl rfl rfl rfl ?_
    exact loop _ [] _ (by rw [List.nil_append]) P24 (fun c i k a z => (q24.2.2.1 c i k (fun y => a (by simpa using y))).1) g24 (fun q j _ _ hm => by cases hm)
end SaSSat

