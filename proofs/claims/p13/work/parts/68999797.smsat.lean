/-! The reference's rows of a part: the account's. -/
theorem bts_s1 {nd n k : Nat} {a b : Nat → Option (List Nat)} (h : pcn k = nd) : bts nd n a b (k + 1) = bet (bts nd n a b k) (jns a b k n) := if_pos h
theorem bts_s0 {nd n k : Nat} {a b : Nat → Option (List Nat)} (h : ¬ pcn k = nd) : bts nd n a b (k + 1) = bts nd n a b k := if_neg h
theorem jns_1 {c i : Nat} {a b : Nat → Option (List Nat)} (h : c / 2 ^ i % 2 = 1) : jns a b c (i + 1) = jn (jns a b c i) (a i) := by
  show jn _ (if _ then _ else _) = _
  rw [if_pos h]
theorem jns_0 {c i : Nat} {a b : Nat → Option (List Nat)} (h : ¬ c / 2 ^ i % 2 = 1) : jns a b c (i + 1) = jn (jns a b c i) (b i) := by
  show jn _ (if _ then _ else _) = _
  rw [if_neg h]
def jall (a : Nat → Option (List Nat)) : Nat → Option (List Nat)
  | 0 => some []
  | i + 1 => jn (jall a i) (a i)
theorem jns_all {c : Nat} {a b : Nat → Option (List Nat)} : ∀ n, (∀ i, i < n → c / 2 ^ i % 2 = 1) → jns a b c n = jall a n := by
  intro n
  induction n with
  | zero => intro _; rfl
  | succ n ih =>
    intro h
    rw [jns_1 (h n (by omega)), ih (fun i hi => h i (by omega))]; rfl
theorem bts_no {nd n : Nat} {a b : Nat → Option (List Nat)} : ∀ k, (∀ c, c < k → ¬ pcn c = nd) → bts nd n a b k = none := by
  intro k
  induction k with
  | zero => intro _; rfl
  | succ k ih => intro h; rw [bts_s0 (h k (by omega))]; exact ih (fun c hc => h c (by omega))
theorem pcn_top : ∀ n, n ≤ 4 → pcn (2 ^ n - 1) = n ∧ (∀ c, c < 2 ^ n - 1 → ¬ pcn c = n) ∧ ∀ i, i < n → (2 ^ n - 1) / 2 ^ i % 2 = 1 := by decide +kernel
theorem bts_nn {n : Nat} (hn : n ≤ 4) (a b : Nat → Option (List Nat)) : bts n n a b (2 ^ n) = jall a n := by
  obtain ⟨h1, h2, h3⟩ := pcn_top n hn
  have e : 2 ^ n = (2 ^ n - 1) + 1 := by have := Nat.two_pow_pos n; omega
  rw [e, bts_s1 h1, bts_no _ h2, bet_none, jns_all n h3]
theorem jall_2 (a : Nat → Option (List Nat)) : jall a 2 = jn (a 0) (a 1) := by
  show jn (jn (some []) (a 0)) (a 1) = _
  rw [jn_nil]
theorem jall_1 (a : Nat → Option (List Nat)) : jall a 1 = a 0 := jn_nil
theorem bts_12 (a b : Nat → Option (List Nat)) : bts 1 2 a b 4 = bet (jn (a 0) (b 1)) (jn (b 0) (a 1)) := by
  rw [bts_s0 (k := 3) (by decide), bts_s1 (k := 2) (by decide), bts_s1 (k := 1) (by decide), bts_s0 (k := 0) (by decide)]
  have e1 : jns a b 1 2 = jn (a 0) (b 1) := by rw [jns_0 (i := 1) (by decide), jns_1 (i := 0) (by decide)]; show jn (jn (some []) (a 0)) (b 1) = _; rw [jn_nil]
  have e2 : jns a b 2 2 = jn (b 0) (a 1) := by rw [jns_1 (i := 1) (by decide), jns_0 (i := 0) (by decide)]; show jn (jn (some []) (b 0)) (a 1) = _; rw [jn_nil]
  rw [e1, e2]
  show bet (bet none _) _ = _
  rw [bet_none]
section SW
variable {kd ar cn : Nat → Nat} {ch : Nat → Nat → Nat} {R : Nat → List Nat} {H : Nat → Option (List Nat)} {S : Nat → Nat → Option (List Nat)} {p : Nat}
theorem sv1 {w : Nat} (h : w = 1 ∨ w = 11 ∨ w = 12) : svF kd ar cn ch R H S p w = H p := by rcases h with rfl | rfl | rfl <;> rfl
theorem sv2 (k : kd p = 5) (c : cn p = 2) : svF kd ar cn ch R H S p 2 = jn (S (ch p 0) 1) (S (ch p 1) 1) := by
  have e : svF kd ar cn ch R H S p 2 = bts (cnu (kd p) (ar p)) (cn p) (fun i => S (cp ch 2 p i) (cj cn 2 p i)) (fun i => some (R (cp ch 2 p i))) (2 ^ cn p) := rfl
  rw [e, k, c]
  exact (bts_nn (n := 2) (by decide) _ _).trans (jall_2 _)
theorem sv3 (k : kd p = 6) (c : cn p = 2) : svF kd ar cn ch R H S p 3 = bet (jn (S (ch p 0) 1) (some (R (ch p 1)))) (jn (some (R (ch p 0))) (S (ch p 1) 1)) := by
  have e : svF kd ar cn ch R H S p 3 = bts (cnu (kd p) (ar p)) (cn p) (fun i => S (cp ch 3 p i) (cj cn 3 p i)) (fun i => some (R (cp ch 3 p i))) (2 ^ cn p) := rfl
  rw [e, k, c]
  exact bts_12 _ _
theorem sv4 : svF kd ar cn ch R H S p 4 = bet (S (ch p 0) 1) (jn (some (R (ch p 0))) (S (ch p 1) 1)) := rfl
theorem sv5 : svF kd ar cn ch R H S p 5 = bet (jn (some [1]) (S (ch p 0) 1)) (jn (some [0]) (S (ch p 1) 0)) := rfl
theorem sv6 : svF kd ar cn ch R H S p 6 = bet (jn (some [1]) (S (ch p 0) 0)) (jn (some [0]) (S (ch p 1) 1)) := rfl
theorem sv7 (k : kd p = 7) : svF kd ar cn ch R H S p 7 = bts (ar p) (cn p) (fun i => S (ch p i) 1) (fun i => some (R (ch p i))) (2 ^ cn p) := by
  have e : svF kd ar cn ch R H S p 7 = bts (cnu (kd p) (ar p)) (cn p) (fun i => S (cp ch 7 p i) (cj cn 7 p i)) (fun i => some (R (cp ch 7 p i))) (2 ^ cn p) := rfl
  rw [e, k]; rfl
theorem sv8 : svF kd ar cn ch R H S p 8 = jn (some [1]) (S p 0) := rfl
theorem sv13 : svF kd ar cn ch R H S p 13 = jn (S (ch p 0) 2) (S (ch p 1) 0) := (bts_nn (n := 2) (by decide) (fun i => S (cp ch 13 p i) (cj cn 13 p i)) (fun i => some (R (cp ch 13 p i)))).trans (jall_2 _)
theorem sv14 : svF kd ar cn ch R H S p 14 = jn (S (ch p 1) 2) (S (ch p 0) 0) := (bts_nn (n := 2) (by decide) (fun i => S (cp ch 14 p i) (cj cn 14 p i)) (fun i => some (R (cp ch 14 p i)))).trans (jall_2 _)
theorem sv15 : svF kd ar cn ch R H S p 15 = bet (S (ch p 0) 1) (jn (some (R (ch p 0))) (S (ch p 1) 0)) := rfl
theorem sv16 : svF kd ar cn ch R H S p 16 = bet (S (ch p 1) 1) (jn (some (R (ch p 1))) (S (ch p 0) 0)) := rfl
theorem sv17 : svF kd ar cn ch R H S p 17 = bet (jn (some [1]) (S (ch p 0) 0)) (jn (some [0]) (S (ch p 1) 0)) := rfl
theorem sv18 (h : cn p ≤ 4) : svF kd ar cn ch R H S p 18 = jall (fun i => S (ch p i) (if i + 1 < cn p then 2 else 0)) (cn p) := bts_nn h (fun i => S (cp ch 18 p i) (cj cn 18 p i)) (fun i => some (R (cp ch 18 p i)))
theorem sv21 : svF kd ar cn ch R H S p 21 = jn (S (ch p 0) 2) (S (ch p 1) 2) := (bts_nn (n := 2) (by decide) (fun i => S (cp ch 21 p i) (cj cn 21 p i)) (fun i => some (R (cp ch 21 p i)))).trans (jall_2 _)
theorem sv22 : svF kd ar cn ch R H S p 22 = bet (S (ch p 0) 1) (jn (some (R (ch p 0))) (S (ch p 1) 2)) := rfl
theorem sv23 : svF kd ar cn ch R H S p 23 = bet (jn (some [1]) (S (ch p 0) 2)) (jn (some [0]) (S (ch p 1) 2)) := rfl
theorem sv24 : svF kd ar cn ch R H S p 24 = S p 0 := (bts_nn (n := 1) (by decide) (fun i => S (cp ch 24 p i) (cj cn 24 p i)) (fun i => some (R (cp ch 24 p i)))).trans (jall_1 _)
end SW
/-- the rows of the parts from lo on -/
def mS (P : Nat) (S : Nat → Nat → Option (List Nat)) (R : Nat → List Nat) (lo : Nat) (u : ab_S) : Prop := ∀ q, lo ≤ q → q < P → md u q (R q) ∧ ∀ j, j < 3 → ms u (3 * q + j) (S q j)
theorem mS.fo {P : Nat} {S : Nat → Nat → Option (List Nat)} {R : Nat → List Nat} {lo : Nat} {u u' : ab_S} (h : mS P S R lo u) (g : gP [26, 27, 29, 30, 115, 116] u u') : mS P S R lo u' := fun q a b => ⟨(h q a b).1.fo g, fun j hj => ((h q a b).2 j hj).fo g⟩
section SaSMSat
variable {l : Launch} {D : va_G} {ca : Nat → ClassId}
set_option maxRecDepth 100000 in
set_option maxHeartbeats 1000000 in
theorem x_MO_satisfiedMore13 (u : ab_S) (P : Nat) (kd ar cn lf : Nat → Nat) (ch : Nat → Nat → Nat) (W : tW P kd ar cn lf ch) (T : tR P kd ar cn ch u) (p1 : Nat) (hp : p1 < P) (R : Nat → List Nat) (H : Nat → Option (List Nat)) (S : Nat → Nat → Option (List Nat)) (A : mS P S R (p1 + 1) u) (bS : ∀ q, p1 < q → q < P → ∀ j, j < 3 → oB (4 * lf q - 2) (S q j)) (bR : ∀ q, p1 < q → q < P → (R q).length ≤ 2 * lf q - 1 ∧ ∀ x, x ∈ R q → itm x) (x y : Nat) (ex : ch p1 0 = x) (ey : ch p1 1 = y) (x1 : p1 < x) (x2 : x < P) (y1 : p1 < y) (y2 : y < P) (l0 : lf x + lf y ≤ lf p1) (l1 : 1 ≤ lf x) (l2 : 1 ≤ lf y) (B : mBs u none) (h : mR u.2.1) : ab_C false l D ca y_MO_satisfiedMore b_MO_satisfiedMore 6 none 4 ab_nQ u [ab_O 17 0, ab_I (nI p1), ab_I (nI 13), ab_I (nI x), ab_I (nI y)] (fun u' v => (gP [26, 27, 29, 30, 115, 116] u u' ∧ mBs u' (svF kd ar cn ch R H S p1 13)) ∧ v = none) := by
  refine ab_C.of (by decide) (Nat.le_of_ble_eq_true rfl) ?_
  intro p e s m args below meth c ad X hZ hr0 hlk
  have P0 : gP [26, 27, 29, 30, 115, 116] u u := gP.rf h
  obtain ⟨w1, w2, w3⟩ := W
  obtain ⟨l3, l4, -⟩ := (w3 p1 hp).1
  have xA := A x (by omega) x2
  have yA := A y (by omega) y2
  have xB := bS x x1 x2
  have yB := bS y y1 y2
  have xR := bR x x1 x2
  have yR := bR y y1 y2
  refine ab_iload_n X 2 d_MO_satisfiedMore_0 rfl rfl ?_
  refine ab_bipush (v := 13) X d_MO_satisfiedMore_1 (by decide) ?_
  refine ab_icmp_ne X 19 d_MO_satisfiedMore_3 rfl (fun hb => absurd ((by decide)) hb) (fun _ => ?_)
  refine ab_aload_n X 0 d_MO_satisfiedMore_6 rfl rfl ?_
  refine ab_iload_n X 3 d_MO_satisfiedMore_7 rfl rfl ?_
  refine ab_callS (as := [ab_I (nI x)]) X (fun h => by cases h) (t_MO_v u x) ls_MO_201 d_MO_satisfiedMore_8 rfl rfl ⟨by first | exact Nat.le_of_ble_eq_true rfl | (simp only [ab_rm]; omega), by first | exact Nat.le_of_ble_eq_true rfl | (simp only [ab_rm]; omega)⟩ ⟨by first | exact Nat.le_of_ble_eq_true rfl | (simp only [ab_rm]; omega), by first | exact Nat.le_of_ble_eq_true rfl | (simp only [ab_rm]; omega)⟩ (Nat.le_of_ble_eq_true rfl) (fun u8 r8 h8 => ?_)
  obtain ⟨e8, rfl⟩ := h8
  subst u8
  refine ab_iload X 4 d_MO_satisfiedMore_11 rfl ?_
  refine ab_callS (as := [ab_I (nI y)]) X (fun h => by cases h) (t_MO_b u y) ls_MO_204 d_MO_satisfiedMore_13 rfl rfl ⟨by first | exact Nat.le_of_ble_eq_true rfl | (simp only [ab_rm]; omega), by first | exact Nat.le_of_ble_eq_true rfl | (simp only [ab_rm]; omega)⟩ ⟨by first | exact Nat.le_of_ble_eq_true rfl | (simp only [ab_rm]; omega), by first | exact Nat.le_of_ble_eq_true rfl | (simp only [ab_rm]; omega)⟩ (Nat.le_of_ble_eq_true rfl) (fun u13 r13 h13 => ?_)
  obtain ⟨e13, rfl⟩ := h13
  subst u13
  refine ab_callV (as := [ab_I (nI (3 * x + 2)), ab_I (nI (3 * y))]) X (fun h => by cases h) (x_MO_offerBoth u (3 * x + 2) (3 * y) (4 * lf x - 2) (4 * lf y - 2) (S x 2) (S y 0) none B oB.none P0.1 (by omega) (by omega) ((xA.2 2 (by decide)).fo P0) ((yA.2 0 (by decide)).fo P0) (xB 2 (by decide)) (yB 0 (by decide)) (by omega)) lk_MO_279 d_MO_satisfiedMore_16 rfl rfl (by first | assumption | decide | (show _ < 124; omega) | (show _ < 61; omega) | (show _ < 20; omega)) ⟨by first | exact Nat.le_of_ble_eq_true rfl | (simp only [ab_rm]; omega), by first | exact Nat.le_of_ble_eq_true rfl | (simp only [ab_rm]; omega)⟩ ⟨by first | exact Nat.le_of_ble_eq_true rfl | (simp only [ab_rm]; omega), by first | exact Nat.le_of_ble_eq_true rfl | (simp only [ab_rm]; omega)⟩ (Nat.le_of_ble_eq_true rfl) (fun u16 r16 h16 => ?_)
  obtain ⟨⟨q16, r16⟩, rfl⟩ := h16
  have P16 := P0.trans q16 (by decide)
  refine ab_iload_n X 2 d_MO_satisfiedMore_19 rfl rfl ?_
  refine ab_bipush (v := 14) X d_MO_satisfiedMore_20 (by decide) ?_
  refine ab_icmp_ne X 38 d_MO_satisfiedMore_22 rfl (fun _ => ?_) (fun hb => absurd hb ((by decide)))
  refine ab_iload_n X 2 d_MO_satisfiedMore_38 rfl rfl ?_
  refine ab_bipush (v := 15) X d_MO_satisfiedMore_39 (by decide) ?_
  refine ab_icmp_ne X 58 d_MO_satisfiedMore_41 rfl (fun _ => ?_) (fun hb => absurd hb ((by decide)))
  refine ab_iload_n X 2 d_MO_satisfiedMore_58 rfl rfl ?_
  refine ab_bipush (v := 16) X d_MO_satisfiedMore_59 (by decide) ?_
  refine ab_icmp_ne X 79 d_MO_satisfiedMore_61 rfl (fun _ => ?_) (fun hb => absurd hb ((by decide)))
  refine ab_iload_n X 2 d_MO_satisfiedMore_79 rfl rfl ?_
  refine ab_bipush (v := 17) X d_MO_satisfiedMore_80 (by decide) ?_
  refine ab_icmp_ne X 98 d_MO_satisfiedMore_82 rfl (fun _ => ?_) (fun hb => absurd hb ((by decide)))
  refine ab_iload_n X 2 d_MO_satisfiedMore_98 rfl rfl ?_
  refine ab_bipush (v := 18) X d_MO_satisfiedMore_99 (by decide) ?_
  refine ab_icmp_ne X 176 d_MO_satisfiedMore_101 rfl (fun _ => ?_) (fun hb => absurd hb ((by decide)))
  refine ab_iload_n X 2 d_MO_satisfiedMore_176 rfl rfl ?_
  refine ab_bipush (v := 21) X d_MO_satisfiedMore_177 (by decide) ?_
  refine ab_icmp_ne X 195 d_MO_satisfiedMore_179 rfl (fun _ => ?_) (fun hb => absurd hb ((by decide)))
  refine ab_iload_n X 2 d_MO_satisfiedMore_195 rfl rfl ?_
  refine ab_bipush (v := 22) X d_MO_satisfiedMore_196 (by decide) ?_
  refine ab_icmp_ne X 215 d_MO_satisfiedMore_198 rfl (fun _ => ?_) (fun hb => absurd hb ((by decide)))
  refine ab_iload_n X 2 d_MO_satisfiedMore_215 rfl rfl ?_
  refine ab_bipush (v := 23) X d_MO_satisfiedMore_216 (by decide) ?_
  refine ab_icmp_ne X 234 d_MO_satisfiedMore_218 rfl (fun _ => ?_) (fun hb => absurd hb ((by decide)))
  refine ab_iload_n X 2 d_MO_satisfiedMore_234 rfl rfl ?_
  refine ab_bipush (v := 24) X d_MO_satisfiedMore_235 (by decide) ?_
  refine ab_icmp_ne X 252 d_MO_satisfiedMore_237 rfl (fun _ => ?_) (fun hb => absurd hb ((by decide)))
  exact ab_retv X hr0 hlk d_MO_satisfiedMore_252 ⟨⟨P16, by rw [sv13, ex, ey]; rw [bet_none] at r16; exact r16⟩, rfl⟩
set_option maxRecDepth 100000 in
set_option maxHeartbeats 1000000 in
theorem x_MO_satisfiedMore14 (u : ab_S) (P : Nat) (kd ar cn lf : Nat → Nat) (ch : Nat → Nat → Nat) (W : tW P kd ar cn lf ch) (T : tR P kd ar cn ch u) (p1 : Nat) (hp : p1 < P) (R : Nat → List Nat) (H : Nat → Option (List Nat)) (S : Nat → Nat → Option (List Nat)) (A : mS P S R (p1 + 1) u) (bS : ∀ q, p1 < q → q < P → ∀ j, j < 3 → oB (4 * lf q - 2) (S q j)) (bR : ∀ q, p1 < q → q < P → (R q).length ≤ 2 * lf q - 1 ∧ ∀ x, x ∈ R q → itm x) (x y : Nat) (ex : ch p1 0 = x) (ey : ch p1 1 = y) (x1 : p1 < x) (x2 : x < P) (y1 : p1 < y) (y2 : y < P) (l0 : lf x + lf y ≤ lf p1) (l1 : 1 ≤ lf x) (l2 : 1 ≤ lf y) (B : mBs u none) (h : mR u.2.1) : ab_C false l D ca y_MO_satisfiedMore b_MO_satisfiedMore 6 none 4 ab_nQ u [ab_O 17 0, ab_I (nI p1), ab_I (nI 14), ab_I (nI x), ab_I (nI y)] (fun u' v => (gP [26, 27, 29, 30, 115, 116] u u' ∧ mBs u' (svF kd ar cn ch R H S p1 14)) ∧ v = none) := by
  refine ab_C.of (by decide) (Nat.le_of_ble_eq_true rfl) ?_
  intro p e s m args below meth c ad X hZ hr0 hlk
  have P0 : gP [26, 27, 29, 30, 115, 116] u u := gP.rf h
  obtain ⟨w1, w2, w3⟩ := W
  obtain ⟨l3, l4, -⟩ := (w3 p1 hp).1
  have xA := A x (by omega) x2
  have yA := A y (by omega) y2
  have xB := bS x x1 x2
  have yB := bS y y1 y2
  have xR := bR x x1 x2
  have yR := bR y y1 y2
  refine ab_iload_n X 2 d_MO_satisfiedMore_0 rfl rfl ?_
  refine ab_bipush (v := 13) X d_MO_satisfiedMore_1 (by decide) ?_
  refine ab_icmp_ne X 19 d_MO_satisfiedMore_3 rfl (fun _ => ?_) (fun hb => absurd hb ((by decide)))
  refine ab_iload_n X 2 d_MO_satisfiedMore_19 rfl rfl ?_
  refine ab_bipush (v := 14) X d_MO_satisfiedMore_20 (by decide) ?_
  refine ab_icmp_ne X 38 d_MO_satisfiedMore_22 rfl (fun hb => absurd ((by decide)) hb) (fun _ => ?_)
  refine ab_aload_n X 0 d_MO_satisfiedMore_25 rfl rfl ?_
  refine ab_iload X 4 d_MO_satisfiedMore_26 rfl ?_
  refine ab_callS (as := [ab_I (nI y)]) X (fun h => by cases h) (t_MO_v u y) ls_MO_201 d_MO_satisfiedMore_28 rfl rfl ⟨by first | exact Nat.le_of_ble_eq_true rfl | (simp only [ab_rm]; omega), by first | exact Nat.le_of_ble_eq_true rfl | (simp only [ab_rm]; omega)⟩ ⟨by first | exact Nat.le_of_ble_eq_true rfl | (simp only [ab_rm]; omega), by first | exact Nat.le_of_ble_eq_true rfl | (simp only [ab_rm]; omega)⟩ (Nat.le_of_ble_eq_true rfl) (fun u28 r28 h28 => ?_)
  obtain ⟨e28, rfl⟩ := h28
  subst u28
  refine ab_iload_n X 3 d_MO_satisfiedMore_31 rfl rfl ?_
  refine ab_callS (as := [ab_I (nI x)]) X (fun h => by cases h) (t_MO_b u x) ls_MO_204 d_MO_satisfiedMore_32 rfl rfl ⟨by first | exact Nat.le_of_ble_eq_true rfl | (simp only [ab_rm]; omega), by first | exact Nat.le_of_ble_eq_true rfl | (simp only [ab_rm]; omega)⟩ ⟨by first | exact Nat.le_of_ble_eq_true rfl | (simp only [ab_rm]; omega), by first | exact Nat.le_of_ble_eq_true rfl | (simp only [ab_rm]; omega)⟩ (Nat.le_of_ble_eq_true rfl) (fun u32 r32 h32 => ?_)
  obtain ⟨e32, rfl⟩ := h32
  subst u32
  refine ab_callV (as := [ab_I (nI (3 * y + 2)), ab_I (nI (3 * x))]) X (fun h => by cases h) (x_MO_offerBoth u (3 * y + 2) (3 * x) (4 * lf y - 2) (4 * lf x - 2) (S y 2) (S x 0) none B oB.none P0.1 (by omega) (by omega) ((yA.2 2 (by decide)).fo P0) ((xA.2 0 (by decide)).fo P0) (yB 2 (by decide)) (xB 0 (by decide)) (by omega)) lk_MO_279 d_MO_satisfiedMore_35 rfl rfl (by first | assumption | decide | (show _ < 124; omega) | (show _ < 61; omega) | (show _ < 20; omega)) ⟨by first | exact Nat.le_of_ble_eq_true rfl | (simp only [ab_rm]; omega), by first | exact Nat.le_of_ble_eq_true rfl | (simp only [ab_rm]; omega)⟩ ⟨by first | exact Nat.le_of_ble_eq_true rfl | (simp only [ab_rm]; omega), by first | exact Nat.le_of_ble_eq_true rfl | (simp only [ab_rm]; omega)⟩ (Nat.le_of_ble_eq_true rfl) (fun u35 r35 h35 => ?_)
  obtain ⟨⟨q35, r35⟩, rfl⟩ := h35
  have P35 := P0.trans q35 (by decide)
  refine ab_iload_n X 2 d_MO_satisfiedMore_38 rfl rfl ?_
  refine ab_bipush (v := 15) X d_MO_satisfiedMore_39 (by decide) ?_
  refine ab_icmp_ne X 58 d_MO_satisfiedMore_41 rfl (fun _ => ?_) (fun hb => absurd hb ((by decide)))
  refine ab_iload_n X 2 d_MO_satisfiedMore_58 rfl rfl ?_
  refine ab_bipush (v := 16) X d_MO_satisfiedMore_59 (by decide) ?_
  refine ab_icmp_ne X 79 d_MO_satisfiedMore_61 rfl (fun _ => ?_) (fun hb => absurd hb ((by decide)))
  refine ab_iload_n X 2 d_MO_satisfiedMore_79 rfl rfl ?_
  refine ab_bipush (v := 17) X d_MO_satisfiedMore_80 (by decide) ?_
  refine ab_icmp_ne X 98 d_MO_satisfiedMore_82 rfl (fun _ => ?_) (fun hb => absurd hb ((by decide)))
  refine ab_iload_n X 2 d_MO_satisfiedMore_98 rfl rfl ?_
  refine ab_bipush (v := 18) X d_MO_satisfiedMore_99 (by decide) ?_
  refine ab_icmp_ne X 176 d_MO_satisfiedMore_101 rfl (fun _ => ?_) (fun hb => absurd hb ((by decide)))
  refine ab_iload_n X 2 d_MO_satisfiedMore_176 rfl rfl ?_
  refine ab_bipush (v := 21) X d_MO_satisfiedMore_177 (by decide) ?_
  refine ab_icmp_ne X 195 d_MO_satisfiedMore_179 rfl (fun _ => ?_) (fun hb => absurd hb ((by decide)))
  refine ab_iload_n X 2 d_MO_satisfiedMore_195 rfl rfl ?_
  refine ab_bipush (v := 22) X d_MO_satisfiedMore_196 (by decide) ?_
  refine ab_icmp_ne X 215 d_MO_satisfiedMore_198 rfl (fun _ => ?_) (fun hb => absurd hb ((by decide)))
  refine ab_iload_n X 2 d_MO_satisfiedMore_215 rfl rfl ?_
  refine ab_bipush (v := 23) X d_MO_satisfiedMore_216 (by decide) ?_
  refine ab_icmp_ne X 234 d_MO_satisfiedMore_218 rfl (fun _ => ?_) (fun hb => absurd hb ((by decide)))
  refine ab_iload_n X 2 d_MO_satisfiedMore_234 rfl rfl ?_
  refine ab_bipush (v := 24) X d_MO_satisfiedMore_235 (by decide) ?_
  refine ab_icmp_ne X 252 d_MO_satisfiedMore_237 rfl (fun _ => ?_) (fun hb => absurd hb ((by decide)))
  exact ab_retv X hr0 hlk d_MO_satisfiedMore_252 ⟨⟨P35, by rw [sv14, ex, ey]; rw [bet_none] at r35; exact r35⟩, rfl⟩
set_option maxRecDepth 100000 in
set_option maxHeartbeats 1000000 in
theorem x_MO_satisfiedMore15 (u : ab_S) (P : Nat) (kd ar cn lf : Nat → Nat) (ch : Nat → Nat → Nat) (W : tW P kd ar cn lf ch) (T : tR P kd ar cn ch u) (p1 : Nat) (hp : p1 < P) (R : Nat → List Nat) (H : Nat → Option (List Nat)) (S : Nat → Nat → Option (List Nat)) (A : mS P S R (p1 + 1) u) (bS : ∀ q, p1 < q → q < P → ∀ j, j < 3 → oB (4 * lf q - 2) (S q j)) (bR : ∀ q, p1 < q → q < P → (R q).length ≤ 2 * lf q - 1 ∧ ∀ x, x ∈ R q → itm x) (x y : Nat) (ex : ch p1 0 = x) (ey : ch p1 1 = y) (x1 : p1 < x) (x2 : x < P) (y1 : p1 < y) (y2 : y < P) (l0 : lf x + lf y ≤ lf p1) (l1 : 1 ≤ lf x) (l2 : 1 ≤ lf y) (B : mBs u none) (h : mR u.2.1) : ab_C false l D ca y_MO_satisfiedMore b_MO_satisfiedMore 6 none 4 ab_nQ u [ab_O 17 0, ab_I (nI p1), ab_I (nI 15), ab_I (nI x), ab_I (nI y)] (fun u' v => (gP [26, 27, 29, 30, 115, 116] u u' ∧ mBs u' (svF kd ar cn ch R H S p1 15)) ∧ v = none) := by
  refine ab_C.of (by decide) (Nat.le_of_ble_eq_true rfl) ?_
  intro p e s m args below meth c ad X hZ hr0 hlk
  have P0 : gP [26, 27, 29, 30, 115, 116] u u := gP.rf h
  obtain ⟨w1, w2, w3⟩ := W
  obtain ⟨l3, l4, -⟩ := (w3 p1 hp).1
  have xA := A x (by omega) x2
  have yA := A y (by omega) y2
  have xB := bS x x1 x2
  have yB := bS y y1 y2
  have xR := bR x x1 x2
  have yR := bR y y1 y2
  refine ab_iload_n X 2 d_MO_satisfiedMore_0 rfl rfl ?_
  refine ab_bipush (v := 13) X d_MO_satisfiedMore_1 (by decide) ?_
  refine ab_icmp_ne X 19 d_MO_satisfiedMore_3 rfl (fun _ => ?_) (fun hb => absurd hb ((by decide)))
  refine ab_iload_n X 2 d_MO_satisfiedMore_19 rfl rfl ?_
  refine ab_bipush (v := 14) X d_MO_satisfiedMore_20 (by decide) ?_
  refine ab_icmp_ne X 38 d_MO_satisfiedMore_22 rfl (fun _ => ?_) (fun hb => absurd hb ((by decide)))
  refine ab_iload_n X 2 d_MO_satisfiedMore_38 rfl rfl ?_
  refine ab_bipush (v := 15) X d_MO_satisfiedMore_39 (by decide) ?_
  refine ab_icmp_ne X 58 d_MO_satisfiedMore_41 rfl (fun hb => absurd ((by decide)) hb) (fun _ => ?_)
  refine ab_aload_n X 0 d_MO_satisfiedMore_44 rfl rfl ?_
  refine ab_iload_n X 3 d_MO_satisfiedMore_45 rfl rfl ?_
  refine ab_callS (as := [ab_I (nI x)]) X (fun h => by cases h) (t_MO_d u x) ls_MO_195 d_MO_satisfiedMore_46 rfl rfl ⟨by first | exact Nat.le_of_ble_eq_true rfl | (simp only [ab_rm]; omega), by first | exact Nat.le_of_ble_eq_true rfl | (simp only [ab_rm]; omega)⟩ ⟨by first | exact Nat.le_of_ble_eq_true rfl | (simp only [ab_rm]; omega), by first | exact Nat.le_of_ble_eq_true rfl | (simp only [ab_rm]; omega)⟩ (Nat.le_of_ble_eq_true rfl) (fun u46 r46 h46 => ?_)
  obtain ⟨e46, rfl⟩ := h46
  subst u46
  refine ab_iload_n X 3 d_MO_satisfiedMore_49 rfl rfl ?_
  refine ab_iload X 4 d_MO_satisfiedMore_50 rfl ?_
  refine ab_callS (as := [ab_I (nI y)]) X (fun h => by cases h) (t_MO_b u y) ls_MO_204 d_MO_satisfiedMore_52 rfl rfl ⟨by first | exact Nat.le_of_ble_eq_true rfl | (simp only [ab_rm]; omega), by first | exact Nat.le_of_ble_eq_true rfl | (simp only [ab_rm]; omega)⟩ ⟨by first | exact Nat.le_of_ble_eq_true rfl | (simp only [ab_rm]; omega), by first | exact Nat.le_of_ble_eq_true rfl | (simp only [ab_rm]; omega)⟩ (Nat.le_of_ble_eq_true rfl) (fun u52 r52 h52 => ?_)
  obtain ⟨e52, rfl⟩ := h52
  subst u52
  refine ab_callV (as := [ab_I (nI (3 * x + 1)), ab_I (nI x), ab_I (nI (3 * y))]) X (fun h => by cases h) (x_MO_offerEither u (3 * x + 1) x (3 * y) (4 * lf x - 2) (4 * lf y - 2) (S x 1) (S y 0) (R x) none B oB.none P0.1 (by omega) (by omega) (by omega) ((xA.2 1 (by decide)).fo P0) (xA.1.fo P0) ((yA.2 0 (by decide)).fo P0) (xB 1 (by decide)) (yB 0 (by decide)) xR.2 (by omega) (by omega)) lk_MO_282 d_MO_satisfiedMore_55 rfl rfl (by first | assumption | decide | (show _ < 124; omega) | (show _ < 61; omega) | (show _ < 20; omega)) ⟨by first | exact Nat.le_of_ble_eq_true rfl | (simp only [ab_rm]; omega), by first | exact Nat.le_of_ble_eq_true rfl | (simp only [ab_rm]; omega)⟩ ⟨by first | exact Nat.le_of_ble_eq_true rfl | (simp only [ab_rm]; omega), by first | exact Nat.le_of_ble_eq_true rfl | (simp only [ab_rm]; omega)⟩ (Nat.le_of_ble_eq_true rfl) (fun u55 r55 h55 => ?_)
  obtain ⟨⟨q55, r55⟩, rfl⟩ := h55
  have P55 := P0.trans q55 (by decide)
  refine ab_iload_n X 2 d_MO_satisfiedMore_58 rfl rfl ?_
  refine ab_bipush (v := 16) X d_MO_satisfiedMore_59 (by decide) ?_
  refine ab_icmp_ne X 79 d_MO_satisfiedMore_61 rfl (fun _ => ?_) (fun hb => absurd hb ((by decide)))
  refine ab_iload_n X 2 d_MO_satisfiedMore_79 rfl rfl ?_
  refine ab_bipush (v := 17) X d_MO_satisfiedMore_80 (by decide) ?_
  refine ab_icmp_ne X 98 d_MO_satisfiedMore_82 rfl (fun _ => ?_) (fun hb => absurd hb ((by decide)))
  refine ab_iload_n X 2 d_MO_satisfiedMore_98 rfl rfl ?_
  refine ab_bipush (v := 18) X d_MO_satisfiedMore_99 (by decide) ?_
  refine ab_icmp_ne X 176 d_MO_satisfiedMore_101 rfl (fun _ => ?_) (fun hb => absurd hb ((by decide)))
  refine ab_iload_n X 2 d_MO_satisfiedMore_176 rfl rfl ?_
  refine ab_bipush (v := 21) X d_MO_satisfiedMore_177 (by decide) ?_
  refine ab_icmp_ne X 195 d_MO_satisfiedMore_179 rfl (fun _ => ?_) (fun hb => absurd hb ((by decide)))
  refine ab_iload_n X 2 d_MO_satisfiedMore_195 rfl rfl ?_
  refine ab_bipush (v := 22) X d_MO_satisfiedMore_196 (by decide) ?_
  refine ab_icmp_ne X 215 d_MO_satisfiedMore_198 rfl (fun _ => ?_) (fun hb => absurd hb ((by decide)))
  refine ab_iload_n X 2 d_MO_satisfiedMore_215 rfl rfl ?_
  refine ab_bipush (v := 23) X d_MO_satisfiedMore_216 (by decide) ?_
  refine ab_icmp_ne X 234 d_MO_satisfiedMore_218 rfl (fun _ => ?_) (fun hb => absurd hb ((by decide)))
  refine ab_iload_n X 2 d_MO_satisfiedMore_234 rfl rfl ?_
  refine ab_bipush (v := 24) X d_MO_satisfiedMore_235 (by decide) ?_
  refine ab_icmp_ne X 252 d_MO_satisfiedMore_237 rfl (fun _ => ?_) (fun hb => absurd hb ((by decide)))
  exact ab_retv X hr0 hlk d_MO_satisfiedMore_252 ⟨⟨P55, by rw [sv15, ex, ey]; rw [bet_none] at r55; exact r55⟩, rfl⟩
set_option maxRecDepth 100000 in
set_option maxHeartbeats 1000000 in
theorem x_MO_satisfiedMore16 (u : ab_S) (P : Nat) (kd ar cn lf : Nat → Nat) (ch : Nat → Nat → Nat) (W : tW P kd ar cn lf ch) (T : tR P kd ar cn ch u) (p1 : Nat) (hp : p1 < P) (R : Nat → List Nat) (H : Nat → Option (List Nat)) (S : Nat → Nat → Option (List Nat)) (A : mS P S R (p1 + 1) u) (bS : ∀ q, p1 < q → q < P → ∀ j, j < 3 → oB (4 * lf q - 2) (S q j)) (bR : ∀ q, p1 < q → q < P → (R q).length ≤ 2 * lf q - 1 ∧ ∀ x, x ∈ R q → itm x) (x y : Nat) (ex : ch p1 0 = x) (ey : ch p1 1 = y) (x1 : p1 < x) (x2 : x < P) (y1 : p1 < y) (y2 : y < P) (l0 : lf x + lf y ≤ lf p1) (l1 : 1 ≤ lf x) (l2 : 1 ≤ lf y) (B : mBs u none) (h : mR u.2.1) : ab_C false l D ca y_MO_satisfiedMore b_MO_satisfiedMore 6 none 4 ab_nQ u [ab_O 17 0, ab_I (nI p1), ab_I (nI 16), ab_I (nI x), ab_I (nI y)] (fun u' v => (gP [26, 27, 29, 30, 115, 116] u u' ∧ mBs u' (svF kd ar cn ch R H S p1 16)) ∧ v = none) := by
  refine ab_C.of (by decide) (Nat.le_of_ble_eq_true rfl) ?_
  intro p e s m args below meth c ad X hZ hr0 hlk
  have P0 : gP [26, 27, 29, 30, 115, 116] u u := gP.rf h
  obtain ⟨w1, w2, w3⟩ := W
  obtain ⟨l3, l4, -⟩ := (w3 p1 hp).1
  have xA := A x (by omega) x2
  have yA := A y (by omega) y2
  have xB := bS x x1 x2
  have yB := bS y y1 y2
  have xR := bR x x1 x2
  have yR := bR y y1 y2
  refine ab_iload_n X 2 d_MO_satisfiedMore_0 rfl rfl ?_
  refine ab_bipush (v := 13) X d_MO_satisfiedMore_1 (by decide) ?_
  refine ab_icmp_ne X 19 d_MO_satisfiedMore_3 rfl (fun _ => ?_) (fun hb => absurd hb ((by decide)))
  refine ab_iload_n X 2 d_MO_satisfiedMore_19 rfl rfl ?_
  refine ab_bipush (v := 14) X d_MO_satisfiedMore_20 (by decide) ?_
  refine ab_icmp_ne X 38 d_MO_satisfiedMore_22 rfl (fun _ => ?_) (fun hb => absurd hb ((by decide)))
  refine ab_iload_n X 2 d_MO_satisfiedMore_38 rfl rfl ?_
  refine ab_bipush (v := 15) X d_MO_satisfiedMore_39 (by decide) ?_
  refine ab_icmp_ne X 58 d_MO_satisfiedMore_41 rfl (fun _ => ?_) (fun hb => absurd hb ((by decide)))
  refine ab_iload_n X 2 d_MO_satisfiedMore_58 rfl rfl ?_
  refine ab_bipush (v := 16) X d_MO_satisfiedMore_59 (by decide) ?_
  refine ab_icmp_ne X 79 d_MO_satisfiedMore_61 rfl (fun hb => absurd ((by decide)) hb) (fun _ => ?_)
  refine ab_aload_n X 0 d_MO_satisfiedMore_64 rfl rfl ?_
  refine ab_iload X 4 d_MO_satisfiedMore_65 rfl ?_
  refine ab_callS (as := [ab_I (nI y)]) X (fun h => by cases h) (t_MO_d u y) ls_MO_195 d_MO_satisfiedMore_67 rfl rfl ⟨by first | exact Nat.le_of_ble_eq_true rfl | (simp only [ab_rm]; omega), by first | exact Nat.le_of_ble_eq_true rfl | (simp only [ab_rm]; omega)⟩ ⟨by first | exact Nat.le_of_ble_eq_true rfl | (simp only [ab_rm]; omega), by first | exact Nat.le_of_ble_eq_true rfl | (simp only [ab_rm]; omega)⟩ (Nat.le_of_ble_eq_true rfl) (fun u67 r67 h67 => ?_)
  obtain ⟨e67, rfl⟩ := h67
  subst u67
  refine ab_iload X 4 d_MO_satisfiedMore_70 rfl ?_
  refine ab_iload_n X 3 d_MO_satisfiedMore_72 rfl rfl ?_
  refine ab_callS (as := [ab_I (nI x)]) X (fun h => by cases h) (t_MO_b u x) ls_MO_204 d_MO_satisfiedMore_73 rfl rfl ⟨by first | exact Nat.le_of_ble_eq_true rfl | (simp only [ab_rm]; omega), by first | exact Nat.le_of_ble_eq_true rfl | (simp only [ab_rm]; omega)⟩ ⟨by first | exact Nat.le_of_ble_eq_true rfl | (simp only [ab_rm]; omega), by first | exact Nat.le_of_ble_eq_true rfl | (simp only [ab_rm]; omega)⟩ (Nat.le_of_ble_eq_true rfl) (fun u73 r73 h73 => ?_)
  obtain ⟨e73, rfl⟩ := h73
  subst u73
  refine ab_callV (as := [ab_I (nI (3 * y + 1)), ab_I (nI y), ab_I (nI (3 * x))]) X (fun h => by cases h) (x_MO_offerEither u (3 * y + 1) y (3 * x) (4 * lf y - 2) (4 * lf x - 2) (S y 1) (S x 0) (R y) none B oB.none P0.1 (by omega) (by omega) (by omega) ((yA.2 1 (by decide)).fo P0) (yA.1.fo P0) ((xA.2 0 (by decide)).fo P0) (yB 1 (by decide)) (xB 0 (by decide)) yR.2 (by omega) (by omega)) lk_MO_282 d_MO_satisfiedMore_76 rfl rfl (by first | assumption | decide | (show _ < 124; omega) | (show _ < 61; omega) | (show _ < 20; omega)) ⟨by first | exact Nat.le_of_ble_eq_true rfl | (simp only [ab_rm]; omega), by first | exact Nat.le_of_ble_eq_true rfl | (simp only [ab_rm]; omega)⟩ ⟨by first | exact Nat.le_of_ble_eq_true rfl | (simp only [ab_rm]; omega), by first | exact Nat.le_of_ble_eq_true rfl | (simp only [ab_rm]; omega)⟩ (Nat.le_of_ble_eq_true rfl) (fun u76 r76 h76 => ?_)
  obtain ⟨⟨q76, r76⟩, rfl⟩ := h76
  have P76 := P0.trans q76 (by decide)
  refine ab_iload_n X 2 d_MO_satisfiedMore_79 rfl rfl ?_
  refine ab_bipush (v := 17) X d_MO_satisfiedMore_80 (by decide) ?_
  refine ab_icmp_ne X 98 d_MO_satisfiedMore_82 rfl (fun _ => ?_) (fun hb => absurd hb ((by decide)))
  refine ab_iload_n X 2 d_MO_satisfiedMore_98 rfl rfl ?_
  refine ab_bipush (v := 18) X d_MO_satisfiedMore_99 (by decide) ?_
  refine ab_icmp_ne X 176 d_MO_satisfiedMore_101 rfl (fun _ => ?_) (fun hb => absurd hb ((by decide)))
  refine ab_iload_n X 2 d_MO_satisfiedMore_176 rfl rfl ?_
  refine ab_bipush (v := 21) X d_MO_satisfiedMore_177 (by decide) ?_
  refine ab_icmp_ne X 195 d_MO_satisfiedMore_179 rfl (fun _ => ?_) (fun hb => absurd hb ((by decide)))
  refine ab_iload_n X 2 d_MO_satisfiedMore_195 rfl rfl ?_
  refine ab_bipush (v := 22) X d_MO_satisfiedMore_196 (by decide) ?_
  refine ab_icmp_ne X 215 d_MO_satisfiedMore_198 rfl (fun _ => ?_) (fun hb => absurd hb ((by decide)))
  refine ab_iload_n X 2 d_MO_satisfiedMore_215 rfl rfl ?_
  refine ab_bipush (v := 23) X d_MO_satisfiedMore_216 (by decide) ?_
  refine ab_icmp_ne X 234 d_MO_satisfiedMore_218 rfl (fun _ => ?_) (fun hb => absurd hb ((by decide)))
  refine ab_iload_n X 2 d_MO_satisfiedMore_234 rfl rfl ?_
  refine ab_bipush (v := 24) X d_MO_satisfiedMore_235 (by decide) ?_
  refine ab_icmp_ne X 252 d_MO_satisfiedMore_237 rfl (fun _ => ?_) (fun hb => absurd hb ((by decide)))
  exact ab_retv X hr0 hlk d_MO_satisfiedMore_252 ⟨⟨P76, by rw [sv16, ex, ey]; rw [bet_none] at r76; exact r76⟩, rfl⟩
set_option maxRecDepth 100000 in
set_option maxHeartbeats 1000000 in
theorem x_MO_satisfiedMore17 (u : ab_S) (P : Nat) (kd ar cn lf : Nat → Nat) (ch : Nat → Nat → Nat) (W : tW P kd ar cn lf ch) (T : tR P kd ar cn ch u) (p1 : Nat) (hp : p1 < P) (R : Nat → List Nat) (H : Nat → Option (List Nat)) (S : Nat → Nat → Option (List Nat)) (A : mS P S R (p1 + 1) u) (bS : ∀ q, p1 < q → q < P → ∀ j, j < 3 → oB (4 * lf q - 2) (S q j)) (bR : ∀ q, p1 < q → q < P → (R q).length ≤ 2 * lf q - 1 ∧ ∀ x, x ∈ R q → itm x) (x y : Nat) (ex : ch p1 0 = x) (ey : ch p1 1 = y) (x1 : p1 < x) (x2 : x < P) (y1 : p1 < y) (y2 : y < P) (l0 : lf x + lf y ≤ lf p1) (l1 : 1 ≤ lf x) (l2 : 1 ≤ lf y) (B : mBs u none) (h : mR u.2.1) : ab_C false l D ca y_MO_satisfiedMore b_MO_satisfiedMore 6 none 4 ab_nQ u [ab_O 17 0, ab_I (nI p1), ab_I (nI 17), ab_I (nI x), ab_I (nI y)] (fun u' v => (gP [26, 27, 29, 30, 115, 116] u u' ∧ mBs u' (svF kd ar cn ch R H S p1 17)) ∧ v = none) := by
  refine ab_C.of (by decide) (Nat.le_of_ble_eq_true rfl) ?_
  intro p e s m args below meth c ad X hZ hr0 hlk
  have P0 : gP [26, 27, 29, 30, 115, 116] u u := gP.rf h
  obtain ⟨w1, w2, w3⟩ := W
  obtain ⟨l3, l4, -⟩ := (w3 p1 hp).1
  have xA := A x (by omega) x2
  have yA := A y (by omega) y2
  have xB := bS x x1 x2
  have yB := bS y y1 y2
  have xR := bR x x1 x2
  have yR := bR y y1 y2
  refine ab_iload_n X 2 d_MO_satisfiedMore_0 rfl rfl ?_
  refine ab_bipush (v := 13) X d_MO_satisfiedMore_1 (by decide) ?_
  refine ab_icmp_ne X 19 d_MO_satisfiedMore_3 rfl (fun _ => ?_) (fun hb => absurd hb ((by decide)))
  refine ab_iload_n X 2 d_MO_satisfiedMore_19 rfl rfl ?_
  refine ab_bipush (v := 14) X d_MO_satisfiedMore_20 (by decide) ?_
  refine ab_icmp_ne X 38 d_MO_satisfiedMore_22 rfl (fun _ => ?_) (fun hb => absurd hb ((by decide)))
  refine ab_iload_n X 2 d_MO_satisfiedMore_38 rfl rfl ?_
  refine ab_bipush (v := 15) X d_MO_satisfiedMore_39 (by decide) ?_
  refine ab_icmp_ne X 58 d_MO_satisfiedMore_41 rfl (fun _ => ?_) (fun hb => absurd hb ((by decide)))
  refine ab_iload_n X 2 d_MO_satisfiedMore_58 rfl rfl ?_
  refine ab_bipush (v := 16) X d_MO_satisfiedMore_59 (by decide) ?_
  refine ab_icmp_ne X 79 d_MO_satisfiedMore_61 rfl (fun _ => ?_) (fun hb => absurd hb ((by decide)))
  refine ab_iload_n X 2 d_MO_satisfiedMore_79 rfl rfl ?_
  refine ab_bipush (v := 17) X d_MO_satisfiedMore_80 (by decide) ?_
  refine ab_icmp_ne X 98 d_MO_satisfiedMore_82 rfl (fun hb => absurd ((by decide)) hb) (fun _ => ?_)
  refine ab_aload_n X 0 d_MO_satisfiedMore_85 rfl rfl ?_
  refine ab_iload_n X 3 d_MO_satisfiedMore_86 rfl rfl ?_
  refine ab_callS (as := [ab_I (nI x)]) X (fun h => by cases h) (t_MO_b u x) ls_MO_204 d_MO_satisfiedMore_87 rfl rfl ⟨by first | exact Nat.le_of_ble_eq_true rfl | (simp only [ab_rm]; omega), by first | exact Nat.le_of_ble_eq_true rfl | (simp only [ab_rm]; omega)⟩ ⟨by first | exact Nat.le_of_ble_eq_true rfl | (simp only [ab_rm]; omega), by first | exact Nat.le_of_ble_eq_true rfl | (simp only [ab_rm]; omega)⟩ (Nat.le_of_ble_eq_true rfl) (fun u87 r87 h87 => ?_)
  obtain ⟨e87, rfl⟩ := h87
  subst u87
  refine ab_iload X 4 d_MO_satisfiedMore_90 rfl ?_
  refine ab_callS (as := [ab_I (nI y)]) X (fun h => by cases h) (t_MO_b u y) ls_MO_204 d_MO_satisfiedMore_92 rfl rfl ⟨by first | exact Nat.le_of_ble_eq_true rfl | (simp only [ab_rm]; omega), by first | exact Nat.le_of_ble_eq_true rfl | (simp only [ab_rm]; omega)⟩ ⟨by first | exact Nat.le_of_ble_eq_true rfl | (simp only [ab_rm]; omega), by first | exact Nat.le_of_ble_eq_true rfl | (simp only [ab_rm]; omega)⟩ (Nat.le_of_ble_eq_true rfl) (fun u92 r92 h92 => ?_)
  obtain ⟨e92, rfl⟩ := h92
  subst u92
  refine ab_callV (as := [ab_I (nI (3 * x)), ab_I (nI (3 * y))]) X (fun h => by cases h) (x_MO_offerChoice u (3 * x) (3 * y) (4 * lf x - 2) (4 * lf y - 2) (S x 0) (S y 0) none B oB.none P0.1 (by omega) (by omega) ((xA.2 0 (by decide)).fo P0) ((yA.2 0 (by decide)).fo P0) (xB 0 (by decide)) (yB 0 (by decide)) (by omega) (by omega)) lk_MO_285 d_MO_satisfiedMore_95 rfl rfl (by first | assumption | decide | (show _ < 124; omega) | (show _ < 61; omega) | (show _ < 20; omega)) ⟨by first | exact Nat.le_of_ble_eq_true rfl | (simp only [ab_rm]; omega), by first | exact Nat.le_of_ble_eq_true rfl | (simp only [ab_rm]; omega)⟩ ⟨by first | exact Nat.le_of_ble_eq_true rfl | (simp only [ab_rm]; omega), by first | exact Nat.le_of_ble_eq_true rfl | (simp only [ab_rm]; omega)⟩ (Nat.le_of_ble_eq_true rfl) (fun u95 r95 h95 => ?_)
  obtain ⟨⟨q95, r95⟩, rfl⟩ := h95
  have P95 := P0.trans q95 (by decide)
  refine ab_iload_n X 2 d_MO_satisfiedMore_98 rfl rfl ?_
  refine ab_bipush (v := 18) X d_MO_satisfiedMore_99 (by decide) ?_
  refine ab_icmp_ne X 176 d_MO_satisfiedMore_101 rfl (fun _ => ?_) (fun hb => absurd hb ((by decide)))
  refine ab_iload_n X 2 d_MO_satisfiedMore_176 rfl rfl ?_
  refine ab_bipush (v := 21) X d_MO_satisfiedMore_177 (by decide) ?_
  refine ab_icmp_ne X 195 d_MO_satisfiedMore_179 rfl (fun _ => ?_) (fun hb => absurd hb ((by decide)))
  refine ab_iload_n X 2 d_MO_satisfiedMore_195 rfl rfl ?_
  refine ab_bipush (v := 22) X d_MO_satisfiedMore_196 (by decide) ?_
  refine ab_icmp_ne X 215 d_MO_satisfiedMore_198 rfl (fun _ => ?_) (fun hb => absurd hb ((by decide)))
  refine ab_iload_n X 2 d_MO_satisfiedMore_215 rfl rfl ?_
  refine ab_bipush (v := 23) X d_MO_satisfiedMore_216 (by decide) ?_
  refine ab_icmp_ne X 234 d_MO_satisfiedMore_218 rfl (fun _ => ?_) (fun hb => absurd hb ((by decide)))
  refine ab_iload_n X 2 d_MO_satisfiedMore_234 rfl rfl ?_
  refine ab_bipush (v := 24) X d_MO_satisfiedMore_235 (by decide) ?_
  refine ab_icmp_ne X 252 d_MO_satisfiedMore_237 rfl (fun _ => ?_) (fun hb => absurd hb ((by decide)))
  exact ab_retv X hr0 hlk d_MO_satisfiedMore_252 ⟨⟨P95, by rw [sv17, ex, ey]; rw [bet_none] at r95; exact r95⟩, rfl⟩
set_option maxRecDepth 100000 in
set_option maxHeartbeats 1000000 in
theorem x_MO_satisfiedMore21 (u : ab_S) (P : Nat) (kd ar cn lf : Nat → Nat) (ch : Nat → Nat → Nat) (W : tW P kd ar cn lf ch) (T : tR P kd ar cn ch u) (p1 : Nat) (hp : p1 < P) (R : Nat → List Nat) (H : Nat → Option (List Nat)) (S : Nat → Nat → Option (List Nat)) (A : mS P S R (p1 + 1) u) (bS : ∀ q, p1 < q → q < P → ∀ j, j < 3 → oB (4 * lf q - 2) (S q j)) (bR : ∀ q, p1 < q → q < P → (R q).length ≤ 2 * lf q - 1 ∧ ∀ x, x ∈ R q → itm x) (x y : Nat) (ex : ch p1 0 = x) (ey : ch p1 1 = y) (x1 : p1 < x) (x2 : x < P) (y1 : p1 < y) (y2 : y < P) (l0 : lf x + lf y ≤ lf p1) (l1 : 1 ≤ lf x) (l2 : 1 ≤ lf y) (B : mBs u none) (h : mR u.2.1) : ab_C false l D ca y_MO_satisfiedMore b_MO_satisfiedMore 6 none 4 ab_nQ u [ab_O 17 0, ab_I (nI p1), ab_I (nI 21), ab_I (nI x), ab_I (nI y)] (fun u' v => (gP [26, 27, 29, 30, 115, 116] u u' ∧ mBs u' (svF kd ar cn ch R H S p1 21)) ∧ v = none) := by
  refine ab_C.of (by decide) (Nat.le_of_ble_eq_true rfl) ?_
  intro p e s m args below meth c ad X hZ hr0 hlk
  have P0 : gP [26, 27, 29, 30, 115, 116] u u := gP.rf h
  obtain ⟨w1, w2, w3⟩ := W
  obtain ⟨l3, l4, -⟩ := (w3 p1 hp).1
  have xA := A x (by omega) x2
  have yA := A y (by omega) y2
  have xB := bS x x1 x2
  have yB := bS y y1 y2
  have xR := bR x x1 x2
  have yR := bR y y1 y2
  refine ab_iload_n X 2 d_MO_satisfiedMore_0 rfl rfl ?_
  refine ab_bipush (v := 13) X d_MO_satisfiedMore_1 (by decide) ?_
  refine ab_icmp_ne X 19 d_MO_satisfiedMore_3 rfl (fun _ => ?_) (fun hb => absurd hb ((by decide)))
  refine ab_iload_n X 2 d_MO_satisfiedMore_19 rfl rfl ?_
  refine ab_bipush (v := 14) X d_MO_satisfiedMore_20 (by decide) ?_
  refine ab_icmp_ne X 38 d_MO_satisfiedMore_22 rfl (fun _ => ?_) (fun hb => absurd hb ((by decide)))
  refine ab_iload_n X 2 d_MO_satisfiedMore_38 rfl rfl ?_
  refine ab_bipush (v := 15) X d_MO_satisfiedMore_39 (by decide) ?_
  refine ab_icmp_ne X 58 d_MO_satisfiedMore_41 rfl (fun _ => ?_) (fun hb => absurd hb ((by decide)))
  refine ab_iload_n X 2 d_MO_satisfiedMore_58 rfl rfl ?_
  refine ab_bipush (v := 16) X d_MO_satisfiedMore_59 (by decide) ?_
  refine ab_icmp_ne X 79 d_MO_satisfiedMore_61 rfl (fun _ => ?_) (fun hb => absurd hb ((by decide)))
  refine ab_iload_n X 2 d_MO_satisfiedMore_79 rfl rfl ?_
  refine ab_bipush (v := 17) X d_MO_satisfiedMore_80 (by decide) ?_
  refine ab_icmp_ne X 98 d_MO_satisfiedMore_82 rfl (fun _ => ?_) (fun hb => absurd hb ((by decide)))
  refine ab_iload_n X 2 d_MO_satisfiedMore_98 rfl rfl ?_
  refine ab_bipush (v := 18) X d_MO_satisfiedMore_99 (by decide) ?_
  refine ab_icmp_ne X 176 d_MO_satisfiedMore_101 rfl (fun _ => ?_) (fun hb => absurd hb ((by decide)))
  refine ab_iload_n X 2 d_MO_satisfiedMore_176 rfl rfl ?_
  refine ab_bipush (v := 21) X d_MO_satisfiedMore_177 (by decide) ?_
  refine ab_icmp_ne X 195 d_MO_satisfiedMore_179 rfl (fun hb => absurd ((by decide)) hb) (fun _ => ?_)
  refine ab_aload_n X 0 d_MO_satisfiedMore_182 rfl rfl ?_
  refine ab_iload_n X 3 d_MO_satisfiedMore_183 rfl rfl ?_
  refine ab_callS (as := [ab_I (nI x)]) X (fun h => by cases h) (t_MO_v u x) ls_MO_201 d_MO_satisfiedMore_184 rfl rfl ⟨by first | exact Nat.le_of_ble_eq_true rfl | (simp only [ab_rm]; omega), by first | exact Nat.le_of_ble_eq_true rfl | (simp only [ab_rm]; omega)⟩ ⟨by first | exact Nat.le_of_ble_eq_true rfl | (simp only [ab_rm]; omega), by first | exact Nat.le_of_ble_eq_true rfl | (simp only [ab_rm]; omega)⟩ (Nat.le_of_ble_eq_true rfl) (fun u184 r184 h184 => ?_)
  obtain ⟨e184, rfl⟩ := h184
  subst u184
  refine ab_iload X 4 d_MO_satisfiedMore_187 rfl ?_
  refine ab_callS (as := [ab_I (nI y)]) X (fun h => by cases h) (t_MO_v u y) ls_MO_201 d_MO_satisfiedMore_189 rfl rfl ⟨by first | exact Nat.le_of_ble_eq_true rfl | (simp only [ab_rm]; omega), by first | exact Nat.le_of_ble_eq_true rfl | (simp only [ab_rm]; omega)⟩ ⟨by first | exact Nat.le_of_ble_eq_true rfl | (simp only [ab_rm]; omega), by first | exact Nat.le_of_ble_eq_true rfl | (simp only [ab_rm]; omega)⟩ (Nat.le_of_ble_eq_true rfl) (fun u189 r189 h189 => ?_)
  obtain ⟨e189, rfl⟩ := h189
  subst u189
  refine ab_callV (as := [ab_I (nI (3 * x + 2)), ab_I (nI (3 * y + 2))]) X (fun h => by cases h) (x_MO_offerBoth u (3 * x + 2) (3 * y + 2) (4 * lf x - 2) (4 * lf y - 2) (S x 2) (S y 2) none B oB.none P0.1 (by omega) (by omega) ((xA.2 2 (by decide)).fo P0) ((yA.2 2 (by decide)).fo P0) (xB 2 (by decide)) (yB 2 (by decide)) (by omega)) lk_MO_279 d_MO_satisfiedMore_192 rfl rfl (by first | assumption | decide | (show _ < 124; omega) | (show _ < 61; omega) | (show _ < 20; omega)) ⟨by first | exact Nat.le_of_ble_eq_true rfl | (simp only [ab_rm]; omega), by first | exact Nat.le_of_ble_eq_true rfl | (simp only [ab_rm]; omega)⟩ ⟨by first | exact Nat.le_of_ble_eq_true rfl | (simp only [ab_rm]; omega), by first | exact Nat.le_of_ble_eq_true rfl | (simp only [ab_rm]; omega)⟩ (Nat.le_of_ble_eq_true rfl) (fun u192 r192 h192 => ?_)
  obtain ⟨⟨q192, r192⟩, rfl⟩ := h192
  have P192 := P0.trans q192 (by decide)
  refine ab_iload_n X 2 d_MO_satisfiedMore_195 rfl rfl ?_
  refine ab_bipush (v := 22) X d_MO_satisfiedMore_196 (by decide) ?_
  refine ab_icmp_ne X 215 d_MO_satisfiedMore_198 rfl (fun _ => ?_) (fun hb => absurd hb ((by decide)))
  refine ab_iload_n X 2 d_MO_satisfiedMore_215 rfl rfl ?_
  refine ab_bipush (v := 23) X d_MO_satisfiedMore_216 (by decide) ?_
  refine ab_icmp_ne X 234 d_MO_satisfiedMore_218 rfl (fun _ => ?_) (fun hb => absurd hb ((by decide)))
  refine ab_iload_n X 2 d_MO_satisfiedMore_234 rfl rfl ?_
  refine ab_bipush (v := 24) X d_MO_satisfiedMore_235 (by decide) ?_
  refine ab_icmp_ne X 252 d_MO_satisfiedMore_237 rfl (fun _ => ?_) (fun hb => absurd hb ((by decide)))
  exact ab_retv X hr0 hlk d_MO_satisfiedMore_252 ⟨⟨P192, by rw [sv21, ex, ey]; rw [bet_none] at r192; exact r192⟩, rfl⟩
set_option maxRecDepth 100000 in
set_option maxHeartbeats 1000000 in
theorem x_MO_satisfiedMore22 (u : ab_S) (P : Nat) (kd ar cn lf : Nat → Nat) (ch : Nat → Nat → Nat) (W : tW P kd ar cn lf ch) (T : tR P kd ar cn ch u) (p1 : Nat) (hp : p1 < P) (R : Nat → List Nat) (H : Nat → Option (List Nat)) (S : Nat → Nat → Option (List Nat)) (A : mS P S R (p1 + 1) u) (bS : ∀ q, p1 < q → q < P → ∀ j, j < 3 → oB (4 * lf q - 2) (S q j)) (bR : ∀ q, p1 < q → q < P → (R q).length ≤ 2 * lf q - 1 ∧ ∀ x, x ∈ R q → itm x) (x y : Nat) (ex : ch p1 0 = x) (ey : ch p1 1 = y) (x1 : p1 < x) (x2 : x < P) (y1 : p1 < y) (y2 : y < P) (l0 : lf x + lf y ≤ lf p1) (l1 : 1 ≤ lf x) (l2 : 1 ≤ lf y) (B : mBs u none) (h : mR u.2.1) : ab_C false l D ca y_MO_satisfiedMore b_MO_satisfiedMore 6 none 4 ab_nQ u [ab_O 17 0, ab_I (nI p1), ab_I (nI 22), ab_I (nI x), ab_I (nI y)] (fun u' v => (gP [26, 27, 29, 30, 115, 116] u u' ∧ mBs u' (svF kd ar cn ch R H S p1 22)) ∧ v = none) := by
  refine ab_C.of (by decide) (Nat.le_of_ble_eq_true rfl) ?_
  intro p e s m args below meth c ad X hZ hr0 hlk
  have P0 : gP [26, 27, 29, 30, 115, 116] u u := gP.rf h
  obtain ⟨w1, w2, w3⟩ := W
  obtain ⟨l3, l4, -⟩ := (w3 p1 hp).1
  have xA := A x (by omega) x2
  have yA := A y (by omega) y2
  have xB := bS x x1 x2
  have yB := bS y y1 y2
  have xR := bR x x1 x2
  have yR := bR y y1 y2
  refine ab_iload_n X 2 d_MO_satisfiedMore_0 rfl rfl ?_
  refine ab_bipush (v := 13) X d_MO_satisfiedMore_1 (by decide) ?_
  refine ab_icmp_ne X 19 d_MO_satisfiedMore_3 rfl (fun _ => ?_) (fun hb => absurd hb ((by decide)))
  refine ab_iload_n X 2 d_MO_satisfiedMore_19 rfl rfl ?_
  refine ab_bipush (v := 14) X d_MO_satisfiedMore_20 (by decide) ?_
  refine ab_icmp_ne X 38 d_MO_satisfiedMore_22 rfl (fun _ => ?_) (fun hb => absurd hb ((by decide)))
  refine ab_iload_n X 2 d_MO_satisfiedMore_38 rfl rfl ?_
  refine ab_bipush (v := 15) X d_MO_satisfiedMore_39 (by decide) ?_
  refine ab_icmp_ne X 58 d_MO_satisfiedMore_41 rfl (fun _ => ?_) (fun hb => absurd hb ((by decide)))
  refine ab_iload_n X 2 d_MO_satisfiedMore_58 rfl rfl ?_
  refine ab_bipush (v := 16) X d_MO_satisfiedMore_59 (by decide) ?_
  refine ab_icmp_ne X 79 d_MO_satisfiedMore_61 rfl (fun _ => ?_) (fun hb => absurd hb ((by decide)))
  refine ab_iload_n X 2 d_MO_satisfiedMore_79 rfl rfl ?_
  refine ab_bipush (v := 17) X d_MO_satisfiedMore_80 (by decide) ?_
  refine ab_icmp_ne X 98 d_MO_satisfiedMore_82 rfl (fun _ => ?_) (fun hb => absurd hb ((by decide)))
  refine ab_iload_n X 2 d_MO_satisfiedMore_98 rfl rfl ?_
  refine ab_bipush (v := 18) X d_MO_satisfiedMore_99 (by decide) ?_
  refine ab_icmp_ne X 176 d_MO_satisfiedMore_101 rfl (fun _ => ?_) (fun hb => absurd hb ((by decide)))
  refine ab_iload_n X 2 d_MO_satisfiedMore_176 rfl rfl ?_
  refine ab_bipush (v := 21) X d_MO_satisfiedMore_177 (by decide) ?_
  refine ab_icmp_ne X 195 d_MO_satisfiedMore_179 rfl (fun _ => ?_) (fun hb => absurd hb ((by decide)))
  refine ab_iload_n X 2 d_MO_satisfiedMore_195 rfl rfl ?_
  refine ab_bipush (v := 22) X d_MO_satisfiedMore_196 (by decide) ?_
  refine ab_icmp_ne X 215 d_MO_satisfiedMore_198 rfl (fun hb => absurd ((by decide)) hb) (fun _ => ?_)
  refine ab_aload_n X 0 d_MO_satisfiedMore_201 rfl rfl ?_
  refine ab_iload_n X 3 d_MO_satisfiedMore_202 rfl rfl ?_
  refine ab_callS (as := [ab_I (nI x)]) X (fun h => by cases h) (t_MO_d u x) ls_MO_195 d_MO_satisfiedMore_203 rfl rfl ⟨by first | exact Nat.le_of_ble_eq_true rfl | (simp only [ab_rm]; omega), by first | exact Nat.le_of_ble_eq_true rfl | (simp only [ab_rm]; omega)⟩ ⟨by first | exact Nat.le_of_ble_eq_true rfl | (simp only [ab_rm]; omega), by first | exact Nat.le_of_ble_eq_true rfl | (simp only [ab_rm]; omega)⟩ (Nat.le_of_ble_eq_true rfl) (fun u203 r203 h203 => ?_)
  obtain ⟨e203, rfl⟩ := h203
  subst u203
  refine ab_iload_n X 3 d_MO_satisfiedMore_206 rfl rfl ?_
  refine ab_iload X 4 d_MO_satisfiedMore_207 rfl ?_
  refine ab_callS (as := [ab_I (nI y)]) X (fun h => by cases h) (t_MO_v u y) ls_MO_201 d_MO_satisfiedMore_209 rfl rfl ⟨by first | exact Nat.le_of_ble_eq_true rfl | (simp only [ab_rm]; omega), by first | exact Nat.le_of_ble_eq_true rfl | (simp only [ab_rm]; omega)⟩ ⟨by first | exact Nat.le_of_ble_eq_true rfl | (simp only [ab_rm]; omega), by first | exact Nat.le_of_ble_eq_true rfl | (simp only [ab_rm]; omega)⟩ (Nat.le_of_ble_eq_true rfl) (fun u209 r209 h209 => ?_)
  obtain ⟨e209, rfl⟩ := h209
  subst u209
  refine ab_callV (as := [ab_I (nI (3 * x + 1)), ab_I (nI x), ab_I (nI (3 * y + 2))]) X (fun h => by cases h) (x_MO_offerEither u (3 * x + 1) x (3 * y + 2) (4 * lf x - 2) (4 * lf y - 2) (S x 1) (S y 2) (R x) none B oB.none P0.1 (by omega) (by omega) (by omega) ((xA.2 1 (by decide)).fo P0) (xA.1.fo P0) ((yA.2 2 (by decide)).fo P0) (xB 1 (by decide)) (yB 2 (by decide)) xR.2 (by omega) (by omega)) lk_MO_282 d_MO_satisfiedMore_212 rfl rfl (by first | assumption | decide | (show _ < 124; omega) | (show _ < 61; omega) | (show _ < 20; omega)) ⟨by first | exact Nat.le_of_ble_eq_true rfl | (simp only [ab_rm]; omega), by first | exact Nat.le_of_ble_eq_true rfl | (simp only [ab_rm]; omega)⟩ ⟨by first | exact Nat.le_of_ble_eq_true rfl | (simp only [ab_rm]; omega), by first | exact Nat.le_of_ble_eq_true rfl | (simp only [ab_rm]; omega)⟩ (Nat.le_of_ble_eq_true rfl) (fun u212 r212 h212 => ?_)
  obtain ⟨⟨q212, r212⟩, rfl⟩ := h212
  have P212 := P0.trans q212 (by decide)
  refine ab_iload_n X 2 d_MO_satisfiedMore_215 rfl rfl ?_
  refine ab_bipush (v := 23) X d_MO_satisfiedMore_216 (by decide) ?_
  refine ab_icmp_ne X 234 d_MO_satisfiedMore_218 rfl (fun _ => ?_) (fun hb => absurd hb ((by decide)))
  refine ab_iload_n X 2 d_MO_satisfiedMore_234 rfl rfl ?_
  refine ab_bipush (v := 24) X d_MO_satisfiedMore_235 (by decide) ?_
  refine ab_icmp_ne X 252 d_MO_satisfiedMore_237 rfl (fun _ => ?_) (fun hb => absurd hb ((by decide)))
  exact ab_retv X hr0 hlk d_MO_satisfiedMore_252 ⟨⟨P212, by rw [sv22, ex, ey]; rw [bet_none] at r212; exact r212⟩, rfl⟩
set_option maxRecDepth 100000 in
set_option maxHeartbeats 1000000 in
theorem x_MO_satisfiedMore23 (u : ab_S) (P : Nat) (kd ar cn lf : Nat → Nat) (ch : Nat → Nat → Nat) (W : tW P kd ar cn lf ch) (T : tR P kd ar cn ch u) (p1 : Nat) (hp : p1 < P) (R : Nat → List Nat) (H : Nat → Option (List Nat)) (S : Nat → Nat → Option (List Nat)) (A : mS P S R (p1 + 1) u) (bS : ∀ q, p1 < q → q < P → ∀ j, j < 3 → oB (4 * lf q - 2) (S q j)) (bR : ∀ q, p1 < q → q < P → (R q).length ≤ 2 * lf q - 1 ∧ ∀ x, x ∈ R q → itm x) (x y : Nat) (ex : ch p1 0 = x) (ey : ch p1 1 = y) (x1 : p1 < x) (x2 : x < P) (y1 : p1 < y) (y2 : y < P) (l0 : lf x + lf y ≤ lf p1) (l1 : 1 ≤ lf x) (l2 : 1 ≤ lf y) (B : mBs u none) (h : mR u.2.1) : ab_C false l D ca y_MO_satisfiedMore b_MO_satisfiedMore 6 none 4 ab_nQ u [ab_O 17 0, ab_I (nI p1), ab_I (nI 23), ab_I (nI x), ab_I (nI y)] (fun u' v => (gP [26, 27, 29, 30, 115, 116] u u' ∧ mBs u' (svF kd ar cn ch R H S p1 23)) ∧ v = none) := by
  refine ab_C.of (by decide) (Nat.le_of_ble_eq_true rfl) ?_
  intro p e s m args below meth c ad X hZ hr0 hlk
  have P0 : gP [26, 27, 29, 30, 115, 116] u u := gP.rf h
  obtain ⟨w1, w2, w3⟩ := W
  obtain ⟨l3, l4, -⟩ := (w3 p1 hp).1
  have xA := A x (by omega) x2
  have yA := A y (by omega) y2
  have xB := bS x x1 x2
  have yB := bS y y1 y2
  have xR := bR x x1 x2
  have yR := bR y y1 y2
  refine ab_iload_n X 2 d_MO_satisfiedMore_0 rfl rfl ?_
  refine ab_bipush (v := 13) X d_MO_satisfiedMore_1 (by decide) ?_
  refine ab_icmp_ne X 19 d_MO_satisfiedMore_3 rfl (fun _ => ?_) (fun hb => absurd hb ((by decide)))
  refine ab_iload_n X 2 d_MO_satisfiedMore_19 rfl rfl ?_
  refine ab_bipush (v := 14) X d_MO_satisfiedMore_20 (by decide) ?_
  refine ab_icmp_ne X 38 d_MO_satisfiedMore_22 rfl (fun _ => ?_) (fun hb => absurd hb ((by decide)))
  refine ab_iload_n X 2 d_MO_satisfiedMore_38 rfl rfl ?_
  refine ab_bipush (v := 15) X d_MO_satisfiedMore_39 (by decide) ?_
  refine ab_icmp_ne X 58 d_MO_satisfiedMore_41 rfl (fun _ => ?_) (fun hb => absurd hb ((by decide)))
  refine ab_iload_n X 2 d_MO_satisfiedMore_58 rfl rfl ?_
  refine ab_bipush (v := 16) X d_MO_satisfiedMore_59 (by decide) ?_
  refine ab_icmp_ne X 79 d_MO_satisfiedMore_61 rfl (fun _ => ?_) (fun hb => absurd hb ((by decide)))
  refine ab_iload_n X 2 d_MO_satisfiedMore_79 rfl rfl ?_
  refine ab_bipush (v := 17) X d_MO_satisfiedMore_80 (by decide) ?_
  refine ab_icmp_ne X 98 d_MO_satisfiedMore_82 rfl (fun _ => ?_) (fun hb => absurd hb ((by decide)))
  refine ab_iload_n X 2 d_MO_satisfiedMore_98 rfl rfl ?_
  refine ab_bipush (v := 18) X d_MO_satisfiedMore_99 (by decide) ?_
  refine ab_icmp_ne X 176 d_MO_satisfiedMore_101 rfl (fun _ => ?_) (fun hb => absurd hb ((by decide)))
  refine ab_iload_n X 2 d_MO_satisfiedMore_176 rfl rfl ?_
  refine ab_bipush (v := 21) X d_MO_satisfiedMore_177 (by decide) ?_
  refine ab_icmp_ne X 195 d_MO_satisfiedMore_179 rfl (fun _ => ?_) (fun hb => absurd hb ((by decide)))
  refine ab_iload_n X 2 d_MO_satisfiedMore_195 rfl rfl ?_
  refine ab_bipush (v := 22) X d_MO_satisfiedMore_196 (by decide) ?_
  refine ab_icmp_ne X 215 d_MO_satisfiedMore_198 rfl (fun _ => ?_) (fun hb => absurd hb ((by decide)))
  refine ab_iload_n X 2 d_MO_satisfiedMore_215 rfl rfl ?_
  refine ab_bipush (v := 23) X d_MO_satisfiedMore_216 (by decide) ?_
  refine ab_icmp_ne X 234 d_MO_satisfiedMore_218 rfl (fun hb => absurd ((by decide)) hb) (fun _ => ?_)
  refine ab_aload_n X 0 d_MO_satisfiedMore_221 rfl rfl ?_
  refine ab_iload_n X 3 d_MO_satisfiedMore_222 rfl rfl ?_
  refine ab_callS (as := [ab_I (nI x)]) X (fun h => by cases h) (t_MO_v u x) ls_MO_201 d_MO_satisfiedMore_223 rfl rfl ⟨by first | exact Nat.le_of_ble_eq_true rfl | (simp only [ab_rm]; omega), by first | exact Nat.le_of_ble_eq_true rfl | (simp only [ab_rm]; omega)⟩ ⟨by first | exact Nat.le_of_ble_eq_true rfl | (simp only [ab_rm]; omega), by first | exact Nat.le_of_ble_eq_true rfl | (simp only [ab_rm]; omega)⟩ (Nat.le_of_ble_eq_true rfl) (fun u223 r223 h223 => ?_)
  obtain ⟨e223, rfl⟩ := h223
  subst u223
  refine ab_iload X 4 d_MO_satisfiedMore_226 rfl ?_
  refine ab_callS (as := [ab_I (nI y)]) X (fun h => by cases h) (t_MO_v u y) ls_MO_201 d_MO_satisfiedMore_228 rfl rfl ⟨by first | exact Nat.le_of_ble_eq_true rfl | (simp only [ab_rm]; omega), by first | exact Nat.le_of_ble_eq_true rfl | (simp only [ab_rm]; omega)⟩ ⟨by first | exact Nat.le_of_ble_eq_true rfl | (simp only [ab_rm]; omega), by first | exact Nat.le_of_ble_eq_true rfl | (simp only [ab_rm]; omega)⟩ (Nat.le_of_ble_eq_true rfl) (fun u228 r228 h228 => ?_)
  obtain ⟨e228, rfl⟩ := h228
  subst u228
  refine ab_callV (as := [ab_I (nI (3 * x + 2)), ab_I (nI (3 * y + 2))]) X (fun h => by cases h) (x_MO_offerChoice u (3 * x + 2) (3 * y + 2) (4 * lf x - 2) (4 * lf y - 2) (S x 2) (S y 2) none B oB.none P0.1 (by omega) (by omega) ((xA.2 2 (by decide)).fo P0) ((yA.2 2 (by decide)).fo P0) (xB 2 (by decide)) (yB 2 (by decide)) (by omega) (by omega)) lk_MO_285 d_MO_satisfiedMore_231 rfl rfl (by first | assumption | decide | (show _ < 124; omega) | (show _ < 61; omega) | (show _ < 20; omega)) ⟨by first | exact Nat.le_of_ble_eq_true rfl | (simp only [ab_rm]; omega), by first | exact Nat.le_of_ble_eq_true rfl | (simp only [ab_rm]; omega)⟩ ⟨by first | exact Nat.le_of_ble_eq_true rfl | (simp only [ab_rm]; omega), by first | exact Nat.le_of_ble_eq_true rfl | (simp only [ab_rm]; omega)⟩ (Nat.le_of_ble_eq_true rfl) (fun u231 r231 h231 => ?_)
  obtain ⟨⟨q231, r231⟩, rfl⟩ := h231
  have P231 := P0.trans q231 (by decide)
  refine ab_iload_n X 2 d_MO_satisfiedMore_234 rfl rfl ?_
  refine ab_bipush (v := 24) X d_MO_satisfiedMore_235 (by decide) ?_
  refine ab_icmp_ne X 252 d_MO_satisfiedMore_237 rfl (fun _ => ?_) (fun hb => absurd hb ((by decide)))
  exact ab_retv X hr0 hlk d_MO_satisfiedMore_252 ⟨⟨P231, by rw [sv23, ex, ey]; rw [bet_none] at r231; exact r231⟩, rfl⟩
set_option maxRecDepth 100000 in
set_option maxHeartbeats 1000000 in
theorem x_MO_satisfiedMore24 (u : ab_S) (P : Nat) (kd ar cn lf : Nat → Nat) (ch : Nat → Nat → Nat) (W : tW P kd ar cn lf ch) (T : tR P kd ar cn ch u) (p1 : Nat) (hp : p1 < P) (R : Nat → List Nat) (H : Nat → Option (List Nat)) (S : Nat → Nat → Option (List Nat)) (a b : Int32) (sB : ms u (3 * p1) (S p1 0)) (oS : oB (4 * lf p1 - 3) (S p1 0)) (A1 : mr u 0 0 (some [])) (B : mBs u none) (h : mR u.2.1) : ab_C false l D ca y_MO_satisfiedMore b_MO_satisfiedMore 6 none 4 ab_nQ u [ab_O 17 0, ab_I (nI p1), ab_I (nI 24), ab_I a, ab_I b] (fun u' v => (gP [26, 27, 29, 30, 115, 116] u u' ∧ mBs u' (svF kd ar cn ch R H S p1 24)) ∧ v = none) := by
  refine ab_C.of (by decide) (Nat.le_of_ble_eq_true rfl) ?_
  intro p e s m args below meth c ad X hZ hr0 hlk
  have P0 : gP [26, 27, 29, 30, 115, 116] u u := gP.rf h
  obtain ⟨w1, w2, w3⟩ := W
  obtain ⟨l3, l4, -⟩ := (w3 p1 hp).1
  refine ab_iload_n X 2 d_MO_satisfiedMore_0 rfl rfl ?_
  refine ab_bipush (v := 13) X d_MO_satisfiedMore_1 (by decide) ?_
  refine ab_icmp_ne X 19 d_MO_satisfiedMore_3 rfl (fun _ => ?_) (fun hb => absurd hb ((by decide)))
  refine ab_iload_n X 2 d_MO_satisfiedMore_19 rfl rfl ?_
  refine ab_bipush (v := 14) X d_MO_satisfiedMore_20 (by decide) ?_
  refine ab_icmp_ne X 38 d_MO_satisfiedMore_22 rfl (fun _ => ?_) (fun hb => absurd hb ((by decide)))
  refine ab_iload_n X 2 d_MO_satisfiedMore_38 rfl rfl ?_
  refine ab_bipush (v := 15) X d_MO_satisfiedMore_39 (by decide) ?_
  refine ab_icmp_ne X 58 d_MO_satisfiedMore_41 rfl (fun _ => ?_) (fun hb => absurd hb ((by decide)))
  refine ab_iload_n X 2 d_MO_satisfiedMore_58 rfl rfl ?_
  refine ab_bipush (v := 16) X d_MO_satisfiedMore_59 (by decide) ?_
  refine ab_icmp_ne X 79 d_MO_satisfiedMore_61 rfl (fun _ => ?_) (fun hb => absurd hb ((by decide)))
  refine ab_iload_n X 2 d_MO_satisfiedMore_79 rfl rfl ?_
  refine ab_bipush (v := 17) X d_MO_satisfiedMore_80 (by decide) ?_
  refine ab_icmp_ne X 98 d_MO_satisfiedMore_82 rfl (fun _ => ?_) (fun hb => absurd hb ((by decide)))
  refine ab_iload_n X 2 d_MO_satisfiedMore_98 rfl rfl ?_
  refine ab_bipush (v := 18) X d_MO_satisfiedMore_99 (by decide) ?_
  refine ab_icmp_ne X 176 d_MO_satisfiedMore_101 rfl (fun _ => ?_) (fun hb => absurd hb ((by decide)))
  refine ab_iload_n X 2 d_MO_satisfiedMore_176 rfl rfl ?_
  refine ab_bipush (v := 21) X d_MO_satisfiedMore_177 (by decide) ?_
  refine ab_icmp_ne X 195 d_MO_satisfiedMore_179 rfl (fun _ => ?_) (fun hb => absurd hb ((by decide)))
  refine ab_iload_n X 2 d_MO_satisfiedMore_195 rfl rfl ?_
  refine ab_bipush (v := 22) X d_MO_satisfiedMore_196 (by decide) ?_
  refine ab_icmp_ne X 215 d_MO_satisfiedMore_198 rfl (fun _ => ?_) (fun hb => absurd hb ((by decide)))
  refine ab_iload_n X 2 d_MO_satisfiedMore_215 rfl rfl ?_
  refine ab_bipush (v := 23) X d_MO_satisfiedMore_216 (by decide) ?_
  refine ab_icmp_ne X 234 d_MO_satisfiedMore_218 rfl (fun _ => ?_) (fun hb => absurd hb ((by decide)))
  refine ab_iload_n X 2 d_MO_satisfiedMore_234 rfl rfl ?_
  refine ab_bipush (v := 24) X d_MO_satisfiedMore_235 (by decide) ?_
  refine ab_icmp_ne X 252 d_MO_satisfiedMore_237 rfl (fun hb => absurd ((by decide)) hb) (fun _ => ?_)
  refine ab_aload_n X 0 d_MO_satisfiedMore_240 rfl rfl ?_
  refine ab_iload_n X 1 d_MO_satisfiedMore_241 rfl rfl ?_
  refine ab_callS (as := [ab_I (nI p1)]) X (fun h => by cases h) (t_MO_b u p1) ls_MO_204 d_MO_satisfiedMore_242 rfl rfl ⟨by first | exact Nat.le_of_ble_eq_true rfl | (simp only [ab_rm]; omega), by first | exact Nat.le_of_ble_eq_true rfl | (simp only [ab_rm]; omega)⟩ ⟨by first | exact Nat.le_of_ble_eq_true rfl | (simp only [ab_rm]; omega), by first | exact Nat.le_of_ble_eq_true rfl | (simp only [ab_rm]; omega)⟩ (Nat.le_of_ble_eq_true rfl) (fun u242 r242 h242 => ?_)
  obtain ⟨e242, rfl⟩ := h242
  subst u242
  refine ab_callV (as := [ab_I (nI (3 * p1))]) X (fun h => by cases h) (x_MO_yes u (3 * p1) 0 0 (4 * lf p1 - 3) (some []) (S p1 0) h A1 sB oS (by omega) (by omega) (by omega) (by decide)) lk_MO_270 d_MO_satisfiedMore_245 rfl rfl (by first | assumption | decide | (show _ < 124; omega) | (show _ < 61; omega) | (show _ < 20; omega)) ⟨by first | exact Nat.le_of_ble_eq_true rfl | (simp only [ab_rm]; omega), by first | exact Nat.le_of_ble_eq_true rfl | (simp only [ab_rm]; omega)⟩ ⟨by first | exact Nat.le_of_ble_eq_true rfl | (simp only [ab_rm]; omega), by first | exact Nat.le_of_ble_eq_true rfl | (simp only [ab_rm]; omega)⟩ (Nat.le_of_ble_eq_true rfl) (fun u245 r245 h245 => ?_)
  obtain ⟨⟨q245, r245⟩, rfl⟩ := h245
  have P245 := P0.trans q245 (by decide)
  rw [jn_nil] at r245
  refine ab_aload_n X 0 d_MO_satisfiedMore_248 rfl rfl ?_
  refine ab_callV (as := []) X (fun h => by cases h) (x_MO_offer u245 _ _ (S p1 0) none P245.1 r245 (B.fr3 q245) (oS.wk (by omega)) oB.none (by omega) (by decide)) lk_MO_273 d_MO_satisfiedMore_249 rfl rfl (by first | assumption | decide | (show _ < 124; omega) | (show _ < 61; omega) | (show _ < 20; omega)) ⟨by first | exact Nat.le_of_ble_eq_true rfl | (simp only [ab_rm]; omega), by first | exact Nat.le_of_ble_eq_true rfl | (simp only [ab_rm]; omega)⟩ ⟨by first | exact Nat.le_of_ble_eq_true rfl | (simp only [ab_rm]; omega), by first | exact Nat.le_of_ble_eq_true rfl | (simp only [ab_rm]; omega)⟩ (Nat.le_of_ble_eq_true rfl) (fun u249 r249 h249 => ?_)
  obtain ⟨⟨q249, r249⟩, rfl⟩ := h249
  have P249 := P245.trans q249 (by decide)
  exact ab_retv X hr0 hlk d_MO_satisfiedMore_252 ⟨⟨P249, by rw [sv24]; rw [bet_none] at r249; exact r249⟩, rfl⟩
set_option maxRecDepth 100000 in
set_option maxHeartbeats 1000000 in
theorem x_MO_satisfiedMore18 (u : ab_S) (P : Nat) (kd ar cn lf : Nat → Nat) (ch : Nat → Nat → Nat) (W : tW P kd ar cn lf ch) (T : tR P kd ar cn ch u) (p1 : Nat) (hp : p1 < P) (hk : kd p1 = 7) (R : Nat → List Nat) (H : Nat → Option (List Nat)) (S : Nat → Nat → Option (List Nat)) (A : mS P S R (p1 + 1) u) (bS : ∀ q, p1 < q → q < P → ∀ j, j < 3 → oB (4 * lf q - 2) (S q j)) (bR : ∀ q, p1 < q → q < P → (R q).length ≤ 2 * lf q - 1 ∧ ∀ x, x ∈ R q → itm x) (a b : Int32) (A1 : mr u 0 0 (some [])) (B : mBs u none) (h : mR u.2.1) : ab_C false l D ca y_MO_satisfiedMore b_MO_satisfiedMore 6 none 4 ab_nQ u [ab_O 17 0, ab_I (nI p1), ab_I (nI 18), ab_I a, ab_I b] (fun u' v => (gP [26, 27, 29, 30, 115, 116] u u' ∧ mBs u' (svF kd ar cn ch R H S p1 18)) ∧ v = none) := by
  refine ab_C.of (by decide) (Nat.le_of_ble_eq_true rfl) ?_
  intro p e s m args below meth c ad X hZ hr0 hlk
  have P0 : gP [26, 27, 29, 30, 115, 116] u u := gP.rf h
  obtain ⟨w1, w2, w3⟩ := W
  obtain ⟨⟨-, l10, -⟩, -, a3⟩ := w3 p1 hp
  obtain ⟨n2, n4, -, -, b5, b6⟩ := a3 (by omega)
  obtain ⟨-, ea, ec, ech⟩ := T.2 p1 hp
  have hB := sm_lf (fun i => lf (ch p1 i)) (cn p1) (fun i hi => (w3 _ (b5 i hi).2).1.1)
  have loop : ∀ (k j : Nat) (u2 : ab_S), k + j = cn p1 → gP [26, 27, 115] u u2 → mr u2 (sm (fun i => 4 * lf (ch p1 i) - 2) j) j (jall (fun i => S (ch p1 i) (if i + 1 < cn p1 then 2 else 0)) j) → oB (sm (fun i => 4 * lf (ch p1 i) - 2) j) (jall (fun i => S (ch p1 i) (if i + 1 < cn p1 then 2 else 0)) j) → ab_J p l e (ab_rm 4 0 0) s m args below meth c (MQ below (ab_Q D ca ad ab_nQ s.heap.size (fun u' v => (gP [26, 27, 29, 30, 115, 116] u u' ∧ mBs u' (svF kd ar cn ch R H S p1 18)) ∧ v = none)) args s 0 0 (ab_A ad ab_nQ s.heap.size)) D ca (ab_A ad ab_nQ s.heap.size) s.heap 6 0 0 ad ab_nQ u2 107 [(5, ab_I (nI j)), (0, ab_O 17 0), (1, ab_I (nI p1)), (2, ab_I (nI 18)), (3, ab_I a), (4, ab_I b)] [] := by
    intro k
    induction k with
    | zero =>
      intro j u2 hj Q2 r2 o2
      obtain rfl : j = cn p1 := by omega
      have P2 : gP [26, 27, 29, 30, 115, 116] u u2 := Q2.wk (by decide)
      refine ab_iload X 0 d_MO_satisfiedMore_107 rfl ?_
      refine ab_aload_n X 1 d_MO_satisfiedMore_109 rfl rfl ?_
      refine ab_gR X fl_MO_39 d_MO_satisfiedMore_110 (by first | assumption | decide | (show _ < 124; omega) | (show _ < 61; omega) | (show _ < 20; omega)) (P2.1.mo9) ?_
      refine ab_iload_n X 2 d_MO_satisfiedMore_113 rfl rfl ?_
      refine ab_iald X (p1) ⟨rfl, rfl⟩ d_MO_satisfiedMore_114 (by first | assumption | decide | (show _ < 124; omega) | (show _ < 61; omega) | (show _ < 20; omega)) (rfl) (show p1 < 40 by omega) (ab_ln_lt _ _) ?_
      refine ab_top (P2.ai (by decide) ec) ?_
      refine ab_icmp_ge X 172 d_MO_satisfiedMore_115 rfl (fun _ => ?_) (fun hb => absurd ((nI_le (by omega) (by omega))) hb)
      refine ab_aload_n X 1 d_MO_satisfiedMore_172 rfl rfl ?_
      refine ab_callV (as := []) X (fun h => by cases h) (x_MO_offer u2 _ (cn p1) _ none P2.1 r2 (B.fr3 Q2) (o2.wk (by omega)) oB.none (by omega) (by omega)) lk_MO_273 d_MO_satisfiedMore_173 rfl rfl (by first | assumption | decide | (show _ < 124; omega) | (show _ < 61; omega) | (show _ < 20; omega)) ⟨by first | exact Nat.le_of_ble_eq_true rfl | (simp only [ab_rm]; omega), by first | exact Nat.le_of_ble_eq_true rfl | (simp only [ab_rm]; omega)⟩ ⟨by first | exact Nat.le_of_ble_eq_true rfl | (simp only [ab_rm]; omega), by first | exact Nat.le_of_ble_eq_true rfl | (simp only [ab_rm]; omega)⟩ (Nat.le_of_ble_eq_true rfl) (fun u173 r173 h173 => ?_)
      obtain ⟨⟨q173, r173⟩, rfl⟩ := h173
      have P173 := P2.trans q173 (by decide)
      refine ab_iload_n X 3 d_MO_satisfiedMore_176 rfl rfl ?_
      refine ab_bipush (v := 21) X d_MO_satisfiedMore_177 (by decide) ?_
      refine ab_icmp_ne X 195 d_MO_satisfiedMore_179 rfl (fun _ => ?_) (fun hb => absurd hb ((by decide)))
      refine ab_iload_n X 3 d_MO_satisfiedMore_195 rfl rfl ?_
      refine ab_bipush (v := 22) X d_MO_satisfiedMore_196 (by decide) ?_
      refine ab_icmp_ne X 215 d_MO_satisfiedMore_198 rfl (fun _ => ?_) (fun hb => absurd hb ((by decide)))
      refine ab_iload_n X 3 d_MO_satisfiedMore_215 rfl rfl ?_
      refine ab_bipush (v := 23) X d_MO_satisfiedMore_216 (by decide) ?_
      refine ab_icmp_ne X 234 d_MO_satisfiedMore_218 rfl (fun _ => ?_) (fun hb => absurd hb ((by decide)))
      refine ab_iload_n X 3 d_MO_satisfiedMore_234 rfl rfl ?_
      refine ab_bipush (v := 24) X d_MO_satisfiedMore_235 (by decide) ?_
      refine ab_icmp_ne X 252 d_MO_satisfiedMore_237 rfl (fun _ => ?_) (fun hb => absurd hb ((by decide)))
      exact ab_retv X hr0 hlk d_MO_satisfiedMore_252 ⟨⟨P173, by rw [sv18 n4]; rw [bet_none] at r173; exact r173⟩, rfl⟩
    | succ k ih2 =>
      intro j u2 hj Q2 r2 o2
      have P2 : gP [26, 27, 29, 30, 115, 116] u u2 := Q2.wk (by decide)
      have hj1 : j < cn p1 := by omega
      obtain ⟨c1', c2⟩ := b5 j hj1
      have zA := A (ch p1 j) (by omega) c2
      have zB := bS (ch p1 j) c1' c2
      have l1 := (w3 _ c2).1.1
      have hs : sm (fun i => 4 * lf (ch p1 i) - 2) (j + 1) = sm (fun i => 4 * lf (ch p1 i) - 2) j + (4 * lf (ch p1 j) - 2) := rfl
      have hs2 := sm_mono (fun i => 4 * lf (ch p1 i) - 2) (show j + 1 ≤ cn p1 by omega)
      by_cases last : j + 1 < cn p1
      · have st : jall (fun i => S (ch p1 i) (if i + 1 < cn p1 then 2 else 0)) (j + 1) = jn (jall (fun i => S (ch p1 i) (if i + 1 < cn p1 then 2 else 0)) j) (S (ch p1 j) 2) := by show jn _ (S (ch p1 j) (if j + 1 < cn p1 then 2 else 0)) = _; rw [if_pos last]
        refine ab_iload X 0 d_MO_satisfiedMore_107 rfl ?_
        refine ab_aload_n X 1 d_MO_satisfiedMore_109 rfl rfl ?_
        refine ab_gR X fl_MO_39 d_MO_satisfiedMore_110 (by first | assumption | decide | (show _ < 124; omega) | (show _ < 61; omega) | (show _ < 20; omega)) (Q2.1.mo9) ?_
        refine ab_iload_n X 2 d_MO_satisfiedMore_113 rfl rfl ?_
        refine ab_iald X (p1) ⟨rfl, rfl⟩ d_MO_satisfiedMore_114 (by first | assumption | decide | (show _ < 124; omega) | (show _ < 61; omega) | (show _ < 20; omega)) (rfl) (show p1 < 40 by omega) (ab_ln_lt _ _) ?_
        refine ab_top (P2.ai (by decide) ec) ?_
        refine ab_icmp_ge X 172 d_MO_satisfiedMore_115 rfl (fun hb => absurd hb ((nI_ge (by omega) (by omega)))) (fun _ => ?_)
        refine ab_aload_n X 1 d_MO_satisfiedMore_118 rfl rfl ?_
        refine ab_iload X 0 d_MO_satisfiedMore_119 rfl ?_
        refine ab_iconst (v := 1) X d_MO_satisfiedMore_121 (by decide) ?_
        refine ab_iadd X d_MO_satisfiedMore_122 ?_
        refine ab_top (nI_1 _) ?_
        refine ab_aload_n X 1 d_MO_satisfiedMore_123 rfl rfl ?_
        refine ab_gR X fl_MO_39 d_MO_satisfiedMore_124 (by first | assumption | decide | (show _ < 124; omega) | (show _ < 61; omega) | (show _ < 20; omega)) (Q2.1.mo9) ?_
        refine ab_iload_n X 2 d_MO_satisfiedMore_127 rfl rfl ?_
        refine ab_iald X (p1) ⟨rfl, rfl⟩ d_MO_satisfiedMore_128 (by first | assumption | decide | (show _ < 124; omega) | (show _ < 61; omega) | (show _ < 20; omega)) (rfl) (show p1 < 40 by omega) (ab_ln_lt _ _) ?_
        refine ab_top (P2.ai (by decide) ec) ?_
        refine ab_icmp_ge X 149 d_MO_satisfiedMore_129 rfl (fun hb => absurd hb ((nI_ge (by omega) (by omega)))) (fun _ => ?_)
        refine ab_aload_n X 1 d_MO_satisfiedMore_132 rfl rfl ?_
        refine ab_gR X fl_MO_42 d_MO_satisfiedMore_133 (by first | assumption | decide | (show _ < 124; omega) | (show _ < 61; omega) | (show _ < 20; omega)) (Q2.1.mo10) ?_
        refine ab_iconst (v := 4) X d_MO_satisfiedMore_136 (by decide) ?_
        refine ab_iload_n X 2 d_MO_satisfiedMore_137 rfl rfl ?_
        refine ab_imul X d_MO_satisfiedMore_138 ?_
        refine ab_iload X 0 d_MO_satisfiedMore_139 rfl ?_
        refine ab_iadd X d_MO_satisfiedMore_141 ?_
        refine ab_iald X (4 * p1 + j) ⟨rfl, rfl⟩ d_MO_satisfiedMore_142 (by first | assumption | decide | (show _ < 124; omega) | (show _ < 61; omega) | (show _ < 20; omega)) (nI_4a p1 j) (show 4 * p1 + j < 160 by omega) (ab_ln_lt _ _) ?_
        refine ab_top (P2.ai (by decide) (ech j hj1)) ?_
        refine ab_callS (as := [ab_I (nI (ch p1 j))]) X (fun h => by cases h) (t_MO_v u2 (ch p1 j)) ls_MO_201 d_MO_satisfiedMore_143 rfl rfl ⟨by first | exact Nat.le_of_ble_eq_true rfl | (simp only [ab_rm]; omega), by first | exact Nat.le_of_ble_eq_true rfl | (simp only [ab_rm]; omega)⟩ ⟨by first | exact Nat.le_of_ble_eq_true rfl | (simp only [ab_rm]; omega), by first | exact Nat.le_of_ble_eq_true rfl | (simp only [ab_rm]; omega)⟩ (Nat.le_of_ble_eq_true rfl) (fun u143 r143 h143 => ?_)
        obtain ⟨e143, rfl⟩ := h143
        subst u143
        refine ab_goto X 163 d_MO_satisfiedMore_146 rfl ?_
        refine ab_callV (as := [ab_I (nI (3 * ch p1 j + 2))]) X (fun h => by cases h) (x_MO_yes u2 (3 * ch p1 j + 2) _ j (4 * lf (ch p1 j) - 2) _ (S (ch p1 j) 2) P2.1 r2 ((zA.2 2 (by decide)).fo P2) (zB 2 (by decide)) (by omega) (by omega) (by omega) (by omega)) lk_MO_270 d_MO_satisfiedMore_163 rfl rfl (by first | assumption | decide | (show _ < 124; omega) | (show _ < 61; omega) | (show _ < 20; omega)) ⟨by first | exact Nat.le_of_ble_eq_true rfl | (simp only [ab_rm]; omega), by first | exact Nat.le_of_ble_eq_true rfl | (simp only [ab_rm]; omega)⟩ ⟨by first | exact Nat.le_of_ble_eq_true rfl | (simp only [ab_rm]; omega), by first | exact Nat.le_of_ble_eq_true rfl | (simp only [ab_rm]; omega)⟩ (Nat.le_of_ble_eq_true rfl) (fun u163 r163 h163 => ?_)
        obtain ⟨⟨q163, r163⟩, rfl⟩ := h163
        have P163 := Q2.trans q163 (by decide)
        refine ab_iinc5 X 0 1 2 3 4 5 d_MO_satisfiedMore_166 rfl (by decide) rfl rfl rfl rfl rfl rfl rfl rfl rfl rfl ?_
        refine ab_goto X 107 d_MO_satisfiedMore_169 rfl ?_
        rw [show nI j + Int32.ofInt 1 = nI (j + 1) from nI_1 j]
        rw [← st] at r163
        exact ih2 (j + 1) _ (by omega) P163 r163 (by rw [st, hs]; exact oB.jnB o2 (zB 2 (by decide)))
      · have st : jall (fun i => S (ch p1 i) (if i + 1 < cn p1 then 2 else 0)) (j + 1) = jn (jall (fun i => S (ch p1 i) (if i + 1 < cn p1 then 2 else 0)) j) (S (ch p1 j) 0) := by show jn _ (S (ch p1 j) (if j + 1 < cn p1 then 2 else 0)) = _; rw [if_neg last]
        refine ab_iload X 0 d_MO_satisfiedMore_107 rfl ?_
        refine ab_aload_n X 1 d_MO_satisfiedMore_109 rfl rfl ?_
        refine ab_gR X fl_MO_39 d_MO_satisfiedMore_110 (by first | assumption | decide | (show _ < 124; omega) | (show _ < 61; omega) | (show _ < 20; omega)) (Q2.1.mo9) ?_
        refine ab_iload_n X 2 d_MO_satisfiedMore_113 rfl rfl ?_
        refine ab_iald X (p1) ⟨rfl, rfl⟩ d_MO_satisfiedMore_114 (by first | assumption | decide | (show _ < 124; omega) | (show _ < 61; omega) | (show _ < 20; omega)) (rfl) (show p1 < 40 by omega) (ab_ln_lt _ _) ?_
        refine ab_top (P2.ai (by decide) ec) ?_
        refine ab_icmp_ge X 172 d_MO_satisfiedMore_115 rfl (fun hb => absurd hb ((nI_ge (by omega) (by omega)))) (fun _ => ?_)
        refine ab_aload_n X 1 d_MO_satisfiedMore_118 rfl rfl ?_
        refine ab_iload X 0 d_MO_satisfiedMore_119 rfl ?_
        refine ab_iconst (v := 1) X d_MO_satisfiedMore_121 (by decide) ?_
        refine ab_iadd X d_MO_satisfiedMore_122 ?_
        refine ab_top (nI_1 _) ?_
        refine ab_aload_n X 1 d_MO_satisfiedMore_123 rfl rfl ?_
        refine ab_gR X fl_MO_39 d_MO_satisfiedMore_124 (by first | assumption | decide | (show _ < 124; omega) | (show _ < 61; omega) | (show _ < 20; omega)) (Q2.1.mo9) ?_
        refine ab_iload_n X 2 d_MO_satisfiedMore_127 rfl rfl ?_
        refine ab_iald X (p1) ⟨rfl, rfl⟩ d_MO_satisfiedMore_128 (by first | assumption | decide | (show _ < 124; omega) | (show _ < 61; omega) | (show _ < 20; omega)) (rfl) (show p1 < 40 by omega) (ab_ln_lt _ _) ?_
        refine ab_top (P2.ai (by decide) ec) ?_
        refine ab_icmp_ge X 149 d_MO_satisfiedMore_129 rfl (fun _ => ?_) (fun hb => absurd ((nI_le (by omega) (by omega))) hb)
        refine ab_aload_n X 1 d_MO_satisfiedMore_149 rfl rfl ?_
        refine ab_gR X fl_MO_42 d_MO_satisfiedMore_150 (by first | assumption | decide | (show _ < 124; omega) | (show _ < 61; omega) | (show _ < 20; omega)) (Q2.1.mo10) ?_
        refine ab_iconst (v := 4) X d_MO_satisfiedMore_153 (by decide) ?_
        refine ab_iload_n X 2 d_MO_satisfiedMore_154 rfl rfl ?_
        refine ab_imul X d_MO_satisfiedMore_155 ?_
        refine ab_iload X 0 d_MO_satisfiedMore_156 rfl ?_
        refine ab_iadd X d_MO_satisfiedMore_158 ?_
        refine ab_iald X (4 * p1 + j) ⟨rfl, rfl⟩ d_MO_satisfiedMore_159 (by first | assumption | decide | (show _ < 124; omega) | (show _ < 61; omega) | (show _ < 20; omega)) (nI_4a p1 j) (show 4 * p1 + j < 160 by omega) (ab_ln_lt _ _) ?_
        refine ab_top (P2.ai (by decide) (ech j hj1)) ?_
        refine ab_callS (as := [ab_I (nI (ch p1 j))]) X (fun h => by cases h) (t_MO_b u2 (ch p1 j)) ls_MO_204 d_MO_satisfiedMore_160 rfl rfl ⟨by first | exact Nat.le_of_ble_eq_true rfl | (simp only [ab_rm]; omega), by first | exact Nat.le_of_ble_eq_true rfl | (simp only [ab_rm]; omega)⟩ ⟨by first | exact Nat.le_of_ble_eq_true rfl | (simp only [ab_rm]; omega), by first | exact Nat.le_of_ble_eq_true rfl | (simp only [ab_rm]; omega)⟩ (Nat.le_of_ble_eq_true rfl) (fun u160 r160 h160 => ?_)
        obtain ⟨e160, rfl⟩ := h160
        subst u160
        refine ab_callV (as := [ab_I (nI (3 * ch p1 j))]) X (fun h => by cases h) (x_MO_yes u2 (3 * ch p1 j) _ j (4 * lf (ch p1 j) - 2) _ (S (ch p1 j) 0) P2.1 r2 ((zA.2 0 (by decide)).fo P2) (zB 0 (by decide)) (by omega) (by omega) (by omega) (by omega)) lk_MO_270 d_MO_satisfiedMore_163 rfl rfl (by first | assumption | decide | (show _ < 124; omega) | (show _ < 61; omega) | (show _ < 20; omega)) ⟨by first | exact Nat.le_of_ble_eq_true rfl | (simp only [ab_rm]; omega), by first | exact Nat.le_of_ble_eq_true rfl | (simp only [ab_rm]; omega)⟩ ⟨by first | exact Nat.le_of_ble_eq_true rfl | (simp only [ab_rm]; omega), by first | exact Nat.le_of_ble_eq_true rfl | (simp only [ab_rm]; omega)⟩ (Nat.le_of_ble_eq_true rfl) (fun u163 r163 h163 => ?_)
        obtain ⟨⟨q163, r163⟩, rfl⟩ := h163
        have P163 := Q2.trans q163 (by decide)
        refine ab_iinc5 X 0 1 2 3 4 5 d_MO_satisfiedMore_166 rfl (by decide) rfl rfl rfl rfl rfl rfl rfl rfl rfl rfl ?_
        refine ab_goto X 107 d_MO_satisfiedMore_169 rfl ?_
        rw [show nI j + Int32.ofInt 1 = nI (j + 1) from nI_1 j]
        rw [← st] at r163
        exact ih2 (j + 1) _ (by omega) P163 r163 (by rw [st, hs]; exact oB.jnB o2 (zB 0 (by decide)))
  refine ab_iload_n X 2 d_MO_satisfiedMore_0 rfl rfl ?_
  refine ab_bipush (v := 13) X d_MO_satisfiedMore_1 (by decide) ?_
  refine ab_icmp_ne X 19 d_MO_satisfiedMore_3 rfl (fun _ => ?_) (fun hb => absurd hb ((by decide)))
  refine ab_iload_n X 2 d_MO_satisfiedMore_19 rfl rfl ?_
  refine ab_bipush (v := 14) X d_MO_satisfiedMore_20 (by decide) ?_
  refine ab_icmp_ne X 38 d_MO_satisfiedMore_22 rfl (fun _ => ?_) (fun hb => absurd hb ((by decide)))
  refine ab_iload_n X 2 d_MO_satisfiedMore_38 rfl rfl ?_
  refine ab_bipush (v := 15) X d_MO_satisfiedMore_39 (by decide) ?_
  refine ab_icmp_ne X 58 d_MO_satisfiedMore_41 rfl (fun _ => ?_) (fun hb => absurd hb ((by decide)))
  refine ab_iload_n X 2 d_MO_satisfiedMore_58 rfl rfl ?_
  refine ab_bipush (v := 16) X d_MO_satisfiedMore_59 (by decide) ?_
  refine ab_icmp_ne X 79 d_MO_satisfiedMore_61 rfl (fun _ => ?_) (fun hb => absurd hb ((by decide)))
  refine ab_iload_n X 2 d_MO_satisfiedMore_79 rfl rfl ?_
  refine ab_bipush (v := 17) X d_MO_satisfiedMore_80 (by decide) ?_
  refine ab_icmp_ne X 98 d_MO_satisfiedMore_82 rfl (fun _ => ?_) (fun hb => absurd hb ((by decide)))
  refine ab_iload_n X 2 d_MO_satisfiedMore_98 rfl rfl ?_
  refine ab_bipush (v := 18) X d_MO_satisfiedMore_99 (by decide) ?_
  refine ab_icmp_ne X 176 d_MO_satisfiedMore_101 rfl (fun hb => absurd ((by decide)) hb) (fun _ => ?_)
  refine ab_iconst (v := 0) X d_MO_satisfiedMore_104 (by decide) ?_
  refine ab_istore5 X 0 1 2 3 4 d_MO_satisfiedMore_105 (by decide) rfl rfl rfl rfl rfl rfl rfl rfl rfl rfl ?_
  exact loop (cn p1) 0 _ (by omega) (gP.rf h) A1 (oB.some (Nat.le_refl _) (fun x hx => by cases hx))
def sOut (f : Nat) (u u' : ab_S) : Prop := (∀ g, g ≠ f → u'.1 18 11 g = u.1 18 11 g ∧ u'.1 18 12 g = u.1 18 12 g) ∧ ∀ k, k < 50 * f ∨ 50 * f + 50 ≤ k → u'.1 18 10 k = u.1 18 10 k
set_option maxRecDepth 100000 in
set_option maxHeartbeats 20000000 in
theorem x_MO_satisfied (u : ab_S) (P : Nat) (kd ar cn lf : Nat → Nat) (ch : Nat → Nat → Nat) (W : tW P kd ar cn lf ch) (T : tR P kd ar cn ch u) (p1 j w : Nat) (hp : p1 < P) (hj : j < 3) (a1 a2 a3 a4 : Int32) (R : Nat → List Nat) (S : Nat → Nat → Option (List Nat)) (A : mS P S R (p1 + 1) u) (bS : ∀ q, p1 < q → q < P → ∀ j, j < 3 → oB (4 * lf q - 2) (S q j)) (bR : ∀ q, p1 < q → q < P → (R q).length ≤ 2 * lf q - 1 ∧ ∀ x, x ∈ R q → itm x) (sB : 0 < j → ms u (3 * p1) (S p1 0) ∧ oB (4 * lf p1 - 3) (S p1 0)) (hw : wok (kd p1) (ar p1) (cn p1) j w) (ew : u.1 18 5 (3 * p1 + j) = nI w) (oT : oB 50 (svF kd ar cn ch R (slf kd ar a1 a2 a3 a4) S p1 w)) (hd : Int32) (f1 : kd p1 < 5 → hd = hl (nI (kd p1)) (nI (ar p1)) a1 a2 a3 a4) (h : mR u.2.1) : ab_C false l D ca y_MO_satisfied b_MO_satisfied 8 none 5 ab_nQ u [ab_O 17 0, ab_I (nI p1), ab_I (nI (3 * p1 + j)), ab_I hd] (fun u' v => (gP [26, 27, 29, 30, 110, 111, 112, 115, 116] u u' ∧ sOut (3 * p1 + j) u u' ∧ ms u' (3 * p1 + j) (svF kd ar cn ch R (slf kd ar a1 a2 a3 a4) S p1 w)) ∧ v = none) := by
  refine ab_C.of (by decide) (Nat.le_of_ble_eq_true rfl) ?_
  intro p e s m args below meth c ad X hZ hr0 hlk
  have P0 : gP [26, 27, 29, 30, 110, 111, 112, 115, 116] u u := gP.rf h
  obtain ⟨⟨l3, l4, k1, k7, ar9⟩, kl, kb⟩ := W.2.2 p1 hp
  have hP19 := W.2.1
  obtain ⟨ek, ea, ec, ech⟩ := T.2 p1 hp
  have fin : ∀ (u1 : ab_S), gP [26, 27, 29, 30, 115, 116] u u1 → mBs u1 (svF kd ar cn ch R (slf kd ar a1 a2 a3 a4) S p1 w) → ab_J p l e (ab_rm 5 0 0) s m args below meth c (MQ below (ab_Q D ca ad ab_nQ s.heap.size (fun u' v => (gP [26, 27, 29, 30, 110, 111, 112, 115, 116] u u' ∧ sOut (3 * p1 + j) u u' ∧ ms u' (3 * p1 + j) (svF kd ar cn ch R (slf kd ar a1 a2 a3 a4) S p1 w)) ∧ v = none)) args s 0 0 (ab_A ad ab_nQ s.heap.size)) D ca (ab_A ad ab_nQ s.heap.size) s.heap 8 0 0 ad ab_nQ u1 306 [(0, ab_O 17 0), (1, ab_I (nI p1)), (2, ab_I (nI (3 * p1 + j)))] [] := by
    intro u1 P1 B1
    have P2 : gP [26, 27, 29, 30, 110, 111, 112, 115, 116] u u1 := P1.wk (by decide)
    obtain hv | ⟨xs, hv⟩ : svF kd ar cn ch R (slf kd ar a1 a2 a3 a4) S p1 w = none ∨ ∃ xs, svF kd ar cn ch R (slf kd ar a1 a2 a3 a4) S p1 w = some xs := by
      cases svF kd ar cn ch R (slf kd ar a1 a2 a3 a4) S p1 w with
      | none => exact Or.inl rfl
      | some xs => exact Or.inr ⟨xs, rfl⟩
    · rw [hv] at B1
      obtain ⟨b1, b2⟩ : u1.1 17 0 29 = -1 ∧ u1.1 17 0 30 = 100000 := B1
      refine ab_aload_n X 0 d_MO_satisfied_306 rfl rfl ?_
      refine ab_gR X fl_MO_75 d_MO_satisfied_307 (by first | assumption | decide | (show _ < 124; omega) | (show _ < 61; omega) | (show _ < 20; omega)) (P2.1.mo21) ?_
      refine ab_iload_n X 2 d_MO_satisfied_310 rfl rfl ?_
      refine ab_aload_n X 0 d_MO_satisfied_311 rfl rfl ?_
      refine ab_gI X fl_MO_99 d_MO_satisfied_312 (by first | assumption | decide | (show _ < 124; omega) | (show _ < 61; omega) | (show _ < 20; omega)) (b1) ?_
      refine ab_iast X (3 * p1 + j) ⟨rfl, rfl⟩ d_MO_satisfied_315 (by first | assumption | decide | (show _ < 124; omega) | (show _ < 61; omega) | (show _ < 20; omega)) (rfl) (show 3 * p1 + j < 72 by omega) (ab_ln_lt _ _) ?_
      refine ab_gen (fun u315 e315 => ?_)
      have P315 : gP [26, 27, 29, 30, 110, 111, 112, 115, 116] u u315 := by rw [e315]; exact P2.ui rfl (by decide)
      refine ab_aload_n X 0 d_MO_satisfied_316 rfl rfl ?_
      refine ab_gR X fl_MO_78 d_MO_satisfied_317 (by first | assumption | decide | (show _ < 124; omega) | (show _ < 61; omega) | (show _ < 20; omega)) (P315.1.mo22) ?_
      refine ab_iload_n X 2 d_MO_satisfied_320 rfl rfl ?_
      refine ab_aload_n X 0 d_MO_satisfied_321 rfl rfl ?_
      refine ab_gI X fl_MO_102 d_MO_satisfied_322 (by first | assumption | decide | (show _ < 124; omega) | (show _ < 61; omega) | (show _ < 20; omega)) (rfl) ?_
      refine ab_iast X (3 * p1 + j) ⟨rfl, rfl⟩ d_MO_satisfied_325 (by first | assumption | decide | (show _ < 124; omega) | (show _ < 61; omega) | (show _ < 20; omega)) (rfl) (show 3 * p1 + j < 72 by omega) (ab_ln_lt _ _) ?_
      refine ab_gen (fun u325 e325 => ?_)
      have P325 : gP [26, 27, 29, 30, 110, 111, 112, 115, 116] u u325 := by rw [e325]; exact P315.ui rfl (by decide)
      refine ab_iconst (v := 0) X d_MO_satisfied_326 (by decide) ?_
      refine ab_istore3 X 0 1 2 d_MO_satisfied_327 (by decide) rfl rfl rfl rfl rfl rfl ?_
      refine ab_iload X 0 d_MO_satisfied_329 rfl ?_
      refine ab_aload_n X 1 d_MO_satisfied_331 rfl rfl ?_
      refine ab_gI X fl_MO_99 d_MO_satisfied_332 (by first | assumption | decide | (show _ < 124; omega) | (show _ < 61; omega) | (show _ < 20; omega)) ((show _ = (-1 : Int32) by rw [e325, e315]; exact (ui_n _ (by omega)).trans ((ui_n _ (by omega)).trans b1))) ?_
      refine ab_icmp_ge X 363 d_MO_satisfied_335 rfl (fun _ => ?_) (fun hb => absurd ((by decide)) hb)
      exact ab_retv X hr0 hlk d_MO_satisfied_363 ⟨⟨P325, ⟨fun g hg => ⟨by rw [e325, e315]; exact (ui_n _ (by omega)).trans ((ui_n _ (by omega)).trans (P1.ai (by decide) rfl)), by rw [e325, e315]; exact (ui_n _ (by omega)).trans ((ui_n _ (by omega)).trans (P1.ai (by decide) rfl))⟩, fun k _ => by rw [e325, e315]; exact (ui_n _ (by omega)).trans ((ui_n _ (by omega)).trans (P1.ai (by decide) rfl))⟩, by rw [hv, e325, e315]; exact (ui_n _ (by omega)).trans (ui_s _)⟩, rfl⟩
    · have lx := (oT xs hv).1
      rw [hv] at B1
      obtain ⟨b1, b2, b3⟩ : u1.1 17 0 29 = nI xs.length ∧ u1.1 17 0 30 = nI (wgt xs) ∧ ∀ i, i < xs.length → u1.1 18 16 i = nI (xs.getD i 0) := B1
      have loop : ∀ (k i : Nat) (u2 : ab_S), k + i = xs.length → gP [26, 27, 29, 30, 110, 111, 112, 115, 116] u u2 → sOut (3 * p1 + j) u u2 → u2.1 17 0 29 = nI xs.length → (∀ i, i < xs.length → u2.1 18 16 i = nI (xs.getD i 0)) → u2.1 18 11 (3 * p1 + j) = nI xs.length → u2.1 18 12 (3 * p1 + j) = nI (wgt xs) → (∀ i2, i2 < i → u2.1 18 10 (50 * (3 * p1 + j) + i2) = nI (xs.getD i2 0)) → ab_J p l e (ab_rm 5 0 0) s m args below meth c (MQ below (ab_Q D ca ad ab_nQ s.heap.size (fun u' v => (gP [26, 27, 29, 30, 110, 111, 112, 115, 116] u u' ∧ sOut (3 * p1 + j) u u' ∧ ms u' (3 * p1 + j) (svF kd ar cn ch R (slf kd ar a1 a2 a3 a4) S p1 w)) ∧ v = none)) args s 0 0 (ab_A ad ab_nQ s.heap.size)) D ca (ab_A ad ab_nQ s.heap.size) s.heap 8 0 0 ad ab_nQ u2 329 [(7, ab_I (nI i)), (0, ab_O 17 0), (1, ab_I (nI p1)), (2, ab_I (nI (3 * p1 + j)))] [] := by
        intro k
        induction k with
        | zero =>
          intro i u2 hi Q2 O2 d1 d2 d3 d4 d5
          obtain rfl : i = xs.length := by omega
          refine ab_iload X 0 d_MO_satisfied_329 rfl ?_
          refine ab_aload_n X 1 d_MO_satisfied_331 rfl rfl ?_
          refine ab_gI X fl_MO_99 d_MO_satisfied_332 (by first | assumption | decide | (show _ < 124; omega) | (show _ < 61; omega) | (show _ < 20; omega)) (d1) ?_
          refine ab_icmp_ge X 363 d_MO_satisfied_335 rfl (fun _ => ?_) (fun hb => absurd ((nI_le (by omega) (by omega))) hb)
          exact ab_retv X hr0 hlk d_MO_satisfied_363 ⟨⟨Q2, O2, by rw [hv]; exact ⟨d3, d4, d5⟩⟩, rfl⟩
        | succ k ih =>
          intro i u2 hi Q2 O2 d1 d2 d3 d4 d5
          refine ab_iload X 0 d_MO_satisfied_329 rfl ?_
          refine ab_aload_n X 1 d_MO_satisfied_331 rfl rfl ?_
          refine ab_gI X fl_MO_99 d_MO_satisfied_332 (by first | assumption | decide | (show _ < 124; omega) | (show _ < 61; omega) | (show _ < 20; omega)) (d1) ?_
          refine ab_icmp_ge X 363 d_MO_satisfied_335 rfl (fun hb => absurd hb ((nI_ge (by omega) (by omega)))) (fun _ => ?_)
          refine ab_aload_n X 1 d_MO_satisfied_338 rfl rfl ?_
          refine ab_gR X fl_MO_72 d_MO_satisfied_339 (by first | assumption | decide | (show _ < 124; omega) | (show _ < 61; omega) | (show _ < 20; omega)) (Q2.1.mo20) ?_
          refine ab_bipush (v := 50) X d_MO_satisfied_342 (by decide) ?_
          refine ab_iload_n X 3 d_MO_satisfied_344 rfl rfl ?_
          refine ab_imul X d_MO_satisfied_345 ?_
          refine ab_iload X 0 d_MO_satisfied_346 rfl ?_
          refine ab_iadd X d_MO_satisfied_348 ?_
          refine ab_aload_n X 1 d_MO_satisfied_349 rfl rfl ?_
          refine ab_gR X fl_MO_96 d_MO_satisfied_350 (by first | assumption | decide | (show _ < 124; omega) | (show _ < 61; omega) | (show _ < 20; omega)) (Q2.1.mo28) ?_
          refine ab_iload X 0 d_MO_satisfied_353 rfl ?_
          refine ab_iald X (i) ⟨rfl, rfl⟩ d_MO_satisfied_355 (by first | assumption | decide | (show _ < 124; omega) | (show _ < 61; omega) | (show _ < 20; omega)) (rfl) (show i < 64 by omega) (ab_ln_lt _ _) ?_
          refine ab_top (d2 i (by omega)) ?_
          refine ab_iast X (50 * (3 * p1 + j) + i) ⟨rfl, rfl⟩ d_MO_satisfied_356 (by first | assumption | decide | (show _ < 124; omega) | (show _ < 61; omega) | (show _ < 20; omega)) (nI_50a (3 * p1 + j) i) (show 50 * (3 * p1 + j) + i < 3600 by omega) (ab_ln_lt _ _) ?_
          refine ab_gen (fun u356 e356 => ?_)
          have P356 : gP [26, 27, 29, 30, 110, 111, 112, 115, 116] u u356 := by rw [e356]; exact Q2.ui rfl (by decide)
          refine ab_iinc3 X 0 1 2 3 d_MO_satisfied_357 rfl (by decide) rfl rfl rfl rfl rfl rfl ?_
          refine ab_goto X 329 d_MO_satisfied_360 rfl ?_
          rw [show nI i + Int32.ofInt 1 = nI (i + 1) from nI_1 i]
          refine ih (i + 1) _ (by omega) P356 ⟨fun g hg => ⟨by rw [e356]; exact (ui_n _ (by omega)).trans (O2.1 g hg).1, by rw [e356]; exact (ui_n _ (by omega)).trans (O2.1 g hg).2⟩, fun k hk => by rw [e356]; exact (ui_n _ (by omega)).trans (O2.2 k hk)⟩ (by rw [e356]; exact (ui_n _ (by omega)).trans d1) (fun i2 hi2 => by rw [e356]; exact (ui_n _ (by omega)).trans (d2 i2 hi2)) (by rw [e356]; exact (ui_n _ (by omega)).trans d3) (by rw [e356]; exact (ui_n _ (by omega)).trans d4) (fun i2 hi2 => ?_)
          rw [e356]
          by_cases z : i2 = i
          · subst z; exact ui_s _
          · exact (ui_n _ (by omega)).trans (d5 i2 (by omega))
      refine ab_aload_n X 0 d_MO_satisfied_306 rfl rfl ?_
      refine ab_gR X fl_MO_75 d_MO_satisfied_307 (by first | assumption | decide | (show _ < 124; omega) | (show _ < 61; omega) | (show _ < 20; omega)) (P2.1.mo21) ?_
      refine ab_iload_n X 2 d_MO_satisfied_310 rfl rfl ?_
      refine ab_aload_n X 0 d_MO_satisfied_311 rfl rfl ?_
      refine ab_gI X fl_MO_99 d_MO_satisfied_312 (by first | assumption | decide | (show _ < 124; omega) | (show _ < 61; omega) | (show _ < 20; omega)) (b1) ?_
      refine ab_iast X (3 * p1 + j) ⟨rfl, rfl⟩ d_MO_satisfied_315 (by first | assumption | decide | (show _ < 124; omega) | (show _ < 61; omega) | (show _ < 20; omega)) (rfl) (show 3 * p1 + j < 72 by omega) (ab_ln_lt _ _) ?_
      refine ab_gen (fun u315 e315 => ?_)
      have P315 : gP [26, 27, 29, 30, 110, 111, 112, 115, 116] u u315 := by rw [e315]; exact P2.ui rfl (by decide)
      refine ab_aload_n X 0 d_MO_satisfied_316 rfl rfl ?_
      refine ab_gR X fl_MO_78 d_MO_satisfied_317 (by first | assumption | decide | (show _ < 124; omega) | (show _ < 61; omega) | (show _ < 20; omega)) (P315.1.mo22) ?_
      refine ab_iload_n X 2 d_MO_satisfied_320 rfl rfl ?_
      refine ab_aload_n X 0 d_MO_satisfied_321 rfl rfl ?_
      refine ab_gI X fl_MO_102 d_MO_satisfied_322 (by first | assumption | decide | (show _ < 124; omega) | (show _ < 61; omega) | (show _ < 20; omega)) ((show _ = nI (wgt xs) by rw [e315]; exact (ui_n _ (by omega)).trans b2)) ?_
      refine ab_iast X (3 * p1 + j) ⟨rfl, rfl⟩ d_MO_satisfied_325 (by first | assumption | decide | (show _ < 124; omega) | (show _ < 61; omega) | (show _ < 20; omega)) (rfl) (show 3 * p1 + j < 72 by omega) (ab_ln_lt _ _) ?_
      refine ab_gen (fun u325 e325 => ?_)
      have P325 : gP [26, 27, 29, 30, 110, 111, 112, 115, 116] u u325 := by rw [e325]; exact P315.ui rfl (by decide)
      refine ab_iconst (v := 0) X d_MO_satisfied_326 (by decide) ?_
      refine ab_istore3 X 0 1 2 d_MO_satisfied_327 (by decide) rfl rfl rfl rfl rfl rfl ?_
      exact loop xs.length 0 _ (by omega) P325 ⟨fun g hg => ⟨by rw [e325, e315]; exact (ui_n _ (by omega)).trans ((ui_n _ (by omega)).trans (P1.ai (by decide) rfl)), by rw [e325, e315]; exact (ui_n _ (by omega)).trans ((ui_n _ (by omega)).trans (P1.ai (by decide) rfl))⟩, fun k _ => by rw [e325, e315]; exact (ui_n _ (by omega)).trans ((ui_n _ (by omega)).trans (P1.ai (by decide) rfl))⟩ (by rw [e325, e315]; exact (ui_n _ (by omega)).trans ((ui_n _ (by omega)).trans b1)) (fun i2 hi2 => by rw [e325, e315]; exact (ui_n _ (by omega)).trans ((ui_n _ (by omega)).trans (b3 i2 hi2))) (by rw [e325, e315]; exact (ui_n _ (by omega)).trans (ui_s _)) (by rw [e325]; exact ui_s _) (fun i2 hi2 => absurd hi2 (Nat.not_lt_zero i2))
  have R0 : gP [26, 27, 29, 30, 115, 116] u u := gP.rf h
  have leaf : w = 1 ∨ w = 11 ∨ w = 12 → kd p1 < 5 := fun z => by unfold wok at hw; omega
  have hw' := hw
  have e0 : ∀ {w'}, w = w' → kd p1 < 5 → (w' = 1 ∨ w' = 11 ∨ w' = 12) → svF kd ar cn ch R (slf kd ar a1 a2 a3 a4) S p1 w = if hd = 0 then none else some (lit (kd p1) (ar p1)) := fun {w'} e z y => by rw [e, sv1 y, f1 z]; rfl
  by_cases wl : w = 1 ∨ w = 11 ∨ w = 12
  · have k5 := leaf wl
    rcases wl with rfl | rfl | rfl
    · by_cases h0 : hd = 0
      · have eS := (e0 rfl k5 (by decide)).trans (if_pos h0)
        refine ab_aload_n X 0 d_MO_satisfied_0 rfl rfl ?_
        refine ab_iconst (v := (-1)) X d_MO_satisfied_1 (by decide) ?_
        refine ab_putI X fp_MO_99 d_MO_satisfied_2 (by first | assumption | decide | (show _ < 124; omega) | (show _ < 61; omega) | (show _ < 20; omega)) rfl rfl ?_
        refine ab_gen (fun u2 e2 => ?_)
        have P2 : gP [26, 27, 29, 30, 115, 116] u u2 := by rw [e2]; exact R0.ui rfl (by decide)
        refine ab_aload_n X 0 d_MO_satisfied_5 rfl rfl ?_
        refine ab_ldcw X (v := 100000) (ab_in 1248 (by decide +kernel) (by decide +kernel)) d_MO_satisfied_6 ?_
        refine ab_putI X fp_MO_102 d_MO_satisfied_9 (by first | assumption | decide | (show _ < 124; omega) | (show _ < 61; omega) | (show _ < 20; omega)) rfl rfl ?_
        refine ab_gen (fun u9 e9 => ?_)
        have P9 : gP [26, 27, 29, 30, 115, 116] u u9 := by rw [e9]; exact P2.ui rfl (by decide)
        refine ab_aload_n X 0 d_MO_satisfied_12 rfl rfl ?_
        refine ab_gR X fl_MO_45 d_MO_satisfied_13 (by first | assumption | decide | (show _ < 124; omega) | (show _ < 61; omega) | (show _ < 20; omega)) (P9.1.mo11) ?_
        refine ab_iload_n X 2 d_MO_satisfied_16 rfl rfl ?_
        refine ab_iald X (3 * p1 + j) ⟨rfl, rfl⟩ d_MO_satisfied_17 (by first | assumption | decide | (show _ < 124; omega) | (show _ < 61; omega) | (show _ < 20; omega)) (rfl) (show 3 * p1 + j < 72 by omega) (ab_ln_lt _ _) ?_
        refine ab_top (P9.ai (by decide) ew) ?_
        refine ab_istore4 X 0 1 2 3 d_MO_satisfied_18 (by decide) rfl rfl rfl rfl rfl rfl rfl rfl ?_
        refine ab_aload_n X 1 d_MO_satisfied_20 rfl rfl ?_
        refine ab_gR X fl_MO_42 d_MO_satisfied_21 (by first | assumption | decide | (show _ < 124; omega) | (show _ < 61; omega) | (show _ < 20; omega)) (P9.1.mo10) ?_
        refine ab_iconst (v := 4) X d_MO_satisfied_24 (by decide) ?_
        refine ab_iload_n X 2 d_MO_satisfied_25 rfl rfl ?_
        refine ab_imul X d_MO_satisfied_26 ?_
        refine ab_iald X (4 * p1) ⟨rfl, rfl⟩ d_MO_satisfied_27 (by first | assumption | decide | (show _ < 124; omega) | (show _ < 61; omega) | (show _ < 20; omega)) (nI_4m p1) (show 4 * p1 < 160 by omega) (ab_ln_lt _ _) ?_
        refine ab_istore5 X 0 1 2 3 4 d_MO_satisfied_28 (by decide) rfl rfl rfl rfl rfl rfl rfl rfl rfl rfl ?_
        refine ab_aload_n X 2 d_MO_satisfied_30 rfl rfl ?_
        refine ab_gR X fl_MO_42 d_MO_satisfied_31 (by first | assumption | decide | (show _ < 124; omega) | (show _ < 61; omega) | (show _ < 20; omega)) (P9.1.mo10) ?_
        refine ab_iconst (v := 4) X d_MO_satisfied_34 (by decide) ?_
        refine ab_iload_n X 3 d_MO_satisfied_35 rfl rfl ?_
        refine ab_imul X d_MO_satisfied_36 ?_
        refine ab_iconst (v := 1) X d_MO_satisfied_37 (by decide) ?_
        refine ab_iadd X d_MO_satisfied_38 ?_
        refine ab_iald X (4 * p1 + 1) ⟨rfl, rfl⟩ d_MO_satisfied_39 (by first | assumption | decide | (show _ < 124; omega) | (show _ < 61; omega) | (show _ < 20; omega)) (nI_4b p1) (show 4 * p1 + 1 < 160 by omega) (ab_ln_lt _ _) ?_
        refine ab_istore6 X 0 1 2 3 4 5 d_MO_satisfied_40 (by decide) rfl rfl rfl rfl rfl rfl rfl rfl rfl rfl rfl rfl ?_
        refine ab_aload_n X 3 d_MO_satisfied_42 rfl rfl ?_
        refine ab_callV (as := []) X (fun h => by cases h) (x_MO_newRow u9 P9.1) lk_MO_267 d_MO_satisfied_43 rfl rfl (by first | assumption | decide | (show _ < 124; omega) | (show _ < 61; omega) | (show _ < 20; omega)) ⟨by first | exact Nat.le_of_ble_eq_true rfl | (simp only [ab_rm]; omega), by first | exact Nat.le_of_ble_eq_true rfl | (simp only [ab_rm]; omega)⟩ ⟨by first | exact Nat.le_of_ble_eq_true rfl | (simp only [ab_rm]; omega), by first | exact Nat.le_of_ble_eq_true rfl | (simp only [ab_rm]; omega)⟩ (Nat.le_of_ble_eq_true rfl) (fun u43 r43 h43 => ?_)
        obtain ⟨⟨q43, r43⟩, rfl⟩ := h43
        have P43 := P9.trans q43 (by decide)
        have b0 : mBs u43 none := mBs.fr3 (o := none) ⟨by rw [e9, e2]; exact (ui_n _ (by omega)).trans (ui_s _), by rw [e9]; exact ui_s _⟩ q43
        refine ab_iload X 2 d_MO_satisfied_46 rfl ?_
        refine ab_iconst (v := 1) X d_MO_satisfied_48 (by decide) ?_
        refine ab_icmp_eq X 66 d_MO_satisfied_49 rfl (fun _ => ?_) (fun hb => absurd ((by decide)) hb)
        refine ab_iload_n X 6 d_MO_satisfied_66 rfl rfl ?_
        refine ab_if_eq X 306 d_MO_satisfied_67 rfl (fun _ => ?_) (fun hb => absurd (h0) hb)
        refine ab_lv (List.forall_mem_cons.mpr ⟨List.mem_of_getElem? (i := 3) rfl, List.forall_mem_cons.mpr ⟨List.mem_of_getElem? (i := 4) rfl, List.forall_mem_cons.mpr ⟨List.mem_of_getElem? (i := 5) rfl, fun _ h => absurd h List.not_mem_nil⟩⟩⟩) ?_
        exact fin _ P43 (by rw [eS]; exact b0)
      · have eS := (e0 rfl k5 (by decide)).trans (if_neg h0)
        by_cases k3 : kd p1 < 3
        · have el : lit (kd p1) (ar p1) = [kd p1 * 10 + ar p1] := by
            have kk : kd p1 = 1 ∨ kd p1 = 2 := by omega
            rcases kk with kk | kk <;> rw [kk] <;> rfl
          refine ab_aload_n X 0 d_MO_satisfied_0 rfl rfl ?_
          refine ab_iconst (v := (-1)) X d_MO_satisfied_1 (by decide) ?_
          refine ab_putI X fp_MO_99 d_MO_satisfied_2 (by first | assumption | decide | (show _ < 124; omega) | (show _ < 61; omega) | (show _ < 20; omega)) rfl rfl ?_
          refine ab_gen (fun u2 e2 => ?_)
          have P2 : gP [26, 27, 29, 30, 115, 116] u u2 := by rw [e2]; exact R0.ui rfl (by decide)
          refine ab_aload_n X 0 d_MO_satisfied_5 rfl rfl ?_
          refine ab_ldcw X (v := 100000) (ab_in 1248 (by decide +kernel) (by decide +kernel)) d_MO_satisfied_6 ?_
          refine ab_putI X fp_MO_102 d_MO_satisfied_9 (by first | assumption | decide | (show _ < 124; omega) | (show _ < 61; omega) | (show _ < 20; omega)) rfl rfl ?_
          refine ab_gen (fun u9 e9 => ?_)
          have P9 : gP [26, 27, 29, 30, 115, 116] u u9 := by rw [e9]; exact P2.ui rfl (by decide)
          refine ab_aload_n X 0 d_MO_satisfied_12 rfl rfl ?_
          refine ab_gR X fl_MO_45 d_MO_satisfied_13 (by first | assumption | decide | (show _ < 124; omega) | (show _ < 61; omega) | (show _ < 20; omega)) (P9.1.mo11) ?_
          refine ab_iload_n X 2 d_MO_satisfied_16 rfl rfl ?_
          refine ab_iald X (3 * p1 + j) ⟨rfl, rfl⟩ d_MO_satisfied_17 (by first | assumption | decide | (show _ < 124; omega) | (show _ < 61; omega) | (show _ < 20; omega)) (rfl) (show 3 * p1 + j < 72 by omega) (ab_ln_lt _ _) ?_
          refine ab_top (P9.ai (by decide) ew) ?_
          refine ab_istore4 X 0 1 2 3 d_MO_satisfied_18 (by decide) rfl rfl rfl rfl rfl rfl rfl rfl ?_
          refine ab_aload_n X 1 d_MO_satisfied_20 rfl rfl ?_
          refine ab_gR X fl_MO_42 d_MO_satisfied_21 (by first | assumption | decide | (show _ < 124; omega) | (show _ < 61; omega) | (show _ < 20; omega)) (P9.1.mo10) ?_
          refine ab_iconst (v := 4) X d_MO_satisfied_24 (by decide) ?_
          refine ab_iload_n X 2 d_MO_satisfied_25 rfl rfl ?_
          refine ab_imul X d_MO_satisfied_26 ?_
          refine ab_iald X (4 * p1) ⟨rfl, rfl⟩ d_MO_satisfied_27 (by first | assumption | decide | (show _ < 124; omega) | (show _ < 61; omega) | (show _ < 20; omega)) (nI_4m p1) (show 4 * p1 < 160 by omega) (ab_ln_lt _ _) ?_
          refine ab_istore5 X 0 1 2 3 4 d_MO_satisfied_28 (by decide) rfl rfl rfl rfl rfl rfl rfl rfl rfl rfl ?_
          refine ab_aload_n X 2 d_MO_satisfied_30 rfl rfl ?_
          refine ab_gR X fl_MO_42 d_MO_satisfied_31 (by first | assumption | decide | (show _ < 124; omega) | (show _ < 61; omega) | (show _ < 20; omega)) (P9.1.mo10) ?_
          refine ab_iconst (v := 4) X d_MO_satisfied_34 (by decide) ?_
          refine ab_iload_n X 3 d_MO_satisfied_35 rfl rfl ?_
          refine ab_imul X d_MO_satisfied_36 ?_
          refine ab_iconst (v := 1) X d_MO_satisfied_37 (by decide) ?_
          refine ab_iadd X d_MO_satisfied_38 ?_
          refine ab_iald X (4 * p1 + 1) ⟨rfl, rfl⟩ d_MO_satisfied_39 (by first | assumption | decide | (show _ < 124; omega) | (show _ < 61; omega) | (show _ < 20; omega)) (nI_4b p1) (show 4 * p1 + 1 < 160 by omega) (ab_ln_lt _ _) ?_
          refine ab_istore6 X 0 1 2 3 4 5 d_MO_satisfied_40 (by decide) rfl rfl rfl rfl rfl rfl rfl rfl rfl rfl rfl rfl ?_
          refine ab_aload_n X 3 d_MO_satisfied_42 rfl rfl ?_
          refine ab_callV (as := []) X (fun h => by cases h) (x_MO_newRow u9 P9.1) lk_MO_267 d_MO_satisfied_43 rfl rfl (by first | assumption | decide | (show _ < 124; omega) | (show _ < 61; omega) | (show _ < 20; omega)) ⟨by first | exact Nat.le_of_ble_eq_true rfl | (simp only [ab_rm]; omega), by first | exact Nat.le_of_ble_eq_true rfl | (simp only [ab_rm]; omega)⟩ ⟨by first | exact Nat.le_of_ble_eq_true rfl | (simp only [ab_rm]; omega), by first | exact Nat.le_of_ble_eq_true rfl | (simp only [ab_rm]; omega)⟩ (Nat.le_of_ble_eq_true rfl) (fun u43 r43 h43 => ?_)
          obtain ⟨⟨q43, r43⟩, rfl⟩ := h43
          have P43 := P9.trans q43 (by decide)
          have b0 : mBs u43 none := mBs.fr3 (o := none) ⟨by rw [e9, e2]; exact (ui_n _ (by omega)).trans (ui_s _), by rw [e9]; exact ui_s _⟩ q43
          refine ab_iload X 2 d_MO_satisfied_46 rfl ?_
          refine ab_iconst (v := 1) X d_MO_satisfied_48 (by decide) ?_
          refine ab_icmp_eq X 66 d_MO_satisfied_49 rfl (fun _ => ?_) (fun hb => absurd ((by decide)) hb)
          refine ab_iload_n X 6 d_MO_satisfied_66 rfl rfl ?_
          refine ab_if_eq X 306 d_MO_satisfied_67 rfl (fun hb => absurd hb (h0)) (fun _ => ?_)
          refine ab_aload_n X 3 d_MO_satisfied_70 rfl rfl ?_
          refine ab_gR X fl_MO_33 d_MO_satisfied_71 (by first | assumption | decide | (show _ < 124; omega) | (show _ < 61; omega) | (show _ < 20; omega)) (P43.1.mo7) ?_
          refine ab_iload_n X 4 d_MO_satisfied_74 rfl rfl ?_
          refine ab_iald X (p1) ⟨rfl, rfl⟩ d_MO_satisfied_75 (by first | assumption | decide | (show _ < 124; omega) | (show _ < 61; omega) | (show _ < 20; omega)) (rfl) (show p1 < 40 by omega) (ab_ln_lt _ _) ?_
          refine ab_top (P43.ai (by decide) ek) ?_
          refine ab_iconst (v := 3) X d_MO_satisfied_76 (by decide) ?_
          refine ab_icmp_ge X 100 d_MO_satisfied_77 rfl (fun hb => absurd hb ((nI_ge (b := 3) (by omega) (by decide)))) (fun _ => ?_)
          refine ab_aload_n X 3 d_MO_satisfied_80 rfl rfl ?_
          refine ab_aload_n X 3 d_MO_satisfied_81 rfl rfl ?_
          refine ab_gR X fl_MO_33 d_MO_satisfied_82 (by first | assumption | decide | (show _ < 124; omega) | (show _ < 61; omega) | (show _ < 20; omega)) (P43.1.mo7) ?_
          refine ab_iload_n X 4 d_MO_satisfied_85 rfl rfl ?_
          refine ab_iald X (p1) ⟨rfl, rfl⟩ d_MO_satisfied_86 (by first | assumption | decide | (show _ < 124; omega) | (show _ < 61; omega) | (show _ < 20; omega)) (rfl) (show p1 < 40 by omega) (ab_ln_lt _ _) ?_
          refine ab_top (P43.ai (by decide) ek) ?_
          refine ab_bipush (v := 10) X d_MO_satisfied_87 (by decide) ?_
          refine ab_imul X d_MO_satisfied_89 ?_
          refine ab_top (pk_mul (kd p1) 10) ?_
          refine ab_aload_n X 3 d_MO_satisfied_90 rfl rfl ?_
          refine ab_gR X fl_MO_36 d_MO_satisfied_91 (by first | assumption | decide | (show _ < 124; omega) | (show _ < 61; omega) | (show _ < 20; omega)) (P43.1.mo8) ?_
          refine ab_iload_n X 4 d_MO_satisfied_94 rfl rfl ?_
          refine ab_iald X (p1) ⟨rfl, rfl⟩ d_MO_satisfied_95 (by first | assumption | decide | (show _ < 124; omega) | (show _ < 61; omega) | (show _ < 20; omega)) (rfl) (show p1 < 40 by omega) (ab_ln_lt _ _) ?_
          refine ab_top (P43.ai (by decide) ea) ?_
          refine ab_iadd X d_MO_satisfied_96 ?_
          refine ab_top (nI_add _ _) ?_
          refine ab_callV (as := [ab_I (nI (kd p1 * 10 + ar p1))]) X (fun h => by cases h) (x_MO_item1 u43 (kd p1 * 10 + ar p1) 0 0 (some []) P43.1 r43 (Or.inr ⟨by omega, by omega⟩) (by decide) (by decide)) lk_MO_264 d_MO_satisfied_97 rfl rfl (by first | assumption | decide | (show _ < 124; omega) | (show _ < 61; omega) | (show _ < 20; omega)) ⟨by first | exact Nat.le_of_ble_eq_true rfl | (simp only [ab_rm]; omega), by first | exact Nat.le_of_ble_eq_true rfl | (simp only [ab_rm]; omega)⟩ ⟨by first | exact Nat.le_of_ble_eq_true rfl | (simp only [ab_rm]; omega), by first | exact Nat.le_of_ble_eq_true rfl | (simp only [ab_rm]; omega)⟩ (Nat.le_of_ble_eq_true rfl) (fun u97 r97 h97 => ?_)
          obtain ⟨⟨q97, r97⟩, rfl⟩ := h97
          have P97 := P43.trans q97 (by decide)
          refine ab_aload_n X 3 d_MO_satisfied_100 rfl rfl ?_
          refine ab_callV (as := []) X (fun h => by cases h) (x_MO_offer u97 _ _ (some [kd p1 * 10 + ar p1]) none P97.1 r97 (b0.fr3 q97) ((oB.one (Or.inr ⟨by omega, by omega⟩)).wk (by decide)) oB.none (by decide) (by decide)) lk_MO_273 d_MO_satisfied_101 rfl rfl (by first | assumption | decide | (show _ < 124; omega) | (show _ < 61; omega) | (show _ < 20; omega)) ⟨by first | exact Nat.le_of_ble_eq_true rfl | (simp only [ab_rm]; omega), by first | exact Nat.le_of_ble_eq_true rfl | (simp only [ab_rm]; omega)⟩ ⟨by first | exact Nat.le_of_ble_eq_true rfl | (simp only [ab_rm]; omega), by first | exact Nat.le_of_ble_eq_true rfl | (simp only [ab_rm]; omega)⟩ (Nat.le_of_ble_eq_true rfl) (fun u101 r101 h101 => ?_)
          obtain ⟨⟨q101, r101⟩, rfl⟩ := h101
          have P101 := P97.trans q101 (by decide)
          refine ab_goto X 306 d_MO_satisfied_104 rfl ?_
          refine ab_lv (List.forall_mem_cons.mpr ⟨List.mem_of_getElem? (i := 3) rfl, List.forall_mem_cons.mpr ⟨List.mem_of_getElem? (i := 4) rfl, List.forall_mem_cons.mpr ⟨List.mem_of_getElem? (i := 5) rfl, fun _ h => absurd h List.not_mem_nil⟩⟩⟩) ?_
          exact fin _ P101 (by rw [eS, el]; exact r101)
        · have el : lit (kd p1) (ar p1) = [] := (if_neg (by omega)).trans (if_neg (by omega))
          refine ab_aload_n X 0 d_MO_satisfied_0 rfl rfl ?_
          refine ab_iconst (v := (-1)) X d_MO_satisfied_1 (by decide) ?_
          refine ab_putI X fp_MO_99 d_MO_satisfied_2 (by first | assumption | decide | (show _ < 124; omega) | (show _ < 61; omega) | (show _ < 20; omega)) rfl rfl ?_
          refine ab_gen (fun u2 e2 => ?_)
          have P2 : gP [26, 27, 29, 30, 115, 116] u u2 := by rw [e2]; exact R0.ui rfl (by decide)
          refine ab_aload_n X 0 d_MO_satisfied_5 rfl rfl ?_
          refine ab_ldcw X (v := 100000) (ab_in 1248 (by decide +kernel) (by decide +kernel)) d_MO_satisfied_6 ?_
          refine ab_putI X fp_MO_102 d_MO_satisfied_9 (by first | assumption | decide | (show _ < 124; omega) | (show _ < 61; omega) | (show _ < 20; omega)) rfl rfl ?_
          refine ab_gen (fun u9 e9 => ?_)
          have P9 : gP [26, 27, 29, 30, 115, 116] u u9 := by rw [e9]; exact P2.ui rfl (by decide)
          refine ab_aload_n X 0 d_MO_satisfied_12 rfl rfl ?_
          refine ab_gR X fl_MO_45 d_MO_satisfied_13 (by first | assumption | decide | (show _ < 124; omega) | (show _ < 61; omega) | (show _ < 20; omega)) (P9.1.mo11) ?_
          refine ab_iload_n X 2 d_MO_satisfied_16 rfl rfl ?_
          refine ab_iald X (3 * p1 + j) ⟨rfl, rfl⟩ d_MO_satisfied_17 (by first | assumption | decide | (show _ < 124; omega) | (show _ < 61; omega) | (show _ < 20; omega)) (rfl) (show 3 * p1 + j < 72 by omega) (ab_ln_lt _ _) ?_
          refine ab_top (P9.ai (by decide) ew) ?_
          refine ab_istore4 X 0 1 2 3 d_MO_satisfied_18 (by decide) rfl rfl rfl rfl rfl rfl rfl rfl ?_
          refine ab_aload_n X 1 d_MO_satisfied_20 rfl rfl ?_
          refine ab_gR X fl_MO_42 d_MO_satisfied_21 (by first | assumption | decide | (show _ < 124; omega) | (show _ < 61; omega) | (show _ < 20; omega)) (P9.1.mo10) ?_
          refine ab_iconst (v := 4) X d_MO_satisfied_24 (by decide) ?_
          refine ab_iload_n X 2 d_MO_satisfied_25 rfl rfl ?_
          refine ab_imul X d_MO_satisfied_26 ?_
          refine ab_iald X (4 * p1) ⟨rfl, rfl⟩ d_MO_satisfied_27 (by first | assumption | decide | (show _ < 124; omega) | (show _ < 61; omega) | (show _ < 20; omega)) (nI_4m p1) (show 4 * p1 < 160 by omega) (ab_ln_lt _ _) ?_
          refine ab_istore5 X 0 1 2 3 4 d_MO_satisfied_28 (by decide) rfl rfl rfl rfl rfl rfl rfl rfl rfl rfl ?_
          refine ab_aload_n X 2 d_MO_satisfied_30 rfl rfl ?_
          refine ab_gR X fl_MO_42 d_MO_satisfied_31 (by first | assumption | decide | (show _ < 124; omega) | (show _ < 61; omega) | (show _ < 20; omega)) (P9.1.mo10) ?_
          refine ab_iconst (v := 4) X d_MO_satisfied_34 (by decide) ?_
          refine ab_iload_n X 3 d_MO_satisfied_35 rfl rfl ?_
          refine ab_imul X d_MO_satisfied_36 ?_
          refine ab_iconst (v := 1) X d_MO_satisfied_37 (by decide) ?_
          refine ab_iadd X d_MO_satisfied_38 ?_
          refine ab_iald X (4 * p1 + 1) ⟨rfl, rfl⟩ d_MO_satisfied_39 (by first | assumption | decide | (show _ < 124; omega) | (show _ < 61; omega) | (show _ < 20; omega)) (nI_4b p1) (show 4 * p1 + 1 < 160 by omega) (ab_ln_lt _ _) ?_
          refine ab_istore6 X 0 1 2 3 4 5 d_MO_satisfied_40 (by decide) rfl rfl rfl rfl rfl rfl rfl rfl rfl rfl rfl rfl ?_
          refine ab_aload_n X 3 d_MO_satisfied_42 rfl rfl ?_
          refine ab_callV (as := []) X (fun h => by cases h) (x_MO_newRow u9 P9.1) lk_MO_267 d_MO_satisfied_43 rfl rfl (by first | assumption | decide | (show _ < 124; omega) | (show _ < 61; omega) | (show _ < 20; omega)) ⟨by first | exact Nat.le_of_ble_eq_true rfl | (simp only [ab_rm]; omega), by first | exact Nat.le_of_ble_eq_true rfl | (simp only [ab_rm]; omega)⟩ ⟨by first | exact Nat.le_of_ble_eq_true rfl | (simp only [ab_rm]; omega), by first | exact Nat.le_of_ble_eq_true rfl | (simp only [ab_rm]; omega)⟩ (Nat.le_of_ble_eq_true rfl) (fun u43 r43 h43 => ?_)
          obtain ⟨⟨q43, r43⟩, rfl⟩ := h43
          have P43 := P9.trans q43 (by decide)
          have b0 : mBs u43 none := mBs.fr3 (o := none) ⟨by rw [e9, e2]; exact (ui_n _ (by omega)).trans (ui_s _), by rw [e9]; exact ui_s _⟩ q43
          refine ab_iload X 2 d_MO_satisfied_46 rfl ?_
          refine ab_iconst (v := 1) X d_MO_satisfied_48 (by decide) ?_
          refine ab_icmp_eq X 66 d_MO_satisfied_49 rfl (fun _ => ?_) (fun hb => absurd ((by decide)) hb)
          refine ab_iload_n X 6 d_MO_satisfied_66 rfl rfl ?_
          refine ab_if_eq X 306 d_MO_satisfied_67 rfl (fun hb => absurd hb (h0)) (fun _ => ?_)
          refine ab_aload_n X 3 d_MO_satisfied_70 rfl rfl ?_
          refine ab_gR X fl_MO_33 d_MO_satisfied_71 (by first | assumption | decide | (show _ < 124; omega) | (show _ < 61; omega) | (show _ < 20; omega)) (P43.1.mo7) ?_
          refine ab_iload_n X 4 d_MO_satisfied_74 rfl rfl ?_
          refine ab_iald X (p1) ⟨rfl, rfl⟩ d_MO_satisfied_75 (by first | assumption | decide | (show _ < 124; omega) | (show _ < 61; omega) | (show _ < 20; omega)) (rfl) (show p1 < 40 by omega) (ab_ln_lt _ _) ?_
          refine ab_top (P43.ai (by decide) ek) ?_
          refine ab_iconst (v := 3) X d_MO_satisfied_76 (by decide) ?_
          refine ab_icmp_ge X 100 d_MO_satisfied_77 rfl (fun _ => ?_) (fun hb => absurd ((nI_le (a := 3) (by omega) (by omega))) hb)
          refine ab_aload_n X 3 d_MO_satisfied_100 rfl rfl ?_
          refine ab_callV (as := []) X (fun h => by cases h) (x_MO_offer u43 _ _ (some []) none P43.1 r43 b0 (oB.some (Nat.zero_le _) (fun x hx => by cases hx)) oB.none (by decide) (by decide)) lk_MO_273 d_MO_satisfied_101 rfl rfl (by first | assumption | decide | (show _ < 124; omega) | (show _ < 61; omega) | (show _ < 20; omega)) ⟨by first | exact Nat.le_of_ble_eq_true rfl | (simp only [ab_rm]; omega), by first | exact Nat.le_of_ble_eq_true rfl | (simp only [ab_rm]; omega)⟩ ⟨by first | exact Nat.le_of_ble_eq_true rfl | (simp only [ab_rm]; omega), by first | exact Nat.le_of_ble_eq_true rfl | (simp only [ab_rm]; omega)⟩ (Nat.le_of_ble_eq_true rfl) (fun u101 r101 h101 => ?_)
          obtain ⟨⟨q101, r101⟩, rfl⟩ := h101
          have P101 := P43.trans q101 (by decide)
          refine ab_goto X 306 d_MO_satisfied_104 rfl ?_
          refine ab_lv (List.forall_mem_cons.mpr ⟨List.mem_of_getElem? (i := 3) rfl, List.forall_mem_cons.mpr ⟨List.mem_of_getElem? (i := 4) rfl, List.forall_mem_cons.mpr ⟨List.mem_of_getElem? (i := 5) rfl, fun _ h => absurd h List.not_mem_nil⟩⟩⟩) ?_
          exact fin _ P101 (by rw [eS, el]; exact r101)
    · by_cases h0 : hd = 0
      · have eS := (e0 rfl k5 (by decide)).trans (if_pos h0)
        refine ab_aload_n X 0 d_MO_satisfied_0 rfl rfl ?_
        refine ab_iconst (v := (-1)) X d_MO_satisfied_1 (by decide) ?_
        refine ab_putI X fp_MO_99 d_MO_satisfied_2 (by first | assumption | decide | (show _ < 124; omega) | (show _ < 61; omega) | (show _ < 20; omega)) rfl rfl ?_
        refine ab_gen (fun u2 e2 => ?_)
        have P2 : gP [26, 27, 29, 30, 115, 116] u u2 := by rw [e2]; exact R0.ui rfl (by decide)
        refine ab_aload_n X 0 d_MO_satisfied_5 rfl rfl ?_
        refine ab_ldcw X (v := 100000) (ab_in 1248 (by decide +kernel) (by decide +kernel)) d_MO_satisfied_6 ?_
        refine ab_putI X fp_MO_102 d_MO_satisfied_9 (by first | assumption | decide | (show _ < 124; omega) | (show _ < 61; omega) | (show _ < 20; omega)) rfl rfl ?_
        refine ab_gen (fun u9 e9 => ?_)
        have P9 : gP [26, 27, 29, 30, 115, 116] u u9 := by rw [e9]; exact P2.ui rfl (by decide)
        refine ab_aload_n X 0 d_MO_satisfied_12 rfl rfl ?_
        refine ab_gR X fl_MO_45 d_MO_satisfied_13 (by first | assumption | decide | (show _ < 124; omega) | (show _ < 61; omega) | (show _ < 20; omega)) (P9.1.mo11) ?_
        refine ab_iload_n X 2 d_MO_satisfied_16 rfl rfl ?_
        refine ab_iald X (3 * p1 + j) ⟨rfl, rfl⟩ d_MO_satisfied_17 (by first | assumption | decide | (show _ < 124; omega) | (show _ < 61; omega) | (show _ < 20; omega)) (rfl) (show 3 * p1 + j < 72 by omega) (ab_ln_lt _ _) ?_
        refine ab_top (P9.ai (by decide) ew) ?_
        refine ab_istore4 X 0 1 2 3 d_MO_satisfied_18 (by decide) rfl rfl rfl rfl rfl rfl rfl rfl ?_
        refine ab_aload_n X 1 d_MO_satisfied_20 rfl rfl ?_
        refine ab_gR X fl_MO_42 d_MO_satisfied_21 (by first | assumption | decide | (show _ < 124; omega) | (show _ < 61; omega) | (show _ < 20; omega)) (P9.1.mo10) ?_
        refine ab_iconst (v := 4) X d_MO_satisfied_24 (by decide) ?_
        refine ab_iload_n X 2 d_MO_satisfied_25 rfl rfl ?_
        refine ab_imul X d_MO_satisfied_26 ?_
        refine ab_iald X (4 * p1) ⟨rfl, rfl⟩ d_MO_satisfied_27 (by first | assumption | decide | (show _ < 124; omega) | (show _ < 61; omega) | (show _ < 20; omega)) (nI_4m p1) (show 4 * p1 < 160 by omega) (ab_ln_lt _ _) ?_
        refine ab_istore5 X 0 1 2 3 4 d_MO_satisfied_28 (by decide) rfl rfl rfl rfl rfl rfl rfl rfl rfl rfl ?_
        refine ab_aload_n X 2 d_MO_satisfied_30 rfl rfl ?_
        refine ab_gR X fl_MO_42 d_MO_satisfied_31 (by first | assumption | decide | (show _ < 124; omega) | (show _ < 61; omega) | (show _ < 20; omega)) (P9.1.mo10) ?_
        refine ab_iconst (v := 4) X d_MO_satisfied_34 (by decide) ?_
        refine ab_iload_n X 3 d_MO_satisfied_35 rfl rfl ?_
        refine ab_imul X d_MO_satisfied_36 ?_
        refine ab_iconst (v := 1) X d_MO_satisfied_37 (by decide) ?_
        refine ab_iadd X d_MO_satisfied_38 ?_
        refine ab_iald X (4 * p1 + 1) ⟨rfl, rfl⟩ d_MO_satisfied_39 (by first | assumption | decide | (show _ < 124; omega) | (show _ < 61; omega) | (show _ < 20; omega)) (nI_4b p1) (show 4 * p1 + 1 < 160 by omega) (ab_ln_lt _ _) ?_
        refine ab_istore6 X 0 1 2 3 4 5 d_MO_satisfied_40 (by decide) rfl rfl rfl rfl rfl rfl rfl rfl rfl rfl rfl rfl ?_
        refine ab_aload_n X 3 d_MO_satisfied_42 rfl rfl ?_
        refine ab_callV (as := []) X (fun h => by cases h) (x_MO_newRow u9 P9.1) lk_MO_267 d_MO_satisfied_43 rfl rfl (by first | assumption | decide | (show _ < 124; omega) | (show _ < 61; omega) | (show _ < 20; omega)) ⟨by first | exact Nat.le_of_ble_eq_true rfl | (simp only [ab_rm]; omega), by first | exact Nat.le_of_ble_eq_true rfl | (simp only [ab_rm]; omega)⟩ ⟨by first | exact Nat.le_of_ble_eq_true rfl | (simp only [ab_rm]; omega), by first | exact Nat.le_of_ble_eq_true rfl | (simp only [ab_rm]; omega)⟩ (Nat.le_of_ble_eq_true rfl) (fun u43 r43 h43 => ?_)
        obtain ⟨⟨q43, r43⟩, rfl⟩ := h43
        have P43 := P9.trans q43 (by decide)
        have b0 : mBs u43 none := mBs.fr3 (o := none) ⟨by rw [e9, e2]; exact (ui_n _ (by omega)).trans (ui_s _), by rw [e9]; exact ui_s _⟩ q43
        refine ab_iload X 2 d_MO_satisfied_46 rfl ?_
        refine ab_iconst (v := 1) X d_MO_satisfied_48 (by decide) ?_
        refine ab_icmp_eq X 66 d_MO_satisfied_49 rfl (fun hb => absurd hb ((by decide))) (fun _ => ?_)
        refine ab_iload X 2 d_MO_satisfied_52 rfl ?_
        refine ab_bipush (v := 11) X d_MO_satisfied_54 (by decide) ?_
        refine ab_icmp_eq X 66 d_MO_satisfied_56 rfl (fun _ => ?_) (fun hb => absurd ((by decide)) hb)
        refine ab_iload_n X 6 d_MO_satisfied_66 rfl rfl ?_
        refine ab_if_eq X 306 d_MO_satisfied_67 rfl (fun _ => ?_) (fun hb => absurd (h0) hb)
        refine ab_lv (List.forall_mem_cons.mpr ⟨List.mem_of_getElem? (i := 3) rfl, List.forall_mem_cons.mpr ⟨List.mem_of_getElem? (i := 4) rfl, List.forall_mem_cons.mpr ⟨List.mem_of_getElem? (i := 5) rfl, fun _ h => absurd h List.not_mem_nil⟩⟩⟩) ?_
        exact fin _ P43 (by rw [eS]; exact b0)
      · have eS := (e0 rfl k5 (by decide)).trans (if_neg h0)
        by_cases k3 : kd p1 < 3
        · have el : lit (kd p1) (ar p1) = [kd p1 * 10 + ar p1] := by
            have kk : kd p1 = 1 ∨ kd p1 = 2 := by omega
            rcases kk with kk | kk <;> rw [kk] <;> rfl
          refine ab_aload_n X 0 d_MO_satisfied_0 rfl rfl ?_
          refine ab_iconst (v := (-1)) X d_MO_satisfied_1 (by decide) ?_
          refine ab_putI X fp_MO_99 d_MO_satisfied_2 (by first | assumption | decide | (show _ < 124; omega) | (show _ < 61; omega) | (show _ < 20; omega)) rfl rfl ?_
          refine ab_gen (fun u2 e2 => ?_)
          have P2 : gP [26, 27, 29, 30, 115, 116] u u2 := by rw [e2]; exact R0.ui rfl (by decide)
          refine ab_aload_n X 0 d_MO_satisfied_5 rfl rfl ?_
          refine ab_ldcw X (v := 100000) (ab_in 1248 (by decide +kernel) (by decide +kernel)) d_MO_satisfied_6 ?_
          refine ab_putI X fp_MO_102 d_MO_satisfied_9 (by first | assumption | decide | (show _ < 124; omega) | (show _ < 61; omega) | (show _ < 20; omega)) rfl rfl ?_
          refine ab_gen (fun u9 e9 => ?_)
          have P9 : gP [26, 27, 29, 30, 115, 116] u u9 := by rw [e9]; exact P2.ui rfl (by decide)
          refine ab_aload_n X 0 d_MO_satisfied_12 rfl rfl ?_
          refine ab_gR X fl_MO_45 d_MO_satisfied_13 (by first | assumption | decide | (show _ < 124; omega) | (show _ < 61; omega) | (show _ < 20; omega)) (P9.1.mo11) ?_
          refine ab_iload_n X 2 d_MO_satisfied_16 rfl rfl ?_
          refine ab_iald X (3 * p1 + j) ⟨rfl, rfl⟩ d_MO_satisfied_17 (by first | assumption | decide | (show _ < 124; omega) | (show _ < 61; omega) | (show _ < 20; omega)) (rfl) (show 3 * p1 + j < 72 by omega) (ab_ln_lt _ _) ?_
          refine ab_top (P9.ai (by decide) ew) ?_
          refine ab_istore4 X 0 1 2 3 d_MO_satisfied_18 (by decide) rfl rfl rfl rfl rfl rfl rfl rfl ?_
          refine ab_aload_n X 1 d_MO_satisfied_20 rfl rfl ?_
          refine ab_gR X fl_MO_42 d_MO_satisfied_21 (by first | assumption | decide | (show _ < 124; omega) | (show _ < 61; omega) | (show _ < 20; omega)) (P9.1.mo10) ?_
          refine ab_iconst (v := 4) X d_MO_satisfied_24 (by decide) ?_
          refine ab_iload_n X 2 d_MO_satisfied_25 rfl rfl ?_
          refine ab_imul X d_MO_satisfied_26 ?_
          refine ab_iald X (4 * p1) ⟨rfl, rfl⟩ d_MO_satisfied_27 (by first | assumption | decide | (show _ < 124; omega) | (show _ < 61; omega) | (show _ < 20; omega)) (nI_4m p1) (show 4 * p1 < 160 by omega) (ab_ln_lt _ _) ?_
          refine ab_istore5 X 0 1 2 3 4 d_MO_satisfied_28 (by decide) rfl rfl rfl rfl rfl rfl rfl rfl rfl rfl ?_
          refine ab_aload_n X 2 d_MO_satisfied_30 rfl rfl ?_
          refine ab_gR X fl_MO_42 d_MO_satisfied_31 (by first | assumption | decide | (show _ < 124; omega) | (show _ < 61; omega) | (show _ < 20; omega)) (P9.1.mo10) ?_
          refine ab_iconst (v := 4) X d_MO_satisfied_34 (by decide) ?_
          refine ab_iload_n X 3 d_MO_satisfied_35 rfl rfl ?_
          refine ab_imul X d_MO_satisfied_36 ?_
          refine ab_iconst (v := 1) X d_MO_satisfied_37 (by decide) ?_
          refine ab_iadd X d_MO_satisfied_38 ?_
          refine ab_iald X (4 * p1 + 1) ⟨rfl, rfl⟩ d_MO_satisfied_39 (by first | assumption | decide | (show _ < 124; omega) | (show _ < 61; omega) | (show _ < 20; omega)) (nI_4b p1) (show 4 * p1 + 1 < 160 by omega) (ab_ln_lt _ _) ?_
          refine ab_istore6 X 0 1 2 3 4 5 d_MO_satisfied_40 (by decide) rfl rfl rfl rfl rfl rfl rfl rfl rfl rfl rfl rfl ?_
          refine ab_aload_n X 3 d_MO_satisfied_42 rfl rfl ?_
          refine ab_callV (as := []) X (fun h => by cases h) (x_MO_newRow u9 P9.1) lk_MO_267 d_MO_satisfied_43 rfl rfl (by first | assumption | decide | (show _ < 124; omega) | (show _ < 61; omega) | (show _ < 20; omega)) ⟨by first | exact Nat.le_of_ble_eq_true rfl | (simp only [ab_rm]; omega), by first | exact Nat.le_of_ble_eq_true rfl | (simp only [ab_rm]; omega)⟩ ⟨by first | exact Nat.le_of_ble_eq_true rfl | (simp only [ab_rm]; omega), by first | exact Nat.le_of_ble_eq_true rfl | (simp only [ab_rm]; omega)⟩ (Nat.le_of_ble_eq_true rfl) (fun u43 r43 h43 => ?_)
          obtain ⟨⟨q43, r43⟩, rfl⟩ := h43
          have P43 := P9.trans q43 (by decide)
          have b0 : mBs u43 none := mBs.fr3 (o := none) ⟨by rw [e9, e2]; exact (ui_n _ (by omega)).trans (ui_s _), by rw [e9]; exact ui_s _⟩ q43
          refine ab_iload X 2 d_MO_satisfied_46 rfl ?_
          refine ab_iconst (v := 1) X d_MO_satisfied_48 (by decide) ?_
          refine ab_icmp_eq X 66 d_MO_satisfied_49 rfl (fun hb => absurd hb ((by decide))) (fun _ => ?_)
          refine ab_iload X 2 d_MO_satisfied_52 rfl ?_
          refine ab_bipush (v := 11) X d_MO_satisfied_54 (by decide) ?_
          refine ab_icmp_eq X 66 d_MO_satisfied_56 rfl (fun _ => ?_) (fun hb => absurd ((by decide)) hb)
          refine ab_iload_n X 6 d_MO_satisfied_66 rfl rfl ?_
          refine ab_if_eq X 306 d_MO_satisfied_67 rfl (fun hb => absurd hb (h0)) (fun _ => ?_)
          refine ab_aload_n X 3 d_MO_satisfied_70 rfl rfl ?_
          refine ab_gR X fl_MO_33 d_MO_satisfied_71 (by first | assumption | decide | (show _ < 124; omega) | (show _ < 61; omega) | (show _ < 20; omega)) (P43.1.mo7) ?_
          refine ab_iload_n X 4 d_MO_satisfied_74 rfl rfl ?_
          refine ab_iald X (p1) ⟨rfl, rfl⟩ d_MO_satisfied_75 (by first | assumption | decide | (show _ < 124; omega) | (show _ < 61; omega) | (show _ < 20; omega)) (rfl) (show p1 < 40 by omega) (ab_ln_lt _ _) ?_
          refine ab_top (P43.ai (by decide) ek) ?_
          refine ab_iconst (v := 3) X d_MO_satisfied_76 (by decide) ?_
          refine ab_icmp_ge X 100 d_MO_satisfied_77 rfl (fun hb => absurd hb ((nI_ge (b := 3) (by omega) (by decide)))) (fun _ => ?_)
          refine ab_aload_n X 3 d_MO_satisfied_80 rfl rfl ?_
          refine ab_aload_n X 3 d_MO_satisfied_81 rfl rfl ?_
          refine ab_gR X fl_MO_33 d_MO_satisfied_82 (by first | assumption | decide | (show _ < 124; omega) | (show _ < 61; omega) | (show _ < 20; omega)) (P43.1.mo7) ?_
          refine ab_iload_n X 4 d_MO_satisfied_85 rfl rfl ?_
          refine ab_iald X (p1) ⟨rfl, rfl⟩ d_MO_satisfied_86 (by first | assumption | decide | (show _ < 124; omega) | (show _ < 61; omega) | (show _ < 20; omega)) (rfl) (show p1 < 40 by omega) (ab_ln_lt _ _) ?_
          refine ab_top (P43.ai (by decide) ek) ?_
          refine ab_bipush (v := 10) X d_MO_satisfied_87 (by decide) ?_
          refine ab_imul X d_MO_satisfied_89 ?_
          refine ab_top (pk_mul (kd p1) 10) ?_
          refine ab_aload_n X 3 d_MO_satisfied_90 rfl rfl ?_
          refine ab_gR X fl_MO_36 d_MO_satisfied_91 (by first | assumption | decide | (show _ < 124; omega) | (show _ < 61; omega) | (show _ < 20; omega)) (P43.1.mo8) ?_
          refine ab_iload_n X 4 d_MO_satisfied_94 rfl rfl ?_
          refine ab_iald X (p1) ⟨rfl, rfl⟩ d_MO_satisfied_95 (by first | assumption | decide | (show _ < 124; omega) | (show _ < 61; omega) | (show _ < 20; omega)) (rfl) (show p1 < 40 by omega) (ab_ln_lt _ _) ?_
          refine ab_top (P43.ai (by decide) ea) ?_
          refine ab_iadd X d_MO_satisfied_96 ?_
          refine ab_top (nI_add _ _) ?_
          refine ab_callV (as := [ab_I (nI (kd p1 * 10 + ar p1))]) X (fun h => by cases h) (x_MO_item1 u43 (kd p1 * 10 + ar p1) 0 0 (some []) P43.1 r43 (Or.inr ⟨by omega, by omega⟩) (by decide) (by decide)) lk_MO_264 d_MO_satisfied_97 rfl rfl (by first | assumption | decide | (show _ < 124; omega) | (show _ < 61; omega) | (show _ < 20; omega)) ⟨by first | exact Nat.le_of_ble_eq_true rfl | (simp only [ab_rm]; omega), by first | exact Nat.le_of_ble_eq_true rfl | (simp only [ab_rm]; omega)⟩ ⟨by first | exact Nat.le_of_ble_eq_true rfl | (simp only [ab_rm]; omega), by first | exact Nat.le_of_ble_eq_true rfl | (simp only [ab_rm]; omega)⟩ (Nat.le_of_ble_eq_true rfl) (fun u97 r97 h97 => ?_)
          obtain ⟨⟨q97, r97⟩, rfl⟩ := h97
          have P97 := P43.trans q97 (by decide)
          refine ab_aload_n X 3 d_MO_satisfied_100 rfl rfl ?_
          refine ab_callV (as := []) X (fun h => by cases h) (x_MO_offer u97 _ _ (some [kd p1 * 10 + ar p1]) none P97.1 r97 (b0.fr3 q97) ((oB.one (Or.inr ⟨by omega, by omega⟩)).wk (by decide)) oB.none (by decide) (by decide)) lk_MO_273 d_MO_satisfied_101 rfl rfl (by first | assumption | decide | (show _ < 124; omega) | (show _ < 61; omega) | (show _ < 20; omega)) ⟨by first | exact Nat.le_of_ble_eq_true rfl | (simp only [ab_rm]; omega), by first | exact Nat.le_of_ble_eq_true rfl | (simp only [ab_rm]; omega)⟩ ⟨by first | exact Nat.le_of_ble_eq_true rfl | (simp only [ab_rm]; omega), by first | exact Nat.le_of_ble_eq_true rfl | (simp only [ab_rm]; omega)⟩ (Nat.le_of_ble_eq_true rfl) (fun u101 r101 h101 => ?_)
          obtain ⟨⟨q101, r101⟩, rfl⟩ := h101
          have P101 := P97.trans q101 (by decide)
          refine ab_goto X 306 d_MO_satisfied_104 rfl ?_
          refine ab_lv (List.forall_mem_cons.mpr ⟨List.mem_of_getElem? (i := 3) rfl, List.forall_mem_cons.mpr ⟨List.mem_of_getElem? (i := 4) rfl, List.forall_mem_cons.mpr ⟨List.mem_of_getElem? (i := 5) rfl, fun _ h => absurd h List.not_mem_nil⟩⟩⟩) ?_
          exact fin _ P101 (by rw [eS, el]; exact r101)
        · have el : lit (kd p1) (ar p1) = [] := (if_neg (by omega)).trans (if_neg (by omega))
          refine ab_aload_n X 0 d_MO_satisfied_0 rfl rfl ?_
          refine ab_iconst (v := (-1)) X d_MO_satisfied_1 (by decide) ?_
          refine ab_putI X fp_MO_99 d_MO_satisfied_2 (by first | assumption | decide | (show _ < 124; omega) | (show _ < 61; omega) | (show _ < 20; omega)) rfl rfl ?_
          refine ab_gen (fun u2 e2 => ?_)
          have P2 : gP [26, 27, 29, 30, 115, 116] u u2 := by rw [e2]; exact R0.ui rfl (by decide)
          refine ab_aload_n X 0 d_MO_satisfied_5 rfl rfl ?_
          refine ab_ldcw X (v := 100000) (ab_in 1248 (by decide +kernel) (by decide +kernel)) d_MO_satisfied_6 ?_
          refine ab_putI X fp_MO_102 d_MO_satisfied_9 (by first | assumption | decide | (show _ < 124; omega) | (show _ < 61; omega) | (show _ < 20; omega)) rfl rfl ?_
          refine ab_gen (fun u9 e9 => ?_)
          have P9 : gP [26, 27, 29, 30, 115, 116] u u9 := by rw [e9]; exact P2.ui rfl (by decide)
          refine ab_aload_n X 0 d_MO_satisfied_12 rfl rfl ?_
          refine ab_gR X fl_MO_45 d_MO_satisfied_13 (by first | assumption | decide | (show _ < 124; omega) | (show _ < 61; omega) | (show _ < 20; omega)) (P9.1.mo11) ?_
          refine ab_iload_n X 2 d_MO_satisfied_16 rfl rfl ?_
          refine ab_iald X (3 * p1 + j) ⟨rfl, rfl⟩ d_MO_satisfied_17 (by first | assumption | decide | (show _ < 124; omega) | (show _ < 61; omega) | (show _ < 20; omega)) (rfl) (show 3 * p1 + j < 72 by omega) (ab_ln_lt _ _) ?_
          refine ab_top (P9.ai (by decide) ew) ?_
          refine ab_istore4 X 0 1 2 3 d_MO_satisfied_18 (by decide) rfl rfl rfl rfl rfl rfl rfl rfl ?_
          refine ab_aload_n X 1 d_MO_satisfied_20 rfl rfl ?_
          refine ab_gR X fl_MO_42 d_MO_satisfied_21 (by first | assumption | decide | (show _ < 124; omega) | (show _ < 61; omega) | (show _ < 20; omega)) (P9.1.mo10) ?_
          refine ab_iconst (v := 4) X d_MO_satisfied_24 (by decide) ?_
          refine ab_iload_n X 2 d_MO_satisfied_25 rfl rfl ?_
          refine ab_imul X d_MO_satisfied_26 ?_
          refine ab_iald X (4 * p1) ⟨rfl, rfl⟩ d_MO_satisfied_27 (by first | assumption | decide | (show _ < 124; omega) | (show _ < 61; omega) | (show _ < 20; omega)) (nI_4m p1) (show 4 * p1 < 160 by omega) (ab_ln_lt _ _) ?_
          refine ab_istore5 X 0 1 2 3 4 d_MO_satisfied_28 (by decide) rfl rfl rfl rfl rfl rfl rfl rfl rfl rfl ?_
          refine ab_aload_n X 2 d_MO_satisfied_30 rfl rfl ?_
          refine ab_gR X fl_MO_42 d_MO_satisfied_31 (by first | assumption | decide | (show _ < 124; omega) | (show _ < 61; omega) | (show _ < 20; omega)) (P9.1.mo10) ?_
          refine ab_iconst (v := 4) X d_MO_satisfied_34 (by decide) ?_
          refine ab_iload_n X 3 d_MO_satisfied_35 rfl rfl ?_
          refine ab_imul X d_MO_satisfied_36 ?_
          refine ab_iconst (v := 1) X d_MO_satisfied_37 (by decide) ?_
          refine ab_iadd X d_MO_satisfied_38 ?_
          refine ab_iald X (4 * p1 + 1) ⟨rfl, rfl⟩ d_MO_satisfied_39 (by first | assumption | decide | (show _ < 124; omega) | (show _ < 61; omega) | (show _ < 20; omega)) (nI_4b p1) (show 4 * p1 + 1 < 160 by omega) (ab_ln_lt _ _) ?_
          refine ab_istore6 X 0 1 2 3 4 5 d_MO_satisfied_40 (by decide) rfl rfl rfl rfl rfl rfl rfl rfl rfl rfl rfl rfl ?_
          refine ab_aload_n X 3 d_MO_satisfied_42 rfl rfl ?_
          refine ab_callV (as := []) X (fun h => by cases h) (x_MO_newRow u9 P9.1) lk_MO_267 d_MO_satisfied_43 rfl rfl (by first | assumption | decide | (show _ < 124; omega) | (show _ < 61; omega) | (show _ < 20; omega)) ⟨by first | exact Nat.le_of_ble_eq_true rfl | (simp only [ab_rm]; omega), by first | exact Nat.le_of_ble_eq_true rfl | (simp only [ab_rm]; omega)⟩ ⟨by first | exact Nat.le_of_ble_eq_true rfl | (simp only [ab_rm]; omega), by first | exact Nat.le_of_ble_eq_true rfl | (simp only [ab_rm]; omega)⟩ (Nat.le_of_ble_eq_true rfl) (fun u43 r43 h43 => ?_)
          obtain ⟨⟨q43, r43⟩, rfl⟩ := h43
          have P43 := P9.trans q43 (by decide)
          have b0 : mBs u43 none := mBs.fr3 (o := none) ⟨by rw [e9, e2]; exact (ui_n _ (by omega)).trans (ui_s _), by rw [e9]; exact ui_s _⟩ q43
          refine ab_iload X 2 d_MO_satisfied_46 rfl ?_
          refine ab_iconst (v := 1) X d_MO_satisfied_48 (by decide) ?_
          refine ab_icmp_eq X 66 d_MO_satisfied_49 rfl (fun hb => absurd hb ((by decide))) (fun _ => ?_)
          refine ab_iload X 2 d_MO_satisfied_52 rfl ?_
          refine ab_bipush (v := 11) X d_MO_satisfied_54 (by decide) ?_
          refine ab_icmp_eq X 66 d_MO_satisfied_56 rfl (fun _ => ?_) (fun hb => absurd ((by decide)) hb)
          refine ab_iload_n X 6 d_MO_satisfied_66 rfl rfl ?_
          refine ab_if_eq X 306 d_MO_satisfied_67 rfl (fun hb => absurd hb (h0)) (fun _ => ?_)
          refine ab_aload_n X 3 d_MO_satisfied_70 rfl rfl ?_
          refine ab_gR X fl_MO_33 d_MO_satisfied_71 (by first | assumption | decide | (show _ < 124; omega) | (show _ < 61; omega) | (show _ < 20; omega)) (P43.1.mo7) ?_
          refine ab_iload_n X 4 d_MO_satisfied_74 rfl rfl ?_
          refine ab_iald X (p1) ⟨rfl, rfl⟩ d_MO_satisfied_75 (by first | assumption | decide | (show _ < 124; omega) | (show _ < 61; omega) | (show _ < 20; omega)) (rfl) (show p1 < 40 by omega) (ab_ln_lt _ _) ?_
          refine ab_top (P43.ai (by decide) ek) ?_
          refine ab_iconst (v := 3) X d_MO_satisfied_76 (by decide) ?_
          refine ab_icmp_ge X 100 d_MO_satisfied_77 rfl (fun _ => ?_) (fun hb => absurd ((nI_le (a := 3) (by omega) (by omega))) hb)
          refine ab_aload_n X 3 d_MO_satisfied_100 rfl rfl ?_
          refine ab_callV (as := []) X (fun h => by cases h) (x_MO_offer u43 _ _ (some []) none P43.1 r43 b0 (oB.some (Nat.zero_le _) (fun x hx => by cases hx)) oB.none (by decide) (by decide)) lk_MO_273 d_MO_satisfied_101 rfl rfl (by first | assumption | decide | (show _ < 124; omega) | (show _ < 61; omega) | (show _ < 20; omega)) ⟨by first | exact Nat.le_of_ble_eq_true rfl | (simp only [ab_rm]; omega), by first | exact Nat.le_of_ble_eq_true rfl | (simp only [ab_rm]; omega)⟩ ⟨by first | exact Nat.le_of_ble_eq_true rfl | (simp only [ab_rm]; omega), by first | exact Nat.le_of_ble_eq_true rfl | (simp only [ab_rm]; omega)⟩ (Nat.le_of_ble_eq_true rfl) (fun u101 r101 h101 => ?_)
          obtain ⟨⟨q101, r101⟩, rfl⟩ := h101
          have P101 := P43.trans q101 (by decide)
          refine ab_goto X 306 d_MO_satisfied_104 rfl ?_
          refine ab_lv (List.forall_mem_cons.mpr ⟨List.mem_of_getElem? (i := 3) rfl, List.forall_mem_cons.mpr ⟨List.mem_of_getElem? (i := 4) rfl, List.forall_mem_cons.mpr ⟨List.mem_of_getElem? (i := 5) rfl, fun _ h => absurd h List.not_mem_nil⟩⟩⟩) ?_
          exact fin _ P101 (by rw [eS, el]; exact r101)
    · by_cases h0 : hd = 0
      · have eS := (e0 rfl k5 (by decide)).trans (if_pos h0)
        refine ab_aload_n X 0 d_MO_satisfied_0 rfl rfl ?_
        refine ab_iconst (v := (-1)) X d_MO_satisfied_1 (by decide) ?_
        refine ab_putI X fp_MO_99 d_MO_satisfied_2 (by first | assumption | decide | (show _ < 124; omega) | (show _ < 61; omega) | (show _ < 20; omega)) rfl rfl ?_
        refine ab_gen (fun u2 e2 => ?_)
        have P2 : gP [26, 27, 29, 30, 115, 116] u u2 := by rw [e2]; exact R0.ui rfl (by decide)
        refine ab_aload_n X 0 d_MO_satisfied_5 rfl rfl ?_
        refine ab_ldcw X (v := 100000) (ab_in 1248 (by decide +kernel) (by decide +kernel)) d_MO_satisfied_6 ?_
        refine ab_putI X fp_MO_102 d_MO_satisfied_9 (by first | assumption | decide | (show _ < 124; omega) | (show _ < 61; omega) | (show _ < 20; omega)) rfl rfl ?_
        refine ab_gen (fun u9 e9 => ?_)
        have P9 : gP [26, 27, 29, 30, 115, 116] u u9 := by rw [e9]; exact P2.ui rfl (by decide)
        refine ab_aload_n X 0 d_MO_satisfied_12 rfl rfl ?_
        refine ab_gR X fl_MO_45 d_MO_satisfied_13 (by first | assumption | decide | (show _ < 124; omega) | (show _ < 61; omega) | (show _ < 20; omega)) (P9.1.mo11) ?_
        refine ab_iload_n X 2 d_MO_satisfied_16 rfl rfl ?_
        refine ab_iald X (3 * p1 + j) ⟨rfl, rfl⟩ d_MO_satisfied_17 (by first | assumption | decide | (show _ < 124; omega) | (show _ < 61; omega) | (show _ < 20; omega)) (rfl) (show 3 * p1 + j < 72 by omega) (ab_ln_lt _ _) ?_
        refine ab_top (P9.ai (by decide) ew) ?_
        refine ab_istore4 X 0 1 2 3 d_MO_satisfied_18 (by decide) rfl rfl rfl rfl rfl rfl rfl rfl ?_
        refine ab_aload_n X 1 d_MO_satisfied_20 rfl rfl ?_
        refine ab_gR X fl_MO_42 d_MO_satisfied_21 (by first | assumption | decide | (show _ < 124; omega) | (show _ < 61; omega) | (show _ < 20; omega)) (P9.1.mo10) ?_
        refine ab_iconst (v := 4) X d_MO_satisfied_24 (by decide) ?_
        refine ab_iload_n X 2 d_MO_satisfied_25 rfl rfl ?_
        refine ab_imul X d_MO_satisfied_26 ?_
        refine ab_iald X (4 * p1) ⟨rfl, rfl⟩ d_MO_satisfied_27 (by first | assumption | decide | (show _ < 124; omega) | (show _ < 61; omega) | (show _ < 20; omega)) (nI_4m p1) (show 4 * p1 < 160 by omega) (ab_ln_lt _ _) ?_
        refine ab_istore5 X 0 1 2 3 4 d_MO_satisfied_28 (by decide) rfl rfl rfl rfl rfl rfl rfl rfl rfl rfl ?_
        refine ab_aload_n X 2 d_MO_satisfied_30 rfl rfl ?_
        refine ab_gR X fl_MO_42 d_MO_satisfied_31 (by first | assumption | decide | (show _ < 124; omega) | (show _ < 61; omega) | (show _ < 20; omega)) (P9.1.mo10) ?_
        refine ab_iconst (v := 4) X d_MO_satisfied_34 (by decide) ?_
        refine ab_iload_n X 3 d_MO_satisfied_35 rfl rfl ?_
        refine ab_imul X d_MO_satisfied_36 ?_
        refine ab_iconst (v := 1) X d_MO_satisfied_37 (by decide) ?_
        refine ab_iadd X d_MO_satisfied_38 ?_
        refine ab_iald X (4 * p1 + 1) ⟨rfl, rfl⟩ d_MO_satisfied_39 (by first | assumption | decide | (show _ < 124; omega) | (show _ < 61; omega) | (show _ < 20; omega)) (nI_4b p1) (show 4 * p1 + 1 < 160 by omega) (ab_ln_lt _ _) ?_
        refine ab_istore6 X 0 1 2 3 4 5 d_MO_satisfied_40 (by decide) rfl rfl rfl rfl rfl rfl rfl rfl rfl rfl rfl rfl ?_
        refine ab_aload_n X 3 d_MO_satisfied_42 rfl rfl ?_
        refine ab_callV (as := []) X (fun h => by cases h) (x_MO_newRow u9 P9.1) lk_MO_267 d_MO_satisfied_43 rfl rfl (by first | assumption | decide | (show _ < 124; omega) | (show _ < 61; omega) | (show _ < 20; omega)) ⟨by first | exact Nat.le_of_ble_eq_true rfl | (simp only [ab_rm]; omega), by first | exact Nat.le_of_ble_eq_true rfl | (simp only [ab_rm]; omega)⟩ ⟨by first | exact Nat.le_of_ble_eq_true rfl | (simp only [ab_rm]; omega), by first | exact Nat.le_of_ble_eq_true rfl | (simp only [ab_rm]; omega)⟩ (Nat.le_of_ble_eq_true rfl) (fun u43 r43 h43 => ?_)
        obtain ⟨⟨q43, r43⟩, rfl⟩ := h43
        have P43 := P9.trans q43 (by decide)
        have b0 : mBs u43 none := mBs.fr3 (o := none) ⟨by rw [e9, e2]; exact (ui_n _ (by omega)).trans (ui_s _), by rw [e9]; exact ui_s _⟩ q43
        refine ab_iload X 2 d_MO_satisfied_46 rfl ?_
        refine ab_iconst (v := 1) X d_MO_satisfied_48 (by decide) ?_
        refine ab_icmp_eq X 66 d_MO_satisfied_49 rfl (fun hb => absurd hb ((by decide))) (fun _ => ?_)
        refine ab_iload X 2 d_MO_satisfied_52 rfl ?_
        refine ab_bipush (v := 11) X d_MO_satisfied_54 (by decide) ?_
        refine ab_icmp_eq X 66 d_MO_satisfied_56 rfl (fun hb => absurd hb ((by decide))) (fun _ => ?_)
        refine ab_iload X 2 d_MO_satisfied_59 rfl ?_
        refine ab_bipush (v := 12) X d_MO_satisfied_61 (by decide) ?_
        refine ab_icmp_ne X 107 d_MO_satisfied_63 rfl (fun hb => absurd ((by decide)) hb) (fun _ => ?_)
        refine ab_iload_n X 6 d_MO_satisfied_66 rfl rfl ?_
        refine ab_if_eq X 306 d_MO_satisfied_67 rfl (fun _ => ?_) (fun hb => absurd (h0) hb)
        refine ab_lv (List.forall_mem_cons.mpr ⟨List.mem_of_getElem? (i := 3) rfl, List.forall_mem_cons.mpr ⟨List.mem_of_getElem? (i := 4) rfl, List.forall_mem_cons.mpr ⟨List.mem_of_getElem? (i := 5) rfl, fun _ h => absurd h List.not_mem_nil⟩⟩⟩) ?_
        exact fin _ P43 (by rw [eS]; exact b0)
      · have eS := (e0 rfl k5 (by decide)).trans (if_neg h0)
        by_cases k3 : kd p1 < 3
        · have el : lit (kd p1) (ar p1) = [kd p1 * 10 + ar p1] := by
            have kk : kd p1 = 1 ∨ kd p1 = 2 := by omega
            rcases kk with kk | kk <;> rw [kk] <;> rfl
          refine ab_aload_n X 0 d_MO_satisfied_0 rfl rfl ?_
          refine ab_iconst (v := (-1)) X d_MO_satisfied_1 (by decide) ?_
          refine ab_putI X fp_MO_99 d_MO_satisfied_2 (by first | assumption | decide | (show _ < 124; omega) | (show _ < 61; omega) | (show _ < 20; omega)) rfl rfl ?_
          refine ab_gen (fun u2 e2 => ?_)
          have P2 : gP [26, 27, 29, 30, 115, 116] u u2 := by rw [e2]; exact R0.ui rfl (by decide)
          refine ab_aload_n X 0 d_MO_satisfied_5 rfl rfl ?_
          refine ab_ldcw X (v := 100000) (ab_in 1248 (by decide +kernel) (by decide +kernel)) d_MO_satisfied_6 ?_
          refine ab_putI X fp_MO_102 d_MO_satisfied_9 (by first | assumption | decide | (show _ < 124; omega) | (show _ < 61; omega) | (show _ < 20; omega)) rfl rfl ?_
          refine ab_gen (fun u9 e9 => ?_)
          have P9 : gP [26, 27, 29, 30, 115, 116] u u9 := by rw [e9]; exact P2.ui rfl (by decide)
          refine ab_aload_n X 0 d_MO_satisfied_12 rfl rfl ?_
          refine ab_gR X fl_MO_45 d_MO_satisfied_13 (by first | assumption | decide | (show _ < 124; omega) | (show _ < 61; omega) | (show _ < 20; omega)) (P9.1.mo11) ?_
          refine ab_iload_n X 2 d_MO_satisfied_16 rfl rfl ?_
          refine ab_iald X (3 * p1 + j) ⟨rfl, rfl⟩ d_MO_satisfied_17 (by first | assumption | decide | (show _ < 124; omega) | (show _ < 61; omega) | (show _ < 20; omega)) (rfl) (show 3 * p1 + j < 72 by omega) (ab_ln_lt _ _) ?_
          refine ab_top (P9.ai (by decide) ew) ?_
          refine ab_istore4 X 0 1 2 3 d_MO_satisfied_18 (by decide) rfl rfl rfl rfl rfl rfl rfl rfl ?_
          refine ab_aload_n X 1 d_MO_satisfied_20 rfl rfl ?_
          refine ab_gR X fl_MO_42 d_MO_satisfied_21 (by first | assumption | decide | (show _ < 124; omega) | (show _ < 61; omega) | (show _ < 20; omega)) (P9.1.mo10) ?_
          refine ab_iconst (v := 4) X d_MO_satisfied_24 (by decide) ?_
          refine ab_iload_n X 2 d_MO_satisfied_25 rfl rfl ?_
          refine ab_imul X d_MO_satisfied_26 ?_
          refine ab_iald X (4 * p1) ⟨rfl, rfl⟩ d_MO_satisfied_27 (by first | assumption | decide | (show _ < 124; omega) | (show _ < 61; omega) | (show _ < 20; omega)) (nI_4m p1) (show 4 * p1 < 160 by omega) (ab_ln_lt _ _) ?_
          refine ab_istore5 X 0 1 2 3 4 d_MO_satisfied_28 (by decide) rfl rfl rfl rfl rfl rfl rfl rfl rfl rfl ?_
          refine ab_aload_n X 2 d_MO_satisfied_30 rfl rfl ?_
          refine ab_gR X fl_MO_42 d_MO_satisfied_31 (by first | assumption | decide | (show _ < 124; omega) | (show _ < 61; omega) | (show _ < 20; omega)) (P9.1.mo10) ?_
          refine ab_iconst (v := 4) X d_MO_satisfied_34 (by decide) ?_
          refine ab_iload_n X 3 d_MO_satisfied_35 rfl rfl ?_
          refine ab_imul X d_MO_satisfied_36 ?_
          refine ab_iconst (v := 1) X d_MO_satisfied_37 (by decide) ?_
          refine ab_iadd X d_MO_satisfied_38 ?_
          refine ab_iald X (4 * p1 + 1) ⟨rfl, rfl⟩ d_MO_satisfied_39 (by first | assumption | decide | (show _ < 124; omega) | (show _ < 61; omega) | (show _ < 20; omega)) (nI_4b p1) (show 4 * p1 + 1 < 160 by omega) (ab_ln_lt _ _) ?_
          refine ab_istore6 X 0 1 2 3 4 5 d_MO_satisfied_40 (by decide) rfl rfl rfl rfl rfl rfl rfl rfl rfl rfl rfl rfl ?_
          refine ab_aload_n X 3 d_MO_satisfied_42 rfl rfl ?_
          refine ab_callV (as := []) X (fun h => by cases h) (x_MO_newRow u9 P9.1) lk_MO_267 d_MO_satisfied_43 rfl rfl (by first | assumption | decide | (show _ < 124; omega) | (show _ < 61; omega) | (show _ < 20; omega)) ⟨by first | exact Nat.le_of_ble_eq_true rfl | (simp only [ab_rm]; omega), by first | exact Nat.le_of_ble_eq_true rfl | (simp only [ab_rm]; omega)⟩ ⟨by first | exact Nat.le_of_ble_eq_true rfl | (simp only [ab_rm]; omega), by first | exact Nat.le_of_ble_eq_true rfl | (simp only [ab_rm]; omega)⟩ (Nat.le_of_ble_eq_true rfl) (fun u43 r43 h43 => ?_)
          obtain ⟨⟨q43, r43⟩, rfl⟩ := h43
          have P43 := P9.trans q43 (by decide)
          have b0 : mBs u43 none := mBs.fr3 (o := none) ⟨by rw [e9, e2]; exact (ui_n _ (by omega)).trans (ui_s _), by rw [e9]; exact ui_s _⟩ q43
          refine ab_iload X 2 d_MO_satisfied_46 rfl ?_
          refine ab_iconst (v := 1) X d_MO_satisfied_48 (by decide) ?_
          refine ab_icmp_eq X 66 d_MO_satisfied_49 rfl (fun hb => absurd hb ((by decide))) (fun _ => ?_)
          refine ab_iload X 2 d_MO_satisfied_52 rfl ?_
          refine ab_bipush (v := 11) X d_MO_satisfied_54 (by decide) ?_
          refine ab_icmp_eq X 66 d_MO_satisfied_56 rfl (fun hb => absurd hb ((by decide))) (fun _ => ?_)
          refine ab_iload X 2 d_MO_satisfied_59 rfl ?_
          refine ab_bipush (v := 12) X d_MO_satisfied_61 (by decide) ?_
          refine ab_icmp_ne X 107 d_MO_satisfied_63 rfl (fun hb => absurd ((by decide)) hb) (fun _ => ?_)
          refine ab_iload_n X 6 d_MO_satisfied_66 rfl rfl ?_
          refine ab_if_eq X 306 d_MO_satisfied_67 rfl (fun hb => absurd hb (h0)) (fun _ => ?_)
          refine ab_aload_n X 3 d_MO_satisfied_70 rfl rfl ?_
          refine ab_gR X fl_MO_33 d_MO_satisfied_71 (by first | assumption | decide | (show _ < 124; omega) | (show _ < 61; omega) | (show _ < 20; omega)) (P43.1.mo7) ?_
          refine ab_iload_n X 4 d_MO_satisfied_74 rfl rfl ?_
          refine ab_iald X (p1) ⟨rfl, rfl⟩ d_MO_satisfied_75 (by first | assumption | decide | (show _ < 124; omega) | (show _ < 61; omega) | (show _ < 20; omega)) (rfl) (show p1 < 40 by omega) (ab_ln_lt _ _) ?_
          refine ab_top (P43.ai (by decide) ek) ?_
          refine ab_iconst (v := 3) X d_MO_satisfied_76 (by decide) ?_
          refine ab_icmp_ge X 100 d_MO_satisfied_77 rfl (fun hb => absurd hb ((nI_ge (b := 3) (by omega) (by decide)))) (fun _ => ?_)
          refine ab_aload_n X 3 d_MO_satisfied_80 rfl rfl ?_
          refine ab_aload_n X 3 d_MO_satisfied_81 rfl rfl ?_
          refine ab_gR X fl_MO_33 d_MO_satisfied_82 (by first | assumption | decide | (show _ < 124; omega) | (show _ < 61; omega) | (show _ < 20; omega)) (P43.1.mo7) ?_
          refine ab_iload_n X 4 d_MO_satisfied_85 rfl rfl ?_
          refine ab_iald X (p1) ⟨rfl, rfl⟩ d_MO_satisfied_86 (by first | assumption | decide | (show _ < 124; omega) | (show _ < 61; omega) | (show _ < 20; omega)) (rfl) (show p1 < 40 by omega) (ab_ln_lt _ _) ?_
          refine ab_top (P43.ai (by decide) ek) ?_
          refine ab_bipush (v := 10) X d_MO_satisfied_87 (by decide) ?_
          refine ab_imul X d_MO_satisfied_89 ?_
          refine ab_top (pk_mul (kd p1) 10) ?_
          refine ab_aload_n X 3 d_MO_satisfied_90 rfl rfl ?_
          refine ab_gR X fl_MO_36 d_MO_satisfied_91 (by first | assumption | decide | (show _ < 124; omega) | (show _ < 61; omega) | (show _ < 20; omega)) (P43.1.mo8) ?_
          refine ab_iload_n X 4 d_MO_satisfied_94 rfl rfl ?_
          refine ab_iald X (p1) ⟨rfl, rfl⟩ d_MO_satisfied_95 (by first | assumption | decide | (show _ < 124; omega) | (show _ < 61; omega) | (show _ < 20; omega)) (rfl) (show p1 < 40 by omega) (ab_ln_lt _ _) ?_
          refine ab_top (P43.ai (by decide) ea) ?_
          refine ab_iadd X d_MO_satisfied_96 ?_
          refine ab_top (nI_add _ _) ?_
          refine ab_callV (as := [ab_I (nI (kd p1 * 10 + ar p1))]) X (fun h => by cases h) (x_MO_item1 u43 (kd p1 * 10 + ar p1) 0 0 (some []) P43.1 r43 (Or.inr ⟨by omega, by omega⟩) (by decide) (by decide)) lk_MO_264 d_MO_satisfied_97 rfl rfl (by first | assumption | decide | (show _ < 124; omega) | (show _ < 61; omega) | (show _ < 20; omega)) ⟨by first | exact Nat.le_of_ble_eq_true rfl | (simp only [ab_rm]; omega), by first | exact Nat.le_of_ble_eq_true rfl | (simp only [ab_rm]; omega)⟩ ⟨by first | exact Nat.le_of_ble_eq_true rfl | (simp only [ab_rm]; omega), by first | exact Nat.le_of_ble_eq_true rfl | (simp only [ab_rm]; omega)⟩ (Nat.le_of_ble_eq_true rfl) (fun u97 r97 h97 => ?_)
          obtain ⟨⟨q97, r97⟩, rfl⟩ := h97
          have P97 := P43.trans q97 (by decide)
          refine ab_aload_n X 3 d_MO_satisfied_100 rfl rfl ?_
          refine ab_callV (as := []) X (fun h => by cases h) (x_MO_offer u97 _ _ (some [kd p1 * 10 + ar p1]) none P97.1 r97 (b0.fr3 q97) ((oB.one (Or.inr ⟨by omega, by omega⟩)).wk (by decide)) oB.none (by decide) (by decide)) lk_MO_273 d_MO_satisfied_101 rfl rfl (by first | assumption | decide | (show _ < 124; omega) | (show _ < 61; omega) | (show _ < 20; omega)) ⟨by first | exact Nat.le_of_ble_eq_true rfl | (simp only [ab_rm]; omega), by first | exact Nat.le_of_ble_eq_true rfl | (simp only [ab_rm]; omega)⟩ ⟨by first | exact Nat.le_of_ble_eq_true rfl | (simp only [ab_rm]; omega), by first | exact Nat.le_of_ble_eq_true rfl | (simp only [ab_rm]; omega)⟩ (Nat.le_of_ble_eq_true rfl) (fun u101 r101 h101 => ?_)
          obtain ⟨⟨q101, r101⟩, rfl⟩ := h101
          have P101 := P97.trans q101 (by decide)
          refine ab_goto X 306 d_MO_satisfied_104 rfl ?_
          refine ab_lv (List.forall_mem_cons.mpr ⟨List.mem_of_getElem? (i := 3) rfl, List.forall_mem_cons.mpr ⟨List.mem_of_getElem? (i := 4) rfl, List.forall_mem_cons.mpr ⟨List.mem_of_getElem? (i := 5) rfl, fun _ h => absurd h List.not_mem_nil⟩⟩⟩) ?_
          exact fin _ P101 (by rw [eS, el]; exact r101)
        · have el : lit (kd p1) (ar p1) = [] := (if_neg (by omega)).trans (if_neg (by omega))
          refine ab_aload_n X 0 d_MO_satisfied_0 rfl rfl ?_
          refine ab_iconst (v := (-1)) X d_MO_satisfied_1 (by decide) ?_
          refine ab_putI X fp_MO_99 d_MO_satisfied_2 (by first | assumption | decide | (show _ < 124; omega) | (show _ < 61; omega) | (show _ < 20; omega)) rfl rfl ?_
          refine ab_gen (fun u2 e2 => ?_)
          have P2 : gP [26, 27, 29, 30, 115, 116] u u2 := by rw [e2]; exact R0.ui rfl (by decide)
          refine ab_aload_n X 0 d_MO_satisfied_5 rfl rfl ?_
          refine ab_ldcw X (v := 100000) (ab_in 1248 (by decide +kernel) (by decide +kernel)) d_MO_satisfied_6 ?_
          refine ab_putI X fp_MO_102 d_MO_satisfied_9 (by first | assumption | decide | (show _ < 124; omega) | (show _ < 61; omega) | (show _ < 20; omega)) rfl rfl ?_
          refine ab_gen (fun u9 e9 => ?_)
          have P9 : gP [26, 27, 29, 30, 115, 116] u u9 := by rw [e9]; exact P2.ui rfl (by decide)
          refine ab_aload_n X 0 d_MO_satisfied_12 rfl rfl ?_
          refine ab_gR X fl_MO_45 d_MO_satisfied_13 (by first | assumption | decide | (show _ < 124; omega) | (show _ < 61; omega) | (show _ < 20; omega)) (P9.1.mo11) ?_
          refine ab_iload_n X 2 d_MO_satisfied_16 rfl rfl ?_
          refine ab_iald X (3 * p1 + j) ⟨rfl, rfl⟩ d_MO_satisfied_17 (by first | assumption | decide | (show _ < 124; omega) | (show _ < 61; omega) | (show _ < 20; omega)) (rfl) (show 3 * p1 + j < 72 by omega) (ab_ln_lt _ _) ?_
          refine ab_top (P9.ai (by decide) ew) ?_
          refine ab_istore4 X 0 1 2 3 d_MO_satisfied_18 (by decide) rfl rfl rfl rfl rfl rfl rfl rfl ?_
          refine ab_aload_n X 1 d_MO_satisfied_20 rfl rfl ?_
          refine ab_gR X fl_MO_42 d_MO_satisfied_21 (by first | assumption | decide | (show _ < 124; omega) | (show _ < 61; omega) | (show _ < 20; omega)) (P9.1.mo10) ?_
          refine ab_iconst (v := 4) X d_MO_satisfied_24 (by decide) ?_
          refine ab_iload_n X 2 d_MO_satisfied_25 rfl rfl ?_
          refine ab_imul X d_MO_satisfied_26 ?_
          refine ab_iald X (4 * p1) ⟨rfl, rfl⟩ d_MO_satisfied_27 (by first | assumption | decide | (show _ < 124; omega) | (show _ < 61; omega) | (show _ < 20; omega)) (nI_4m p1) (show 4 * p1 < 160 by omega) (ab_ln_lt _ _) ?_
          refine ab_istore5 X 0 1 2 3 4 d_MO_satisfied_28 (by decide) rfl rfl rfl rfl rfl rfl rfl rfl rfl rfl ?_
          refine ab_aload_n X 2 d_MO_satisfied_30 rfl rfl ?_
          refine ab_gR X fl_MO_42 d_MO_satisfied_31 (by first | assumption | decide | (show _ < 124; omega) | (show _ < 61; omega) | (show _ < 20; omega)) (P9.1.mo10) ?_
          refine ab_iconst (v := 4) X d_MO_satisfied_34 (by decide) ?_
          refine ab_iload_n X 3 d_MO_satisfied_35 rfl rfl ?_
          refine ab_imul X d_MO_satisfied_36 ?_
          refine ab_iconst (v := 1) X d_MO_satisfied_37 (by decide) ?_
          refine ab_iadd X d_MO_satisfied_38 ?_
          refine ab_iald X (4 * p1 + 1) ⟨rfl, rfl⟩ d_MO_satisfied_39 (by first | assumption | decide | (show _ < 124; omega) | (show _ < 61; omega) | (show _ < 20; omega)) (nI_4b p1) (show 4 * p1 + 1 < 160 by omega) (ab_ln_lt _ _) ?_
          refine ab_istore6 X 0 1 2 3 4 5 d_MO_satisfied_40 (by decide) rfl rfl rfl rfl rfl rfl rfl rfl rfl rfl rfl rfl ?_
          refine ab_aload_n X 3 d_MO_satisfied_42 rfl rfl ?_
          refine ab_callV (as := []) X (fun h => by cases h) (x_MO_newRow u9 P9.1) lk_MO_267 d_MO_satisfied_43 rfl rfl (by first | assumption | decide | (show _ < 124; omega) | (show _ < 61; omega) | (show _ < 20; omega)) ⟨by first | exact Nat.le_of_ble_eq_true rfl | (simp only [ab_rm]; omega), by first | exact Nat.le_of_ble_eq_true rfl | (simp only [ab_rm]; omega)⟩ ⟨by first | exact Nat.le_of_ble_eq_true rfl | (simp only [ab_rm]; omega), by first | exact Nat.le_of_ble_eq_true rfl | (simp only [ab_rm]; omega)⟩ (Nat.le_of_ble_eq_true rfl) (fun u43 r43 h43 => ?_)
          obtain ⟨⟨q43, r43⟩, rfl⟩ := h43
          have P43 := P9.trans q43 (by decide)
          have b0 : mBs u43 none := mBs.fr3 (o := none) ⟨by rw [e9, e2]; exact (ui_n _ (by omega)).trans (ui_s _), by rw [e9]; exact ui_s _⟩ q43
          refine ab_iload X 2 d_MO_satisfied_46 rfl ?_
          refine ab_iconst (v := 1) X d_MO_satisfied_48 (by decide) ?_
          refine ab_icmp_eq X 66 d_MO_satisfied_49 rfl (fun hb => absurd hb ((by decide))) (fun _ => ?_)
          refine ab_iload X 2 d_MO_satisfied_52 rfl ?_
          refine ab_bipush (v := 11) X d_MO_satisfied_54 (by decide) ?_
          refine ab_icmp_eq X 66 d_MO_satisfied_56 rfl (fun hb => absurd hb ((by decide))) (fun _ => ?_)
          refine ab_iload X 2 d_MO_satisfied_59 rfl ?_
          refine ab_bipush (v := 12) X d_MO_satisfied_61 (by decide) ?_
          refine ab_icmp_ne X 107 d_MO_satisfied_63 rfl (fun hb => absurd ((by decide)) hb) (fun _ => ?_)
          refine ab_iload_n X 6 d_MO_satisfied_66 rfl rfl ?_
          refine ab_if_eq X 306 d_MO_satisfied_67 rfl (fun hb => absurd hb (h0)) (fun _ => ?_)
          refine ab_aload_n X 3 d_MO_satisfied_70 rfl rfl ?_
          refine ab_gR X fl_MO_33 d_MO_satisfied_71 (by first | assumption | decide | (show _ < 124; omega) | (show _ < 61; omega) | (show _ < 20; omega)) (P43.1.mo7) ?_
          refine ab_iload_n X 4 d_MO_satisfied_74 rfl rfl ?_
          refine ab_iald X (p1) ⟨rfl, rfl⟩ d_MO_satisfied_75 (by first | assumption | decide | (show _ < 124; omega) | (show _ < 61; omega) | (show _ < 20; omega)) (rfl) (show p1 < 40 by omega) (ab_ln_lt _ _) ?_
          refine ab_top (P43.ai (by decide) ek) ?_
          refine ab_iconst (v := 3) X d_MO_satisfied_76 (by decide) ?_
          refine ab_icmp_ge X 100 d_MO_satisfied_77 rfl (fun _ => ?_) (fun hb => absurd ((nI_le (a := 3) (by omega) (by omega))) hb)
          refine ab_aload_n X 3 d_MO_satisfied_100 rfl rfl ?_
          refine ab_callV (as := []) X (fun h => by cases h) (x_MO_offer u43 _ _ (some []) none P43.1 r43 b0 (oB.some (Nat.zero_le _) (fun x hx => by cases hx)) oB.none (by decide) (by decide)) lk_MO_273 d_MO_satisfied_101 rfl rfl (by first | assumption | decide | (show _ < 124; omega) | (show _ < 61; omega) | (show _ < 20; omega)) ⟨by first | exact Nat.le_of_ble_eq_true rfl | (simp only [ab_rm]; omega), by first | exact Nat.le_of_ble_eq_true rfl | (simp only [ab_rm]; omega)⟩ ⟨by first | exact Nat.le_of_ble_eq_true rfl | (simp only [ab_rm]; omega), by first | exact Nat.le_of_ble_eq_true rfl | (simp only [ab_rm]; omega)⟩ (Nat.le_of_ble_eq_true rfl) (fun u101 r101 h101 => ?_)
          obtain ⟨⟨q101, r101⟩, rfl⟩ := h101
          have P101 := P43.trans q101 (by decide)
          refine ab_goto X 306 d_MO_satisfied_104 rfl ?_
          refine ab_lv (List.forall_mem_cons.mpr ⟨List.mem_of_getElem? (i := 3) rfl, List.forall_mem_cons.mpr ⟨List.mem_of_getElem? (i := 4) rfl, List.forall_mem_cons.mpr ⟨List.mem_of_getElem? (i := 5) rfl, fun _ h => absurd h List.not_mem_nil⟩⟩⟩) ?_
          exact fin _ P101 (by rw [eS, el]; exact r101)
  by_cases w8 : w = 8
  · subst w8
    obtain ⟨sB, oS⟩ := sB (by unfold wok at hw; omega)
    refine ab_aload_n X 0 d_MO_satisfied_0 rfl rfl ?_
    refine ab_iconst (v := (-1)) X d_MO_satisfied_1 (by decide) ?_
    refine ab_putI X fp_MO_99 d_MO_satisfied_2 (by first | assumption | decide | (show _ < 124; omega) | (show _ < 61; omega) | (show _ < 20; omega)) rfl rfl ?_
    refine ab_gen (fun u2 e2 => ?_)
    have P2 : gP [26, 27, 29, 30, 115, 116] u u2 := by rw [e2]; exact R0.ui rfl (by decide)
    refine ab_aload_n X 0 d_MO_satisfied_5 rfl rfl ?_
    refine ab_ldcw X (v := 100000) (ab_in 1248 (by decide +kernel) (by decide +kernel)) d_MO_satisfied_6 ?_
    refine ab_putI X fp_MO_102 d_MO_satisfied_9 (by first | assumption | decide | (show _ < 124; omega) | (show _ < 61; omega) | (show _ < 20; omega)) rfl rfl ?_
    refine ab_gen (fun u9 e9 => ?_)
    have P9 : gP [26, 27, 29, 30, 115, 116] u u9 := by rw [e9]; exact P2.ui rfl (by decide)
    refine ab_aload_n X 0 d_MO_satisfied_12 rfl rfl ?_
    refine ab_gR X fl_MO_45 d_MO_satisfied_13 (by first | assumption | decide | (show _ < 124; omega) | (show _ < 61; omega) | (show _ < 20; omega)) (P9.1.mo11) ?_
    refine ab_iload_n X 2 d_MO_satisfied_16 rfl rfl ?_
    refine ab_iald X (3 * p1 + j) ⟨rfl, rfl⟩ d_MO_satisfied_17 (by first | assumption | decide | (show _ < 124; omega) | (show _ < 61; omega) | (show _ < 20; omega)) (rfl) (show 3 * p1 + j < 72 by omega) (ab_ln_lt _ _) ?_
    refine ab_top (P9.ai (by decide) ew) ?_
    refine ab_istore4 X 0 1 2 3 d_MO_satisfied_18 (by decide) rfl rfl rfl rfl rfl rfl rfl rfl ?_
    refine ab_aload_n X 1 d_MO_satisfied_20 rfl rfl ?_
    refine ab_gR X fl_MO_42 d_MO_satisfied_21 (by first | assumption | decide | (show _ < 124; omega) | (show _ < 61; omega) | (show _ < 20; omega)) (P9.1.mo10) ?_
    refine ab_iconst (v := 4) X d_MO_satisfied_24 (by decide) ?_
    refine ab_iload_n X 2 d_MO_satisfied_25 rfl rfl ?_
    refine ab_imul X d_MO_satisfied_26 ?_
    refine ab_iald X (4 * p1) ⟨rfl, rfl⟩ d_MO_satisfied_27 (by first | assumption | decide | (show _ < 124; omega) | (show _ < 61; omega) | (show _ < 20; omega)) (nI_4m p1) (show 4 * p1 < 160 by omega) (ab_ln_lt _ _) ?_
    refine ab_istore5 X 0 1 2 3 4 d_MO_satisfied_28 (by decide) rfl rfl rfl rfl rfl rfl rfl rfl rfl rfl ?_
    refine ab_aload_n X 2 d_MO_satisfied_30 rfl rfl ?_
    refine ab_gR X fl_MO_42 d_MO_satisfied_31 (by first | assumption | decide | (show _ < 124; omega) | (show _ < 61; omega) | (show _ < 20; omega)) (P9.1.mo10) ?_
    refine ab_iconst (v := 4) X d_MO_satisfied_34 (by decide) ?_
    refine ab_iload_n X 3 d_MO_satisfied_35 rfl rfl ?_
    refine ab_imul X d_MO_satisfied_36 ?_
    refine ab_iconst (v := 1) X d_MO_satisfied_37 (by decide) ?_
    refine ab_iadd X d_MO_satisfied_38 ?_
    refine ab_iald X (4 * p1 + 1) ⟨rfl, rfl⟩ d_MO_satisfied_39 (by first | assumption | decide | (show _ < 124; omega) | (show _ < 61; omega) | (show _ < 20; omega)) (nI_4b p1) (show 4 * p1 + 1 < 160 by omega) (ab_ln_lt _ _) ?_
    refine ab_istore6 X 0 1 2 3 4 5 d_MO_satisfied_40 (by decide) rfl rfl rfl rfl rfl rfl rfl rfl rfl rfl rfl rfl ?_
    refine ab_aload_n X 3 d_MO_satisfied_42 rfl rfl ?_
    refine ab_callV (as := []) X (fun h => by cases h) (x_MO_newRow u9 P9.1) lk_MO_267 d_MO_satisfied_43 rfl rfl (by first | assumption | decide | (show _ < 124; omega) | (show _ < 61; omega) | (show _ < 20; omega)) ⟨by first | exact Nat.le_of_ble_eq_true rfl | (simp only [ab_rm]; omega), by first | exact Nat.le_of_ble_eq_true rfl | (simp only [ab_rm]; omega)⟩ ⟨by first | exact Nat.le_of_ble_eq_true rfl | (simp only [ab_rm]; omega), by first | exact Nat.le_of_ble_eq_true rfl | (simp only [ab_rm]; omega)⟩ (Nat.le_of_ble_eq_true rfl) (fun u43 r43 h43 => ?_)
    obtain ⟨⟨q43, r43⟩, rfl⟩ := h43
    have P43 := P9.trans q43 (by decide)
    have b0 : mBs u43 none := mBs.fr3 (o := none) ⟨by rw [e9, e2]; exact (ui_n _ (by omega)).trans (ui_s _), by rw [e9]; exact ui_s _⟩ q43
    refine ab_iload X 2 d_MO_satisfied_46 rfl ?_
    refine ab_iconst (v := 1) X d_MO_satisfied_48 (by decide) ?_
    refine ab_icmp_eq X 66 d_MO_satisfied_49 rfl (fun hb => absurd hb ((by decide))) (fun _ => ?_)
    refine ab_iload X 2 d_MO_satisfied_52 rfl ?_
    refine ab_bipush (v := 11) X d_MO_satisfied_54 (by decide) ?_
    refine ab_icmp_eq X 66 d_MO_satisfied_56 rfl (fun hb => absurd hb ((by decide))) (fun _ => ?_)
    refine ab_iload X 2 d_MO_satisfied_59 rfl ?_
    refine ab_bipush (v := 12) X d_MO_satisfied_61 (by decide) ?_
    refine ab_icmp_ne X 107 d_MO_satisfied_63 rfl (fun _ => ?_) (fun hb => absurd hb ((by decide)))
    refine ab_iload X 2 d_MO_satisfied_107 rfl ?_
    refine ab_iconst (v := 2) X d_MO_satisfied_109 (by decide) ?_
    refine ab_icmp_ne X 130 d_MO_satisfied_110 rfl (fun _ => ?_) (fun hb => absurd hb ((by decide)))
    refine ab_iload X 2 d_MO_satisfied_130 rfl ?_
    refine ab_iconst (v := 3) X d_MO_satisfied_132 (by decide) ?_
    refine ab_icmp_ne X 181 d_MO_satisfied_133 rfl (fun _ => ?_) (fun hb => absurd hb ((by decide)))
    refine ab_iload X 2 d_MO_satisfied_181 rfl ?_
    refine ab_iconst (v := 4) X d_MO_satisfied_183 (by decide) ?_
    refine ab_icmp_ne X 206 d_MO_satisfied_184 rfl (fun _ => ?_) (fun hb => absurd hb ((by decide)))
    refine ab_iload X 2 d_MO_satisfied_206 rfl ?_
    refine ab_iconst (v := 5) X d_MO_satisfied_208 (by decide) ?_
    refine ab_icmp_ne X 229 d_MO_satisfied_209 rfl (fun _ => ?_) (fun hb => absurd hb ((by decide)))
    refine ab_iload X 2 d_MO_satisfied_229 rfl ?_
    refine ab_bipush (v := 6) X d_MO_satisfied_231 (by decide) ?_
    refine ab_icmp_ne X 253 d_MO_satisfied_233 rfl (fun _ => ?_) (fun hb => absurd hb ((by decide)))
    refine ab_iload X 2 d_MO_satisfied_253 rfl ?_
    refine ab_bipush (v := 7) X d_MO_satisfied_255 (by decide) ?_
    refine ab_icmp_ne X 268 d_MO_satisfied_257 rfl (fun _ => ?_) (fun hb => absurd hb ((by decide)))
    refine ab_iload X 2 d_MO_satisfied_268 rfl ?_
    refine ab_bipush (v := 8) X d_MO_satisfied_270 (by decide) ?_
    refine ab_icmp_ne X 295 d_MO_satisfied_272 rfl (fun hb => absurd ((by decide)) hb) (fun _ => ?_)
    refine ab_aload_n X 3 d_MO_satisfied_275 rfl rfl ?_
    refine ab_iconst (v := 1) X d_MO_satisfied_276 (by decide) ?_
    refine ab_callV (as := [ab_I (nI 1)]) X (fun h => by cases h) (x_MO_item1 u43 1 0 0 (some []) P43.1 r43 itm1 (by decide) (by decide)) lk_MO_264 d_MO_satisfied_277 rfl rfl (by first | assumption | decide | (show _ < 124; omega) | (show _ < 61; omega) | (show _ < 20; omega)) ⟨by first | exact Nat.le_of_ble_eq_true rfl | (simp only [ab_rm]; omega), by first | exact Nat.le_of_ble_eq_true rfl | (simp only [ab_rm]; omega)⟩ ⟨by first | exact Nat.le_of_ble_eq_true rfl | (simp only [ab_rm]; omega), by first | exact Nat.le_of_ble_eq_true rfl | (simp only [ab_rm]; omega)⟩ (Nat.le_of_ble_eq_true rfl) (fun u277 r277 h277 => ?_)
    obtain ⟨⟨q277, r277⟩, rfl⟩ := h277
    have P277 := P43.trans q277 (by decide)
    refine ab_aload_n X 3 d_MO_satisfied_280 rfl rfl ?_
    refine ab_iload_n X 4 d_MO_satisfied_281 rfl rfl ?_
    refine ab_callS (as := [ab_I (nI p1)]) X (fun h => by cases h) (t_MO_b u277 p1) ls_MO_204 d_MO_satisfied_282 rfl rfl ⟨by first | exact Nat.le_of_ble_eq_true rfl | (simp only [ab_rm]; omega), by first | exact Nat.le_of_ble_eq_true rfl | (simp only [ab_rm]; omega)⟩ ⟨by first | exact Nat.le_of_ble_eq_true rfl | (simp only [ab_rm]; omega), by first | exact Nat.le_of_ble_eq_true rfl | (simp only [ab_rm]; omega)⟩ (Nat.le_of_ble_eq_true rfl) (fun u282 r282 h282 => ?_)
    obtain ⟨e282, rfl⟩ := h282
    subst u282
    refine ab_callV (as := [ab_I (nI (3 * p1))]) X (fun h => by cases h) (x_MO_yes u277 (3 * p1) (0 + 1) 0 (4 * lf p1 - 3) (some [1]) (S p1 0) P277.1 r277 (sB.fo P277) oS (by omega) (by omega) (by omega) (by decide)) lk_MO_270 d_MO_satisfied_285 rfl rfl (by first | assumption | decide | (show _ < 124; omega) | (show _ < 61; omega) | (show _ < 20; omega)) ⟨by first | exact Nat.le_of_ble_eq_true rfl | (simp only [ab_rm]; omega), by first | exact Nat.le_of_ble_eq_true rfl | (simp only [ab_rm]; omega)⟩ ⟨by first | exact Nat.le_of_ble_eq_true rfl | (simp only [ab_rm]; omega), by first | exact Nat.le_of_ble_eq_true rfl | (simp only [ab_rm]; omega)⟩ (Nat.le_of_ble_eq_true rfl) (fun u285 r285 h285 => ?_)
    obtain ⟨⟨q285, r285⟩, rfl⟩ := h285
    have P285 := P277.trans q285 (by decide)
    refine ab_aload_n X 3 d_MO_satisfied_288 rfl rfl ?_
    refine ab_callV (as := []) X (fun h => by cases h) (x_MO_offer u285 _ _ (jn (some [1]) (S p1 0)) none P285.1 r285 ((b0.fr3 q277).fr3 q285) ((oB.jnB (oB.one itm1) oS).wk (by omega)) oB.none (by omega) (by decide)) lk_MO_273 d_MO_satisfied_289 rfl rfl (by first | assumption | decide | (show _ < 124; omega) | (show _ < 61; omega) | (show _ < 20; omega)) ⟨by first | exact Nat.le_of_ble_eq_true rfl | (simp only [ab_rm]; omega), by first | exact Nat.le_of_ble_eq_true rfl | (simp only [ab_rm]; omega)⟩ ⟨by first | exact Nat.le_of_ble_eq_true rfl | (simp only [ab_rm]; omega), by first | exact Nat.le_of_ble_eq_true rfl | (simp only [ab_rm]; omega)⟩ (Nat.le_of_ble_eq_true rfl) (fun u289 r289 h289 => ?_)
    obtain ⟨⟨q289, r289⟩, rfl⟩ := h289
    have P289 := P285.trans q289 (by decide)
    refine ab_goto X 306 d_MO_satisfied_292 rfl ?_
    refine ab_lv (List.forall_mem_cons.mpr ⟨List.mem_of_getElem? (i := 3) rfl, List.forall_mem_cons.mpr ⟨List.mem_of_getElem? (i := 4) rfl, List.forall_mem_cons.mpr ⟨List.mem_of_getElem? (i := 5) rfl, fun _ h => absurd h List.not_mem_nil⟩⟩⟩) ?_
    exact fin _ P289 (by rw [sv8]; rw [bet_none] at r289; exact r289)
  by_cases w24 : w = 24
  · subst w24
    obtain ⟨sB, oS⟩ := sB (by unfold wok at hw; omega)
    refine ab_aload_n X 0 d_MO_satisfied_0 rfl rfl ?_
    refine ab_iconst (v := (-1)) X d_MO_satisfied_1 (by decide) ?_
    refine ab_putI X fp_MO_99 d_MO_satisfied_2 (by first | assumption | decide | (show _ < 124; omega) | (show _ < 61; omega) | (show _ < 20; omega)) rfl rfl ?_
    refine ab_gen (fun u2 e2 => ?_)
    have P2 : gP [26, 27, 29, 30, 115, 116] u u2 := by rw [e2]; exact R0.ui rfl (by decide)
    refine ab_aload_n X 0 d_MO_satisfied_5 rfl rfl ?_
    refine ab_ldcw X (v := 100000) (ab_in 1248 (by decide +kernel) (by decide +kernel)) d_MO_satisfied_6 ?_
    refine ab_putI X fp_MO_102 d_MO_satisfied_9 (by first | assumption | decide | (show _ < 124; omega) | (show _ < 61; omega) | (show _ < 20; omega)) rfl rfl ?_
    refine ab_gen (fun u9 e9 => ?_)
    have P9 : gP [26, 27, 29, 30, 115, 116] u u9 := by rw [e9]; exact P2.ui rfl (by decide)
    refine ab_aload_n X 0 d_MO_satisfied_12 rfl rfl ?_
    refine ab_gR X fl_MO_45 d_MO_satisfied_13 (by first | assumption | decide | (show _ < 124; omega) | (show _ < 61; omega) | (show _ < 20; omega)) (P9.1.mo11) ?_
    refine ab_iload_n X 2 d_MO_satisfied_16 rfl rfl ?_
    refine ab_iald X (3 * p1 + j) ⟨rfl, rfl⟩ d_MO_satisfied_17 (by first | assumption | decide | (show _ < 124; omega) | (show _ < 61; omega) | (show _ < 20; omega)) (rfl) (show 3 * p1 + j < 72 by omega) (ab_ln_lt _ _) ?_
    refine ab_top (P9.ai (by decide) ew) ?_
    refine ab_istore4 X 0 1 2 3 d_MO_satisfied_18 (by decide) rfl rfl rfl rfl rfl rfl rfl rfl ?_
    refine ab_aload_n X 1 d_MO_satisfied_20 rfl rfl ?_
    refine ab_gR X fl_MO_42 d_MO_satisfied_21 (by first | assumption | decide | (show _ < 124; omega) | (show _ < 61; omega) | (show _ < 20; omega)) (P9.1.mo10) ?_
    refine ab_iconst (v := 4) X d_MO_satisfied_24 (by decide) ?_
    refine ab_iload_n X 2 d_MO_satisfied_25 rfl rfl ?_
    refine ab_imul X d_MO_satisfied_26 ?_
    refine ab_iald X (4 * p1) ⟨rfl, rfl⟩ d_MO_satisfied_27 (by first | assumption | decide | (show _ < 124; omega) | (show _ < 61; omega) | (show _ < 20; omega)) (nI_4m p1) (show 4 * p1 < 160 by omega) (ab_ln_lt _ _) ?_
    refine ab_istore5 X 0 1 2 3 4 d_MO_satisfied_28 (by decide) rfl rfl rfl rfl rfl rfl rfl rfl rfl rfl ?_
    refine ab_aload_n X 2 d_MO_satisfied_30 rfl rfl ?_
    refine ab_gR X fl_MO_42 d_MO_satisfied_31 (by first | assumption | decide | (show _ < 124; omega) | (show _ < 61; omega) | (show _ < 20; omega)) (P9.1.mo10) ?_
    refine ab_iconst (v := 4) X d_MO_satisfied_34 (by decide) ?_
    refine ab_iload_n X 3 d_MO_satisfied_35 rfl rfl ?_
    refine ab_imul X d_MO_satisfied_36 ?_
    refine ab_iconst (v := 1) X d_MO_satisfied_37 (by decide) ?_
    refine ab_iadd X d_MO_satisfied_38 ?_
    refine ab_iald X (4 * p1 + 1) ⟨rfl, rfl⟩ d_MO_satisfied_39 (by first | assumption | decide | (show _ < 124; omega) | (show _ < 61; omega) | (show _ < 20; omega)) (nI_4b p1) (show 4 * p1 + 1 < 160 by omega) (ab_ln_lt _ _) ?_
    refine ab_istore6 X 0 1 2 3 4 5 d_MO_satisfied_40 (by decide) rfl rfl rfl rfl rfl rfl rfl rfl rfl rfl rfl rfl ?_
    refine ab_aload_n X 3 d_MO_satisfied_42 rfl rfl ?_
    refine ab_callV (as := []) X (fun h => by cases h) (x_MO_newRow u9 P9.1) lk_MO_267 d_MO_satisfied_43 rfl rfl (by first | assumption | decide | (show _ < 124; omega) | (show _ < 61; omega) | (show _ < 20; omega)) ⟨by first | exact Nat.le_of_ble_eq_true rfl | (simp only [ab_rm]; omega), by first | exact Nat.le_of_ble_eq_true rfl | (simp only [ab_rm]; omega)⟩ ⟨by first | exact Nat.le_of_ble_eq_true rfl | (simp only [ab_rm]; omega), by first | exact Nat.le_of_ble_eq_true rfl | (simp only [ab_rm]; omega)⟩ (Nat.le_of_ble_eq_true rfl) (fun u43 r43 h43 => ?_)
    obtain ⟨⟨q43, r43⟩, rfl⟩ := h43
    have P43 := P9.trans q43 (by decide)
    have b0 : mBs u43 none := mBs.fr3 (o := none) ⟨by rw [e9, e2]; exact (ui_n _ (by omega)).trans (ui_s _), by rw [e9]; exact ui_s _⟩ q43
    refine ab_iload X 2 d_MO_satisfied_46 rfl ?_
    refine ab_iconst (v := 1) X d_MO_satisfied_48 (by decide) ?_
    refine ab_icmp_eq X 66 d_MO_satisfied_49 rfl (fun hb => absurd hb ((by decide))) (fun _ => ?_)
    refine ab_iload X 2 d_MO_satisfied_52 rfl ?_
    refine ab_bipush (v := 11) X d_MO_satisfied_54 (by decide) ?_
    refine ab_icmp_eq X 66 d_MO_satisfied_56 rfl (fun hb => absurd hb ((by decide))) (fun _ => ?_)
    refine ab_iload X 2 d_MO_satisfied_59 rfl ?_
    refine ab_bipush (v := 12) X d_MO_satisfied_61 (by decide) ?_
    refine ab_icmp_ne X 107 d_MO_satisfied_63 rfl (fun _ => ?_) (fun hb => absurd hb ((by decide)))
    refine ab_iload X 2 d_MO_satisfied_107 rfl ?_
    refine ab_iconst (v := 2) X d_MO_satisfied_109 (by decide) ?_
    refine ab_icmp_ne X 130 d_MO_satisfied_110 rfl (fun _ => ?_) (fun hb => absurd hb ((by decide)))
    refine ab_iload X 2 d_MO_satisfied_130 rfl ?_
    refine ab_iconst (v := 3) X d_MO_satisfied_132 (by decide) ?_
    refine ab_icmp_ne X 181 d_MO_satisfied_133 rfl (fun _ => ?_) (fun hb => absurd hb ((by decide)))
    refine ab_iload X 2 d_MO_satisfied_181 rfl ?_
    refine ab_iconst (v := 4) X d_MO_satisfied_183 (by decide) ?_
    refine ab_icmp_ne X 206 d_MO_satisfied_184 rfl (fun _ => ?_) (fun hb => absurd hb ((by decide)))
    refine ab_iload X 2 d_MO_satisfied_206 rfl ?_
    refine ab_iconst (v := 5) X d_MO_satisfied_208 (by decide) ?_
    refine ab_icmp_ne X 229 d_MO_satisfied_209 rfl (fun _ => ?_) (fun hb => absurd hb ((by decide)))
    refine ab_iload X 2 d_MO_satisfied_229 rfl ?_
    refine ab_bipush (v := 6) X d_MO_satisfied_231 (by decide) ?_
    refine ab_icmp_ne X 253 d_MO_satisfied_233 rfl (fun _ => ?_) (fun hb => absurd hb ((by decide)))
    refine ab_iload X 2 d_MO_satisfied_253 rfl ?_
    refine ab_bipush (v := 7) X d_MO_satisfied_255 (by decide) ?_
    refine ab_icmp_ne X 268 d_MO_satisfied_257 rfl (fun _ => ?_) (fun hb => absurd hb ((by decide)))
    refine ab_iload X 2 d_MO_satisfied_268 rfl ?_
    refine ab_bipush (v := 8) X d_MO_satisfied_270 (by decide) ?_
    refine ab_icmp_ne X 295 d_MO_satisfied_272 rfl (fun _ => ?_) (fun hb => absurd hb ((by decide)))
    refine ab_aload_n X 3 d_MO_satisfied_295 rfl rfl ?_
    refine ab_iload_n X 4 d_MO_satisfied_296 rfl rfl ?_
    refine ab_iload X 2 d_MO_satisfied_297 rfl ?_
    refine ab_iload X 1 d_MO_satisfied_299 rfl ?_
    refine ab_iload X 0 d_MO_satisfied_301 rfl ?_
    refine ab_callV (as := [ab_I (nI p1), ab_I (nI 24), ab_I _, ab_I _]) X (fun h => by cases h) (x_MO_satisfiedMore24 u43 P kd ar cn lf ch W (T.fr P43 (by decide) (by decide) (by decide) (by decide) (by decide)) p1 hp R (slf kd ar a1 a2 a3 a4) S _ _ (sB.fo P43) oS r43 b0 P43.1) lk_MO_291 d_MO_satisfied_303 rfl rfl (by first | assumption | decide | (show _ < 124; omega) | (show _ < 61; omega) | (show _ < 20; omega)) ⟨by first | exact Nat.le_of_ble_eq_true rfl | (simp only [ab_rm]; omega), by first | exact Nat.le_of_ble_eq_true rfl | (simp only [ab_rm]; omega)⟩ ⟨by first | exact Nat.le_of_ble_eq_true rfl | (simp only [ab_rm]; omega), by first | exact Nat.le_of_ble_eq_true rfl | (simp only [ab_rm]; omega)⟩ (Nat.le_of_ble_eq_true rfl) (fun u303 r303 h303 => ?_)
    obtain ⟨⟨q303, r303⟩, rfl⟩ := h303
    have P303 := P43.trans q303 (by decide)
    refine ab_lv (List.forall_mem_cons.mpr ⟨List.mem_of_getElem? (i := 3) rfl, List.forall_mem_cons.mpr ⟨List.mem_of_getElem? (i := 4) rfl, List.forall_mem_cons.mpr ⟨List.mem_of_getElem? (i := 5) rfl, fun _ h => absurd h List.not_mem_nil⟩⟩⟩) ?_
    exact fin _ P303 r303
  by_cases k7' : kd p1 = 7
  · have hw2 : w = 7 ∨ w = 18 := by unfold wok at hw; omega
    obtain ⟨n2, n4, -, b4, b5, b6⟩ := kb (by omega)
    rcases hw2 with rfl | rfl
    ·
      refine ab_aload_n X 0 d_MO_satisfied_0 rfl rfl ?_
      refine ab_iconst (v := (-1)) X d_MO_satisfied_1 (by decide) ?_
      refine ab_putI X fp_MO_99 d_MO_satisfied_2 (by first | assumption | decide | (show _ < 124; omega) | (show _ < 61; omega) | (show _ < 20; omega)) rfl rfl ?_
      refine ab_gen (fun u2 e2 => ?_)
      have P2 : gP [26, 27, 29, 30, 115, 116] u u2 := by rw [e2]; exact R0.ui rfl (by decide)
      refine ab_aload_n X 0 d_MO_satisfied_5 rfl rfl ?_
      refine ab_ldcw X (v := 100000) (ab_in 1248 (by decide +kernel) (by decide +kernel)) d_MO_satisfied_6 ?_
      refine ab_putI X fp_MO_102 d_MO_satisfied_9 (by first | assumption | decide | (show _ < 124; omega) | (show _ < 61; omega) | (show _ < 20; omega)) rfl rfl ?_
      refine ab_gen (fun u9 e9 => ?_)
      have P9 : gP [26, 27, 29, 30, 115, 116] u u9 := by rw [e9]; exact P2.ui rfl (by decide)
      refine ab_aload_n X 0 d_MO_satisfied_12 rfl rfl ?_
      refine ab_gR X fl_MO_45 d_MO_satisfied_13 (by first | assumption | decide | (show _ < 124; omega) | (show _ < 61; omega) | (show _ < 20; omega)) (P9.1.mo11) ?_
      refine ab_iload_n X 2 d_MO_satisfied_16 rfl rfl ?_
      refine ab_iald X (3 * p1 + j) ⟨rfl, rfl⟩ d_MO_satisfied_17 (by first | assumption | decide | (show _ < 124; omega) | (show _ < 61; omega) | (show _ < 20; omega)) (rfl) (show 3 * p1 + j < 72 by omega) (ab_ln_lt _ _) ?_
      refine ab_top (P9.ai (by decide) ew) ?_
      refine ab_istore4 X 0 1 2 3 d_MO_satisfied_18 (by decide) rfl rfl rfl rfl rfl rfl rfl rfl ?_
      refine ab_aload_n X 1 d_MO_satisfied_20 rfl rfl ?_
      refine ab_gR X fl_MO_42 d_MO_satisfied_21 (by first | assumption | decide | (show _ < 124; omega) | (show _ < 61; omega) | (show _ < 20; omega)) (P9.1.mo10) ?_
      refine ab_iconst (v := 4) X d_MO_satisfied_24 (by decide) ?_
      refine ab_iload_n X 2 d_MO_satisfied_25 rfl rfl ?_
      refine ab_imul X d_MO_satisfied_26 ?_
      refine ab_iald X (4 * p1) ⟨rfl, rfl⟩ d_MO_satisfied_27 (by first | assumption | decide | (show _ < 124; omega) | (show _ < 61; omega) | (show _ < 20; omega)) (nI_4m p1) (show 4 * p1 < 160 by omega) (ab_ln_lt _ _) ?_
      refine ab_istore5 X 0 1 2 3 4 d_MO_satisfied_28 (by decide) rfl rfl rfl rfl rfl rfl rfl rfl rfl rfl ?_
      refine ab_aload_n X 2 d_MO_satisfied_30 rfl rfl ?_
      refine ab_gR X fl_MO_42 d_MO_satisfied_31 (by first | assumption | decide | (show _ < 124; omega) | (show _ < 61; omega) | (show _ < 20; omega)) (P9.1.mo10) ?_
      refine ab_iconst (v := 4) X d_MO_satisfied_34 (by decide) ?_
      refine ab_iload_n X 3 d_MO_satisfied_35 rfl rfl ?_
      refine ab_imul X d_MO_satisfied_36 ?_
      refine ab_iconst (v := 1) X d_MO_satisfied_37 (by decide) ?_
      refine ab_iadd X d_MO_satisfied_38 ?_
      refine ab_iald X (4 * p1 + 1) ⟨rfl, rfl⟩ d_MO_satisfied_39 (by first | assumption | decide | (show _ < 124; omega) | (show _ < 61; omega) | (show _ < 20; omega)) (nI_4b p1) (show 4 * p1 + 1 < 160 by omega) (ab_ln_lt _ _) ?_
      refine ab_istore6 X 0 1 2 3 4 5 d_MO_satisfied_40 (by decide) rfl rfl rfl rfl rfl rfl rfl rfl rfl rfl rfl rfl ?_
      refine ab_aload_n X 3 d_MO_satisfied_42 rfl rfl ?_
      refine ab_callV (as := []) X (fun h => by cases h) (x_MO_newRow u9 P9.1) lk_MO_267 d_MO_satisfied_43 rfl rfl (by first | assumption | decide | (show _ < 124; omega) | (show _ < 61; omega) | (show _ < 20; omega)) ⟨by first | exact Nat.le_of_ble_eq_true rfl | (simp only [ab_rm]; omega), by first | exact Nat.le_of_ble_eq_true rfl | (simp only [ab_rm]; omega)⟩ ⟨by first | exact Nat.le_of_ble_eq_true rfl | (simp only [ab_rm]; omega), by first | exact Nat.le_of_ble_eq_true rfl | (simp only [ab_rm]; omega)⟩ (Nat.le_of_ble_eq_true rfl) (fun u43 r43 h43 => ?_)
      obtain ⟨⟨q43, r43⟩, rfl⟩ := h43
      have P43 := P9.trans q43 (by decide)
      have b0 : mBs u43 none := mBs.fr3 (o := none) ⟨by rw [e9, e2]; exact (ui_n _ (by omega)).trans (ui_s _), by rw [e9]; exact ui_s _⟩ q43
      refine ab_iload X 2 d_MO_satisfied_46 rfl ?_
      refine ab_iconst (v := 1) X d_MO_satisfied_48 (by decide) ?_
      refine ab_icmp_eq X 66 d_MO_satisfied_49 rfl (fun hb => absurd hb ((by decide))) (fun _ => ?_)
      refine ab_iload X 2 d_MO_satisfied_52 rfl ?_
      refine ab_bipush (v := 11) X d_MO_satisfied_54 (by decide) ?_
      refine ab_icmp_eq X 66 d_MO_satisfied_56 rfl (fun hb => absurd hb ((by decide))) (fun _ => ?_)
      refine ab_iload X 2 d_MO_satisfied_59 rfl ?_
      refine ab_bipush (v := 12) X d_MO_satisfied_61 (by decide) ?_
      refine ab_icmp_ne X 107 d_MO_satisfied_63 rfl (fun _ => ?_) (fun hb => absurd hb ((by decide)))
      refine ab_iload X 2 d_MO_satisfied_107 rfl ?_
      refine ab_iconst (v := 2) X d_MO_satisfied_109 (by decide) ?_
      refine ab_icmp_ne X 130 d_MO_satisfied_110 rfl (fun _ => ?_) (fun hb => absurd hb ((by decide)))
      refine ab_iload X 2 d_MO_satisfied_130 rfl ?_
      refine ab_iconst (v := 3) X d_MO_satisfied_132 (by decide) ?_
      refine ab_icmp_ne X 181 d_MO_satisfied_133 rfl (fun _ => ?_) (fun hb => absurd hb ((by decide)))
      refine ab_iload X 2 d_MO_satisfied_181 rfl ?_
      refine ab_iconst (v := 4) X d_MO_satisfied_183 (by decide) ?_
      refine ab_icmp_ne X 206 d_MO_satisfied_184 rfl (fun _ => ?_) (fun hb => absurd hb ((by decide)))
      refine ab_iload X 2 d_MO_satisfied_206 rfl ?_
      refine ab_iconst (v := 5) X d_MO_satisfied_208 (by decide) ?_
      refine ab_icmp_ne X 229 d_MO_satisfied_209 rfl (fun _ => ?_) (fun hb => absurd hb ((by decide)))
      refine ab_iload X 2 d_MO_satisfied_229 rfl ?_
      refine ab_bipush (v := 6) X d_MO_satisfied_231 (by decide) ?_
      refine ab_icmp_ne X 253 d_MO_satisfied_233 rfl (fun _ => ?_) (fun hb => absurd hb ((by decide)))
      refine ab_iload X 2 d_MO_satisfied_253 rfl ?_
      refine ab_bipush (v := 7) X d_MO_satisfied_255 (by decide) ?_
      refine ab_icmp_ne X 268 d_MO_satisfied_257 rfl (fun hb => absurd ((by decide)) hb) (fun _ => ?_)
      refine ab_aload_n X 3 d_MO_satisfied_260 rfl rfl ?_
      refine ab_iload_n X 4 d_MO_satisfied_261 rfl rfl ?_
      refine ab_callV (as := [ab_I (nI p1)]) X (fun h => by cases h) (x_MO_offerThreshold u43 P kd ar cn lf ch W (T.fr P43 (by decide) (by decide) (by decide) (by decide) (by decide)) p1 hp k7' (fun i => S (ch p1 i) 1) (fun i => R (ch p1 i)) (fun i hi => ((A _ (by have := (b5 i hi).1; omega) (b5 i hi).2).2 1 (by decide)).fo P43) (fun i hi => (A _ (by have := (b5 i hi).1; omega) (b5 i hi).2).1.fo P43) (fun i hi => bS _ (b5 i hi).1 (b5 i hi).2 1 (by decide)) (fun i hi => ⟨by have := (bR _ (b5 i hi).1 (b5 i hi).2).1; have := (W.2.2 _ (b5 i hi).2).1.1; omega, (bR _ (b5 i hi).1 (b5 i hi).2).2⟩) b0 P43.1) lk_MO_288 d_MO_satisfied_262 rfl rfl (by first | assumption | decide | (show _ < 124; omega) | (show _ < 61; omega) | (show _ < 20; omega)) ⟨by first | exact Nat.le_of_ble_eq_true rfl | (simp only [ab_rm]; omega), by first | exact Nat.le_of_ble_eq_true rfl | (simp only [ab_rm]; omega)⟩ ⟨by first | exact Nat.le_of_ble_eq_true rfl | (simp only [ab_rm]; omega), by first | exact Nat.le_of_ble_eq_true rfl | (simp only [ab_rm]; omega)⟩ (Nat.le_of_ble_eq_true rfl) (fun u262 r262 h262 => ?_)
      obtain ⟨⟨q262, r262⟩, rfl⟩ := h262
      have P262 := P43.trans q262 (by decide)
      refine ab_goto X 306 d_MO_satisfied_265 rfl ?_
      refine ab_lv (List.forall_mem_cons.mpr ⟨List.mem_of_getElem? (i := 3) rfl, List.forall_mem_cons.mpr ⟨List.mem_of_getElem? (i := 4) rfl, List.forall_mem_cons.mpr ⟨List.mem_of_getElem? (i := 5) rfl, fun _ h => absurd h List.not_mem_nil⟩⟩⟩) ?_
      exact fin _ P262 (by rw [sv7 k7']; exact r262)
    ·
      refine ab_aload_n X 0 d_MO_satisfied_0 rfl rfl ?_
      refine ab_iconst (v := (-1)) X d_MO_satisfied_1 (by decide) ?_
      refine ab_putI X fp_MO_99 d_MO_satisfied_2 (by first | assumption | decide | (show _ < 124; omega) | (show _ < 61; omega) | (show _ < 20; omega)) rfl rfl ?_
      refine ab_gen (fun u2 e2 => ?_)
      have P2 : gP [26, 27, 29, 30, 115, 116] u u2 := by rw [e2]; exact R0.ui rfl (by decide)
      refine ab_aload_n X 0 d_MO_satisfied_5 rfl rfl ?_
      refine ab_ldcw X (v := 100000) (ab_in 1248 (by decide +kernel) (by decide +kernel)) d_MO_satisfied_6 ?_
      refine ab_putI X fp_MO_102 d_MO_satisfied_9 (by first | assumption | decide | (show _ < 124; omega) | (show _ < 61; omega) | (show _ < 20; omega)) rfl rfl ?_
      refine ab_gen (fun u9 e9 => ?_)
      have P9 : gP [26, 27, 29, 30, 115, 116] u u9 := by rw [e9]; exact P2.ui rfl (by decide)
      refine ab_aload_n X 0 d_MO_satisfied_12 rfl rfl ?_
      refine ab_gR X fl_MO_45 d_MO_satisfied_13 (by first | assumption | decide | (show _ < 124; omega) | (show _ < 61; omega) | (show _ < 20; omega)) (P9.1.mo11) ?_
      refine ab_iload_n X 2 d_MO_satisfied_16 rfl rfl ?_
      refine ab_iald X (3 * p1 + j) ⟨rfl, rfl⟩ d_MO_satisfied_17 (by first | assumption | decide | (show _ < 124; omega) | (show _ < 61; omega) | (show _ < 20; omega)) (rfl) (show 3 * p1 + j < 72 by omega) (ab_ln_lt _ _) ?_
      refine ab_top (P9.ai (by decide) ew) ?_
      refine ab_istore4 X 0 1 2 3 d_MO_satisfied_18 (by decide) rfl rfl rfl rfl rfl rfl rfl rfl ?_
      refine ab_aload_n X 1 d_MO_satisfied_20 rfl rfl ?_
      refine ab_gR X fl_MO_42 d_MO_satisfied_21 (by first | assumption | decide | (show _ < 124; omega) | (show _ < 61; omega) | (show _ < 20; omega)) (P9.1.mo10) ?_
      refine ab_iconst (v := 4) X d_MO_satisfied_24 (by decide) ?_
      refine ab_iload_n X 2 d_MO_satisfied_25 rfl rfl ?_
      refine ab_imul X d_MO_satisfied_26 ?_
      refine ab_iald X (4 * p1) ⟨rfl, rfl⟩ d_MO_satisfied_27 (by first | assumption | decide | (show _ < 124; omega) | (show _ < 61; omega) | (show _ < 20; omega)) (nI_4m p1) (show 4 * p1 < 160 by omega) (ab_ln_lt _ _) ?_
      refine ab_istore5 X 0 1 2 3 4 d_MO_satisfied_28 (by decide) rfl rfl rfl rfl rfl rfl rfl rfl rfl rfl ?_
      refine ab_aload_n X 2 d_MO_satisfied_30 rfl rfl ?_
      refine ab_gR X fl_MO_42 d_MO_satisfied_31 (by first | assumption | decide | (show _ < 124; omega) | (show _ < 61; omega) | (show _ < 20; omega)) (P9.1.mo10) ?_
      refine ab_iconst (v := 4) X d_MO_satisfied_34 (by decide) ?_
      refine ab_iload_n X 3 d_MO_satisfied_35 rfl rfl ?_
      refine ab_imul X d_MO_satisfied_36 ?_
      refine ab_iconst (v := 1) X d_MO_satisfied_37 (by decide) ?_
      refine ab_iadd X d_MO_satisfied_38 ?_
      refine ab_iald X (4 * p1 + 1) ⟨rfl, rfl⟩ d_MO_satisfied_39 (by first | assumption | decide | (show _ < 124; omega) | (show _ < 61; omega) | (show _ < 20; omega)) (nI_4b p1) (show 4 * p1 + 1 < 160 by omega) (ab_ln_lt _ _) ?_
      refine ab_istore6 X 0 1 2 3 4 5 d_MO_satisfied_40 (by decide) rfl rfl rfl rfl rfl rfl rfl rfl rfl rfl rfl rfl ?_
      refine ab_aload_n X 3 d_MO_satisfied_42 rfl rfl ?_
      refine ab_callV (as := []) X (fun h => by cases h) (x_MO_newRow u9 P9.1) lk_MO_267 d_MO_satisfied_43 rfl rfl (by first | assumption | decide | (show _ < 124; omega) | (show _ < 61; omega) | (show _ < 20; omega)) ⟨by first | exact Nat.le_of_ble_eq_true rfl | (simp only [ab_rm]; omega), by first | exact Nat.le_of_ble_eq_true rfl | (simp only [ab_rm]; omega)⟩ ⟨by first | exact Nat.le_of_ble_eq_true rfl | (simp only [ab_rm]; omega), by first | exact Nat.le_of_ble_eq_true rfl | (simp only [ab_rm]; omega)⟩ (Nat.le_of_ble_eq_true rfl) (fun u43 r43 h43 => ?_)
      obtain ⟨⟨q43, r43⟩, rfl⟩ := h43
      have P43 := P9.trans q43 (by decide)
      have b0 : mBs u43 none := mBs.fr3 (o := none) ⟨by rw [e9, e2]; exact (ui_n _ (by omega)).trans (ui_s _), by rw [e9]; exact ui_s _⟩ q43
      refine ab_iload X 2 d_MO_satisfied_46 rfl ?_
      refine ab_iconst (v := 1) X d_MO_satisfied_48 (by decide) ?_
      refine ab_icmp_eq X 66 d_MO_satisfied_49 rfl (fun hb => absurd hb ((by decide))) (fun _ => ?_)
      refine ab_iload X 2 d_MO_satisfied_52 rfl ?_
      refine ab_bipush (v := 11) X d_MO_satisfied_54 (by decide) ?_
      refine ab_icmp_eq X 66 d_MO_satisfied_56 rfl (fun hb => absurd hb ((by decide))) (fun _ => ?_)
      refine ab_iload X 2 d_MO_satisfied_59 rfl ?_
      refine ab_bipush (v := 12) X d_MO_satisfied_61 (by decide) ?_
      refine ab_icmp_ne X 107 d_MO_satisfied_63 rfl (fun _ => ?_) (fun hb => absurd hb ((by decide)))
      refine ab_iload X 2 d_MO_satisfied_107 rfl ?_
      refine ab_iconst (v := 2) X d_MO_satisfied_109 (by decide) ?_
      refine ab_icmp_ne X 130 d_MO_satisfied_110 rfl (fun _ => ?_) (fun hb => absurd hb ((by decide)))
      refine ab_iload X 2 d_MO_satisfied_130 rfl ?_
      refine ab_iconst (v := 3) X d_MO_satisfied_132 (by decide) ?_
      refine ab_icmp_ne X 181 d_MO_satisfied_133 rfl (fun _ => ?_) (fun hb => absurd hb ((by decide)))
      refine ab_iload X 2 d_MO_satisfied_181 rfl ?_
      refine ab_iconst (v := 4) X d_MO_satisfied_183 (by decide) ?_
      refine ab_icmp_ne X 206 d_MO_satisfied_184 rfl (fun _ => ?_) (fun hb => absurd hb ((by decide)))
      refine ab_iload X 2 d_MO_satisfied_206 rfl ?_
      refine ab_iconst (v := 5) X d_MO_satisfied_208 (by decide) ?_
      refine ab_icmp_ne X 229 d_MO_satisfied_209 rfl (fun _ => ?_) (fun hb => absurd hb ((by decide)))
      refine ab_iload X 2 d_MO_satisfied_229 rfl ?_
      refine ab_bipush (v := 6) X d_MO_satisfied_231 (by decide) ?_
      refine ab_icmp_ne X 253 d_MO_satisfied_233 rfl (fun _ => ?_) (fun hb => absurd hb ((by decide)))
      refine ab_iload X 2 d_MO_satisfied_253 rfl ?_
      refine ab_bipush (v := 7) X d_MO_satisfied_255 (by decide) ?_
      refine ab_icmp_ne X 268 d_MO_satisfied_257 rfl (fun _ => ?_) (fun hb => absurd hb ((by decide)))
      refine ab_iload X 2 d_MO_satisfied_268 rfl ?_
      refine ab_bipush (v := 8) X d_MO_satisfied_270 (by decide) ?_
      refine ab_icmp_ne X 295 d_MO_satisfied_272 rfl (fun _ => ?_) (fun hb => absurd hb ((by decide)))
      refine ab_aload_n X 3 d_MO_satisfied_295 rfl rfl ?_
      refine ab_iload_n X 4 d_MO_satisfied_296 rfl rfl ?_
      refine ab_iload X 2 d_MO_satisfied_297 rfl ?_
      refine ab_iload X 1 d_MO_satisfied_299 rfl ?_
      refine ab_iload X 0 d_MO_satisfied_301 rfl ?_
      refine ab_callV (as := [ab_I (nI p1), ab_I (nI 18), ab_I _, ab_I _]) X (fun h => by cases h) (x_MO_satisfiedMore18 u43 P kd ar cn lf ch W (T.fr P43 (by decide) (by decide) (by decide) (by decide) (by decide)) p1 hp k7' R (slf kd ar a1 a2 a3 a4) S (A.fo P43) bS bR _ _ r43 b0 P43.1) lk_MO_291 d_MO_satisfied_303 rfl rfl (by first | assumption | decide | (show _ < 124; omega) | (show _ < 61; omega) | (show _ < 20; omega)) ⟨by first | exact Nat.le_of_ble_eq_true rfl | (simp only [ab_rm]; omega), by first | exact Nat.le_of_ble_eq_true rfl | (simp only [ab_rm]; omega)⟩ ⟨by first | exact Nat.le_of_ble_eq_true rfl | (simp only [ab_rm]; omega), by first | exact Nat.le_of_ble_eq_true rfl | (simp only [ab_rm]; omega)⟩ (Nat.le_of_ble_eq_true rfl) (fun u303 r303 h303 => ?_)
      obtain ⟨⟨q303, r303⟩, rfl⟩ := h303
      have P303 := P43.trans q303 (by decide)
      refine ab_lv (List.forall_mem_cons.mpr ⟨List.mem_of_getElem? (i := 3) rfl, List.forall_mem_cons.mpr ⟨List.mem_of_getElem? (i := 4) rfl, List.forall_mem_cons.mpr ⟨List.mem_of_getElem? (i := 5) rfl, fun _ h => absurd h List.not_mem_nil⟩⟩⟩) ?_
      exact fin _ P303 r303
  · have hw2 : w = 2 ∨ w = 3 ∨ w = 4 ∨ w = 5 ∨ w = 6 ∨ w = 13 ∨ w = 14 ∨ w = 15 ∨ w = 16 ∨ w = 17 ∨ w = 21 ∨ w = 22 ∨ w = 23 := by unfold wok at hw; omega
    have hk : kd p1 = 5 ∨ kd p1 = 6 := by unfold wok at hw; omega
    have c2 : cn p1 = 2 := (kb (by omega)).2.2.1 (by omega)
    obtain ⟨x, y, ex, ey, x1, x2, y1, y2, l0, l1, l2, cx, cy⟩ := W.two T hp hk
    have xA := A x (by omega) x2
    have yA := A y (by omega) y2
    have xB := bS x x1 x2
    have yB := bS y y1 y2
    have xR := bR x x1 x2
    have yR := bR y y1 y2
    rcases hw2 with rfl | rfl | rfl | rfl | rfl | rfl | rfl | rfl | rfl | rfl | rfl | rfl | rfl
    · have k5 : kd p1 = 5 := by unfold wok at hw; omega
      refine ab_aload_n X 0 d_MO_satisfied_0 rfl rfl ?_
      refine ab_iconst (v := (-1)) X d_MO_satisfied_1 (by decide) ?_
      refine ab_putI X fp_MO_99 d_MO_satisfied_2 (by first | assumption | decide | (show _ < 124; omega) | (show _ < 61; omega) | (show _ < 20; omega)) rfl rfl ?_
      refine ab_gen (fun u2 e2 => ?_)
      have P2 : gP [26, 27, 29, 30, 115, 116] u u2 := by rw [e2]; exact R0.ui rfl (by decide)
      refine ab_aload_n X 0 d_MO_satisfied_5 rfl rfl ?_
      refine ab_ldcw X (v := 100000) (ab_in 1248 (by decide +kernel) (by decide +kernel)) d_MO_satisfied_6 ?_
      refine ab_putI X fp_MO_102 d_MO_satisfied_9 (by first | assumption | decide | (show _ < 124; omega) | (show _ < 61; omega) | (show _ < 20; omega)) rfl rfl ?_
      refine ab_gen (fun u9 e9 => ?_)
      have P9 : gP [26, 27, 29, 30, 115, 116] u u9 := by rw [e9]; exact P2.ui rfl (by decide)
      refine ab_aload_n X 0 d_MO_satisfied_12 rfl rfl ?_
      refine ab_gR X fl_MO_45 d_MO_satisfied_13 (by first | assumption | decide | (show _ < 124; omega) | (show _ < 61; omega) | (show _ < 20; omega)) (P9.1.mo11) ?_
      refine ab_iload_n X 2 d_MO_satisfied_16 rfl rfl ?_
      refine ab_iald X (3 * p1 + j) ⟨rfl, rfl⟩ d_MO_satisfied_17 (by first | assumption | decide | (show _ < 124; omega) | (show _ < 61; omega) | (show _ < 20; omega)) (rfl) (show 3 * p1 + j < 72 by omega) (ab_ln_lt _ _) ?_
      refine ab_top (P9.ai (by decide) ew) ?_
      refine ab_istore4 X 0 1 2 3 d_MO_satisfied_18 (by decide) rfl rfl rfl rfl rfl rfl rfl rfl ?_
      refine ab_aload_n X 1 d_MO_satisfied_20 rfl rfl ?_
      refine ab_gR X fl_MO_42 d_MO_satisfied_21 (by first | assumption | decide | (show _ < 124; omega) | (show _ < 61; omega) | (show _ < 20; omega)) (P9.1.mo10) ?_
      refine ab_iconst (v := 4) X d_MO_satisfied_24 (by decide) ?_
      refine ab_iload_n X 2 d_MO_satisfied_25 rfl rfl ?_
      refine ab_imul X d_MO_satisfied_26 ?_
      refine ab_iald X (4 * p1) ⟨rfl, rfl⟩ d_MO_satisfied_27 (by first | assumption | decide | (show _ < 124; omega) | (show _ < 61; omega) | (show _ < 20; omega)) (nI_4m p1) (show 4 * p1 < 160 by omega) (ab_ln_lt _ _) ?_
      refine ab_top (P9.ai (by decide) ex) ?_
      refine ab_istore5 X 0 1 2 3 4 d_MO_satisfied_28 (by decide) rfl rfl rfl rfl rfl rfl rfl rfl rfl rfl ?_
      refine ab_aload_n X 2 d_MO_satisfied_30 rfl rfl ?_
      refine ab_gR X fl_MO_42 d_MO_satisfied_31 (by first | assumption | decide | (show _ < 124; omega) | (show _ < 61; omega) | (show _ < 20; omega)) (P9.1.mo10) ?_
      refine ab_iconst (v := 4) X d_MO_satisfied_34 (by decide) ?_
      refine ab_iload_n X 3 d_MO_satisfied_35 rfl rfl ?_
      refine ab_imul X d_MO_satisfied_36 ?_
      refine ab_iconst (v := 1) X d_MO_satisfied_37 (by decide) ?_
      refine ab_iadd X d_MO_satisfied_38 ?_
      refine ab_iald X (4 * p1 + 1) ⟨rfl, rfl⟩ d_MO_satisfied_39 (by first | assumption | decide | (show _ < 124; omega) | (show _ < 61; omega) | (show _ < 20; omega)) (nI_4b p1) (show 4 * p1 + 1 < 160 by omega) (ab_ln_lt _ _) ?_
      refine ab_top (P9.ai (by decide) ey) ?_
      refine ab_istore6 X 0 1 2 3 4 5 d_MO_satisfied_40 (by decide) rfl rfl rfl rfl rfl rfl rfl rfl rfl rfl rfl rfl ?_
      refine ab_aload_n X 3 d_MO_satisfied_42 rfl rfl ?_
      refine ab_callV (as := []) X (fun h => by cases h) (x_MO_newRow u9 P9.1) lk_MO_267 d_MO_satisfied_43 rfl rfl (by first | assumption | decide | (show _ < 124; omega) | (show _ < 61; omega) | (show _ < 20; omega)) ⟨by first | exact Nat.le_of_ble_eq_true rfl | (simp only [ab_rm]; omega), by first | exact Nat.le_of_ble_eq_true rfl | (simp only [ab_rm]; omega)⟩ ⟨by first | exact Nat.le_of_ble_eq_true rfl | (simp only [ab_rm]; omega), by first | exact Nat.le_of_ble_eq_true rfl | (simp only [ab_rm]; omega)⟩ (Nat.le_of_ble_eq_true rfl) (fun u43 r43 h43 => ?_)
      obtain ⟨⟨q43, r43⟩, rfl⟩ := h43
      have P43 := P9.trans q43 (by decide)
      have b0 : mBs u43 none := mBs.fr3 (o := none) ⟨by rw [e9, e2]; exact (ui_n _ (by omega)).trans (ui_s _), by rw [e9]; exact ui_s _⟩ q43
      refine ab_iload X 2 d_MO_satisfied_46 rfl ?_
      refine ab_iconst (v := 1) X d_MO_satisfied_48 (by decide) ?_
      refine ab_icmp_eq X 66 d_MO_satisfied_49 rfl (fun hb => absurd hb ((by decide))) (fun _ => ?_)
      refine ab_iload X 2 d_MO_satisfied_52 rfl ?_
      refine ab_bipush (v := 11) X d_MO_satisfied_54 (by decide) ?_
      refine ab_icmp_eq X 66 d_MO_satisfied_56 rfl (fun hb => absurd hb ((by decide))) (fun _ => ?_)
      refine ab_iload X 2 d_MO_satisfied_59 rfl ?_
      refine ab_bipush (v := 12) X d_MO_satisfied_61 (by decide) ?_
      refine ab_icmp_ne X 107 d_MO_satisfied_63 rfl (fun _ => ?_) (fun hb => absurd hb ((by decide)))
      refine ab_iload X 2 d_MO_satisfied_107 rfl ?_
      refine ab_iconst (v := 2) X d_MO_satisfied_109 (by decide) ?_
      refine ab_icmp_ne X 130 d_MO_satisfied_110 rfl (fun hb => absurd ((by decide)) hb) (fun _ => ?_)
      refine ab_aload_n X 3 d_MO_satisfied_113 rfl rfl ?_
      refine ab_iload X 1 d_MO_satisfied_114 rfl ?_
      refine ab_callS (as := [ab_I (nI x)]) X (fun h => by cases h) (t_MO_d u43 x) ls_MO_195 d_MO_satisfied_116 rfl rfl ⟨by first | exact Nat.le_of_ble_eq_true rfl | (simp only [ab_rm]; omega), by first | exact Nat.le_of_ble_eq_true rfl | (simp only [ab_rm]; omega)⟩ ⟨by first | exact Nat.le_of_ble_eq_true rfl | (simp only [ab_rm]; omega), by first | exact Nat.le_of_ble_eq_true rfl | (simp only [ab_rm]; omega)⟩ (Nat.le_of_ble_eq_true rfl) (fun u116 r116 h116 => ?_)
      obtain ⟨e116, rfl⟩ := h116
      subst u116
      refine ab_iload X 0 d_MO_satisfied_119 rfl ?_
      refine ab_callS (as := [ab_I (nI y)]) X (fun h => by cases h) (t_MO_d u43 y) ls_MO_195 d_MO_satisfied_121 rfl rfl ⟨by first | exact Nat.le_of_ble_eq_true rfl | (simp only [ab_rm]; omega), by first | exact Nat.le_of_ble_eq_true rfl | (simp only [ab_rm]; omega)⟩ ⟨by first | exact Nat.le_of_ble_eq_true rfl | (simp only [ab_rm]; omega), by first | exact Nat.le_of_ble_eq_true rfl | (simp only [ab_rm]; omega)⟩ (Nat.le_of_ble_eq_true rfl) (fun u121 r121 h121 => ?_)
      obtain ⟨e121, rfl⟩ := h121
      subst u121
      refine ab_callV (as := [ab_I (nI (3 * x + 1)), ab_I (nI (3 * y + 1))]) X (fun h => by cases h) (x_MO_offerBoth u43 (3 * x + 1) (3 * y + 1) (4 * lf x - 2) (4 * lf y - 2) (S x 1) (S y 1) none b0 oB.none P43.1 (by omega) (by omega) ((xA.2 1 (by decide)).fo P43) ((yA.2 1 (by decide)).fo P43) (xB 1 (by decide)) (yB 1 (by decide)) (by omega)) lk_MO_279 d_MO_satisfied_124 rfl rfl (by first | assumption | decide | (show _ < 124; omega) | (show _ < 61; omega) | (show _ < 20; omega)) ⟨by first | exact Nat.le_of_ble_eq_true rfl | (simp only [ab_rm]; omega), by first | exact Nat.le_of_ble_eq_true rfl | (simp only [ab_rm]; omega)⟩ ⟨by first | exact Nat.le_of_ble_eq_true rfl | (simp only [ab_rm]; omega), by first | exact Nat.le_of_ble_eq_true rfl | (simp only [ab_rm]; omega)⟩ (Nat.le_of_ble_eq_true rfl) (fun u124 r124 h124 => ?_)
      obtain ⟨⟨q124, r124⟩, rfl⟩ := h124
      have P124 := P43.trans q124 (by decide)
      refine ab_goto X 306 d_MO_satisfied_127 rfl ?_
      refine ab_lv (List.forall_mem_cons.mpr ⟨List.mem_of_getElem? (i := 3) rfl, List.forall_mem_cons.mpr ⟨List.mem_of_getElem? (i := 4) rfl, List.forall_mem_cons.mpr ⟨List.mem_of_getElem? (i := 5) rfl, fun _ h => absurd h List.not_mem_nil⟩⟩⟩) ?_
      exact fin _ P124 (by rw [sv2 k5 c2, ← cx, ← cy]; rw [bet_none] at r124; exact r124)
    · have k6 : kd p1 = 6 := by unfold wok at hw; omega
      refine ab_aload_n X 0 d_MO_satisfied_0 rfl rfl ?_
      refine ab_iconst (v := (-1)) X d_MO_satisfied_1 (by decide) ?_
      refine ab_putI X fp_MO_99 d_MO_satisfied_2 (by first | assumption | decide | (show _ < 124; omega) | (show _ < 61; omega) | (show _ < 20; omega)) rfl rfl ?_
      refine ab_gen (fun u2 e2 => ?_)
      have P2 : gP [26, 27, 29, 30, 115, 116] u u2 := by rw [e2]; exact R0.ui rfl (by decide)
      refine ab_aload_n X 0 d_MO_satisfied_5 rfl rfl ?_
      refine ab_ldcw X (v := 100000) (ab_in 1248 (by decide +kernel) (by decide +kernel)) d_MO_satisfied_6 ?_
      refine ab_putI X fp_MO_102 d_MO_satisfied_9 (by first | assumption | decide | (show _ < 124; omega) | (show _ < 61; omega) | (show _ < 20; omega)) rfl rfl ?_
      refine ab_gen (fun u9 e9 => ?_)
      have P9 : gP [26, 27, 29, 30, 115, 116] u u9 := by rw [e9]; exact P2.ui rfl (by decide)
      refine ab_aload_n X 0 d_MO_satisfied_12 rfl rfl ?_
      refine ab_gR X fl_MO_45 d_MO_satisfied_13 (by first | assumption | decide | (show _ < 124; omega) | (show _ < 61; omega) | (show _ < 20; omega)) (P9.1.mo11) ?_
      refine ab_iload_n X 2 d_MO_satisfied_16 rfl rfl ?_
      refine ab_iald X (3 * p1 + j) ⟨rfl, rfl⟩ d_MO_satisfied_17 (by first | assumption | decide | (show _ < 124; omega) | (show _ < 61; omega) | (show _ < 20; omega)) (rfl) (show 3 * p1 + j < 72 by omega) (ab_ln_lt _ _) ?_
      refine ab_top (P9.ai (by decide) ew) ?_
      refine ab_istore4 X 0 1 2 3 d_MO_satisfied_18 (by decide) rfl rfl rfl rfl rfl rfl rfl rfl ?_
      refine ab_aload_n X 1 d_MO_satisfied_20 rfl rfl ?_
      refine ab_gR X fl_MO_42 d_MO_satisfied_21 (by first | assumption | decide | (show _ < 124; omega) | (show _ < 61; omega) | (show _ < 20; omega)) (P9.1.mo10) ?_
      refine ab_iconst (v := 4) X d_MO_satisfied_24 (by decide) ?_
      refine ab_iload_n X 2 d_MO_satisfied_25 rfl rfl ?_
      refine ab_imul X d_MO_satisfied_26 ?_
      refine ab_iald X (4 * p1) ⟨rfl, rfl⟩ d_MO_satisfied_27 (by first | assumption | decide | (show _ < 124; omega) | (show _ < 61; omega) | (show _ < 20; omega)) (nI_4m p1) (show 4 * p1 < 160 by omega) (ab_ln_lt _ _) ?_
      refine ab_top (P9.ai (by decide) ex) ?_
      refine ab_istore5 X 0 1 2 3 4 d_MO_satisfied_28 (by decide) rfl rfl rfl rfl rfl rfl rfl rfl rfl rfl ?_
      refine ab_aload_n X 2 d_MO_satisfied_30 rfl rfl ?_
      refine ab_gR X fl_MO_42 d_MO_satisfied_31 (by first | assumption | decide | (show _ < 124; omega) | (show _ < 61; omega) | (show _ < 20; omega)) (P9.1.mo10) ?_
      refine ab_iconst (v := 4) X d_MO_satisfied_34 (by decide) ?_
      refine ab_iload_n X 3 d_MO_satisfied_35 rfl rfl ?_
      refine ab_imul X d_MO_satisfied_36 ?_
      refine ab_iconst (v := 1) X d_MO_satisfied_37 (by decide) ?_
      refine ab_iadd X d_MO_satisfied_38 ?_
      refine ab_iald X (4 * p1 + 1) ⟨rfl, rfl⟩ d_MO_satisfied_39 (by first | assumption | decide | (show _ < 124; omega) | (show _ < 61; omega) | (show _ < 20; omega)) (nI_4b p1) (show 4 * p1 + 1 < 160 by omega) (ab_ln_lt _ _) ?_
      refine ab_top (P9.ai (by decide) ey) ?_
      refine ab_istore6 X 0 1 2 3 4 5 d_MO_satisfied_40 (by decide) rfl rfl rfl rfl rfl rfl rfl rfl rfl rfl rfl rfl ?_
      refine ab_aload_n X 3 d_MO_satisfied_42 rfl rfl ?_
      refine ab_callV (as := []) X (fun h => by cases h) (x_MO_newRow u9 P9.1) lk_MO_267 d_MO_satisfied_43 rfl rfl (by first | assumption | decide | (show _ < 124; omega) | (show _ < 61; omega) | (show _ < 20; omega)) ⟨by first | exact Nat.le_of_ble_eq_true rfl | (simp only [ab_rm]; omega), by first | exact Nat.le_of_ble_eq_true rfl | (simp only [ab_rm]; omega)⟩ ⟨by first | exact Nat.le_of_ble_eq_true rfl | (simp only [ab_rm]; omega), by first | exact Nat.le_of_ble_eq_true rfl | (simp only [ab_rm]; omega)⟩ (Nat.le_of_ble_eq_true rfl) (fun u43 r43 h43 => ?_)
      obtain ⟨⟨q43, r43⟩, rfl⟩ := h43
      have P43 := P9.trans q43 (by decide)
      have b0 : mBs u43 none := mBs.fr3 (o := none) ⟨by rw [e9, e2]; exact (ui_n _ (by omega)).trans (ui_s _), by rw [e9]; exact ui_s _⟩ q43
      refine ab_iload X 2 d_MO_satisfied_46 rfl ?_
      refine ab_iconst (v := 1) X d_MO_satisfied_48 (by decide) ?_
      refine ab_icmp_eq X 66 d_MO_satisfied_49 rfl (fun hb => absurd hb ((by decide))) (fun _ => ?_)
      refine ab_iload X 2 d_MO_satisfied_52 rfl ?_
      refine ab_bipush (v := 11) X d_MO_satisfied_54 (by decide) ?_
      refine ab_icmp_eq X 66 d_MO_satisfied_56 rfl (fun hb => absurd hb ((by decide))) (fun _ => ?_)
      refine ab_iload X 2 d_MO_satisfied_59 rfl ?_
      refine ab_bipush (v := 12) X d_MO_satisfied_61 (by decide) ?_
      refine ab_icmp_ne X 107 d_MO_satisfied_63 rfl (fun _ => ?_) (fun hb => absurd hb ((by decide)))
      refine ab_iload X 2 d_MO_satisfied_107 rfl ?_
      refine ab_iconst (v := 2) X d_MO_satisfied_109 (by decide) ?_
      refine ab_icmp_ne X 130 d_MO_satisfied_110 rfl (fun _ => ?_) (fun hb => absurd hb ((by decide)))
      refine ab_iload X 2 d_MO_satisfied_130 rfl ?_
      refine ab_iconst (v := 3) X d_MO_satisfied_132 (by decide) ?_
      refine ab_icmp_ne X 181 d_MO_satisfied_133 rfl (fun hb => absurd ((by decide)) hb) (fun _ => ?_)
      refine ab_aload_n X 3 d_MO_satisfied_136 rfl rfl ?_
      refine ab_iload X 1 d_MO_satisfied_137 rfl ?_
      refine ab_callS (as := [ab_I (nI x)]) X (fun h => by cases h) (t_MO_d u43 x) ls_MO_195 d_MO_satisfied_139 rfl rfl ⟨by first | exact Nat.le_of_ble_eq_true rfl | (simp only [ab_rm]; omega), by first | exact Nat.le_of_ble_eq_true rfl | (simp only [ab_rm]; omega)⟩ ⟨by first | exact Nat.le_of_ble_eq_true rfl | (simp only [ab_rm]; omega), by first | exact Nat.le_of_ble_eq_true rfl | (simp only [ab_rm]; omega)⟩ (Nat.le_of_ble_eq_true rfl) (fun u139 r139 h139 => ?_)
      obtain ⟨e139, rfl⟩ := h139
      subst u139
      refine ab_callV (as := [ab_I (nI (3 * x + 1))]) X (fun h => by cases h) (x_MO_yes u43 (3 * x + 1) 0 0 (4 * lf x - 2) (some []) (S x 1) P43.1 r43 ((xA.2 1 (by decide)).fo P43) (xB 1 (by decide)) (by omega) (by omega) (by omega) (by decide)) lk_MO_270 d_MO_satisfied_142 rfl rfl (by first | assumption | decide | (show _ < 124; omega) | (show _ < 61; omega) | (show _ < 20; omega)) ⟨by first | exact Nat.le_of_ble_eq_true rfl | (simp only [ab_rm]; omega), by first | exact Nat.le_of_ble_eq_true rfl | (simp only [ab_rm]; omega)⟩ ⟨by first | exact Nat.le_of_ble_eq_true rfl | (simp only [ab_rm]; omega), by first | exact Nat.le_of_ble_eq_true rfl | (simp only [ab_rm]; omega)⟩ (Nat.le_of_ble_eq_true rfl) (fun u142 r142 h142 => ?_)
      obtain ⟨⟨q142, r142⟩, rfl⟩ := h142
      have P142 := P43.trans q142 (by decide)
      rw [jn_nil] at r142
      refine ab_aload_n X 3 d_MO_satisfied_145 rfl rfl ?_
      refine ab_iload X 0 d_MO_satisfied_146 rfl ?_
      refine ab_callV (as := [ab_I (nI y)]) X (fun h => by cases h) (x_MO_no u142 y (0 + (4 * lf x - 2)) (0 + 1) (S x 1) (R y) P142.1 r142 (yA.1.fo P142) ⟨by omega, yR.2⟩ (by omega) (by omega) (by decide)) lk_MO_276 d_MO_satisfied_148 rfl rfl (by first | assumption | decide | (show _ < 124; omega) | (show _ < 61; omega) | (show _ < 20; omega)) ⟨by first | exact Nat.le_of_ble_eq_true rfl | (simp only [ab_rm]; omega), by first | exact Nat.le_of_ble_eq_true rfl | (simp only [ab_rm]; omega)⟩ ⟨by first | exact Nat.le_of_ble_eq_true rfl | (simp only [ab_rm]; omega), by first | exact Nat.le_of_ble_eq_true rfl | (simp only [ab_rm]; omega)⟩ (Nat.le_of_ble_eq_true rfl) (fun u148 r148 h148 => ?_)
      obtain ⟨⟨q148, r148⟩, rfl⟩ := h148
      have P148 := P142.trans q148 (by decide)
      refine ab_aload_n X 3 d_MO_satisfied_151 rfl rfl ?_
      refine ab_callV (as := []) X (fun h => by cases h) (x_MO_offer u148 _ _ (jn (S x 1) (some (R y))) none P148.1 r148 ((b0.fr3 q142).fr3 q148) ((oB.jnB (xB 1 (by decide)) (oB.some (Nat.le_refl _) yR.2)).wk (by omega)) oB.none (by omega) (by decide)) lk_MO_273 d_MO_satisfied_152 rfl rfl (by first | assumption | decide | (show _ < 124; omega) | (show _ < 61; omega) | (show _ < 20; omega)) ⟨by first | exact Nat.le_of_ble_eq_true rfl | (simp only [ab_rm]; omega), by first | exact Nat.le_of_ble_eq_true rfl | (simp only [ab_rm]; omega)⟩ ⟨by first | exact Nat.le_of_ble_eq_true rfl | (simp only [ab_rm]; omega), by first | exact Nat.le_of_ble_eq_true rfl | (simp only [ab_rm]; omega)⟩ (Nat.le_of_ble_eq_true rfl) (fun u152 r152 h152 => ?_)
      obtain ⟨⟨q152, r152⟩, rfl⟩ := h152
      have P152 := P148.trans q152 (by decide)
      refine ab_aload_n X 3 d_MO_satisfied_155 rfl rfl ?_
      refine ab_callV (as := []) X (fun h => by cases h) (x_MO_newRow u152 P152.1) lk_MO_267 d_MO_satisfied_156 rfl rfl (by first | assumption | decide | (show _ < 124; omega) | (show _ < 61; omega) | (show _ < 20; omega)) ⟨by first | exact Nat.le_of_ble_eq_true rfl | (simp only [ab_rm]; omega), by first | exact Nat.le_of_ble_eq_true rfl | (simp only [ab_rm]; omega)⟩ ⟨by first | exact Nat.le_of_ble_eq_true rfl | (simp only [ab_rm]; omega), by first | exact Nat.le_of_ble_eq_true rfl | (simp only [ab_rm]; omega)⟩ (Nat.le_of_ble_eq_true rfl) (fun u156 r156 h156 => ?_)
      obtain ⟨⟨q156, r156⟩, rfl⟩ := h156
      have P156 := P152.trans q156 (by decide)
      have b156 := mBs.fr3 r152 q156
      refine ab_aload_n X 3 d_MO_satisfied_159 rfl rfl ?_
      refine ab_iload X 1 d_MO_satisfied_160 rfl ?_
      refine ab_callV (as := [ab_I (nI x)]) X (fun h => by cases h) (x_MO_no u156 x 0 0 (some []) (R x) P156.1 r156 (xA.1.fo P156) ⟨by omega, xR.2⟩ (by omega) (by omega) (by decide)) lk_MO_276 d_MO_satisfied_162 rfl rfl (by first | assumption | decide | (show _ < 124; omega) | (show _ < 61; omega) | (show _ < 20; omega)) ⟨by first | exact Nat.le_of_ble_eq_true rfl | (simp only [ab_rm]; omega), by first | exact Nat.le_of_ble_eq_true rfl | (simp only [ab_rm]; omega)⟩ ⟨by first | exact Nat.le_of_ble_eq_true rfl | (simp only [ab_rm]; omega), by first | exact Nat.le_of_ble_eq_true rfl | (simp only [ab_rm]; omega)⟩ (Nat.le_of_ble_eq_true rfl) (fun u162 r162 h162 => ?_)
      obtain ⟨⟨q162, r162⟩, rfl⟩ := h162
      have P162 := P156.trans q162 (by decide)
      rw [jn_nil] at r162
      refine ab_aload_n X 3 d_MO_satisfied_165 rfl rfl ?_
      refine ab_iload X 0 d_MO_satisfied_166 rfl ?_
      refine ab_callS (as := [ab_I (nI y)]) X (fun h => by cases h) (t_MO_d u162 y) ls_MO_195 d_MO_satisfied_168 rfl rfl ⟨by first | exact Nat.le_of_ble_eq_true rfl | (simp only [ab_rm]; omega), by first | exact Nat.le_of_ble_eq_true rfl | (simp only [ab_rm]; omega)⟩ ⟨by first | exact Nat.le_of_ble_eq_true rfl | (simp only [ab_rm]; omega), by first | exact Nat.le_of_ble_eq_true rfl | (simp only [ab_rm]; omega)⟩ (Nat.le_of_ble_eq_true rfl) (fun u168 r168 h168 => ?_)
      obtain ⟨e168, rfl⟩ := h168
      subst u168
      refine ab_callV (as := [ab_I (nI (3 * y + 1))]) X (fun h => by cases h) (x_MO_yes u162 (3 * y + 1) (0 + (R x).length) 0 (4 * lf y - 2) (some (R x)) (S y 1) P162.1 r162 ((yA.2 1 (by decide)).fo P162) (yB 1 (by decide)) (by omega) (by omega) (by omega) (by decide)) lk_MO_270 d_MO_satisfied_171 rfl rfl (by first | assumption | decide | (show _ < 124; omega) | (show _ < 61; omega) | (show _ < 20; omega)) ⟨by first | exact Nat.le_of_ble_eq_true rfl | (simp only [ab_rm]; omega), by first | exact Nat.le_of_ble_eq_true rfl | (simp only [ab_rm]; omega)⟩ ⟨by first | exact Nat.le_of_ble_eq_true rfl | (simp only [ab_rm]; omega), by first | exact Nat.le_of_ble_eq_true rfl | (simp only [ab_rm]; omega)⟩ (Nat.le_of_ble_eq_true rfl) (fun u171 r171 h171 => ?_)
      obtain ⟨⟨q171, r171⟩, rfl⟩ := h171
      have P171 := P162.trans q171 (by decide)
      refine ab_aload_n X 3 d_MO_satisfied_174 rfl rfl ?_
      refine ab_callV (as := []) X (fun h => by cases h) (x_MO_offer u171 _ _ (jn (some (R x)) (S y 1)) (bet none (jn (S x 1) (some (R y)))) P171.1 r171 ((b156.fr3 q162).fr3 q171) ((oB.jnB (oB.some (Nat.le_refl _) xR.2) (yB 1 (by decide))).wk (by omega)) (oB.none.betB ((oB.jnB (xB 1 (by decide)) (oB.some (Nat.le_refl _) yR.2)).wk (by omega))) (by omega) (by decide)) lk_MO_273 d_MO_satisfied_175 rfl rfl (by first | assumption | decide | (show _ < 124; omega) | (show _ < 61; omega) | (show _ < 20; omega)) ⟨by first | exact Nat.le_of_ble_eq_true rfl | (simp only [ab_rm]; omega), by first | exact Nat.le_of_ble_eq_true rfl | (simp only [ab_rm]; omega)⟩ ⟨by first | exact Nat.le_of_ble_eq_true rfl | (simp only [ab_rm]; omega), by first | exact Nat.le_of_ble_eq_true rfl | (simp only [ab_rm]; omega)⟩ (Nat.le_of_ble_eq_true rfl) (fun u175 r175 h175 => ?_)
      obtain ⟨⟨q175, r175⟩, rfl⟩ := h175
      have P175 := P171.trans q175 (by decide)
      refine ab_goto X 306 d_MO_satisfied_178 rfl ?_
      refine ab_lv (List.forall_mem_cons.mpr ⟨List.mem_of_getElem? (i := 3) rfl, List.forall_mem_cons.mpr ⟨List.mem_of_getElem? (i := 4) rfl, List.forall_mem_cons.mpr ⟨List.mem_of_getElem? (i := 5) rfl, fun _ h => absurd h List.not_mem_nil⟩⟩⟩) ?_
      exact fin _ P175 (by rw [sv3 k6 c2, ← cx, ← cy]; rw [bet_none] at r175; exact r175)
    ·
      refine ab_aload_n X 0 d_MO_satisfied_0 rfl rfl ?_
      refine ab_iconst (v := (-1)) X d_MO_satisfied_1 (by decide) ?_
      refine ab_putI X fp_MO_99 d_MO_satisfied_2 (by first | assumption | decide | (show _ < 124; omega) | (show _ < 61; omega) | (show _ < 20; omega)) rfl rfl ?_
      refine ab_gen (fun u2 e2 => ?_)
      have P2 : gP [26, 27, 29, 30, 115, 116] u u2 := by rw [e2]; exact R0.ui rfl (by decide)
      refine ab_aload_n X 0 d_MO_satisfied_5 rfl rfl ?_
      refine ab_ldcw X (v := 100000) (ab_in 1248 (by decide +kernel) (by decide +kernel)) d_MO_satisfied_6 ?_
      refine ab_putI X fp_MO_102 d_MO_satisfied_9 (by first | assumption | decide | (show _ < 124; omega) | (show _ < 61; omega) | (show _ < 20; omega)) rfl rfl ?_
      refine ab_gen (fun u9 e9 => ?_)
      have P9 : gP [26, 27, 29, 30, 115, 116] u u9 := by rw [e9]; exact P2.ui rfl (by decide)
      refine ab_aload_n X 0 d_MO_satisfied_12 rfl rfl ?_
      refine ab_gR X fl_MO_45 d_MO_satisfied_13 (by first | assumption | decide | (show _ < 124; omega) | (show _ < 61; omega) | (show _ < 20; omega)) (P9.1.mo11) ?_
      refine ab_iload_n X 2 d_MO_satisfied_16 rfl rfl ?_
      refine ab_iald X (3 * p1 + j) ⟨rfl, rfl⟩ d_MO_satisfied_17 (by first | assumption | decide | (show _ < 124; omega) | (show _ < 61; omega) | (show _ < 20; omega)) (rfl) (show 3 * p1 + j < 72 by omega) (ab_ln_lt _ _) ?_
      refine ab_top (P9.ai (by decide) ew) ?_
      refine ab_istore4 X 0 1 2 3 d_MO_satisfied_18 (by decide) rfl rfl rfl rfl rfl rfl rfl rfl ?_
      refine ab_aload_n X 1 d_MO_satisfied_20 rfl rfl ?_
      refine ab_gR X fl_MO_42 d_MO_satisfied_21 (by first | assumption | decide | (show _ < 124; omega) | (show _ < 61; omega) | (show _ < 20; omega)) (P9.1.mo10) ?_
      refine ab_iconst (v := 4) X d_MO_satisfied_24 (by decide) ?_
      refine ab_iload_n X 2 d_MO_satisfied_25 rfl rfl ?_
      refine ab_imul X d_MO_satisfied_26 ?_
      refine ab_iald X (4 * p1) ⟨rfl, rfl⟩ d_MO_satisfied_27 (by first | assumption | decide | (show _ < 124; omega) | (show _ < 61; omega) | (show _ < 20; omega)) (nI_4m p1) (show 4 * p1 < 160 by omega) (ab_ln_lt _ _) ?_
      refine ab_top (P9.ai (by decide) ex) ?_
      refine ab_istore5 X 0 1 2 3 4 d_MO_satisfied_28 (by decide) rfl rfl rfl rfl rfl rfl rfl rfl rfl rfl ?_
      refine ab_aload_n X 2 d_MO_satisfied_30 rfl rfl ?_
      refine ab_gR X fl_MO_42 d_MO_satisfied_31 (by first | assumption | decide | (show _ < 124; omega) | (show _ < 61; omega) | (show _ < 20; omega)) (P9.1.mo10) ?_
      refine ab_iconst (v := 4) X d_MO_satisfied_34 (by decide) ?_
      refine ab_iload_n X 3 d_MO_satisfied_35 rfl rfl ?_
      refine ab_imul X d_MO_satisfied_36 ?_
      refine ab_iconst (v := 1) X d_MO_satisfied_37 (by decide) ?_
      refine ab_iadd X d_MO_satisfied_38 ?_
      refine ab_iald X (4 * p1 + 1) ⟨rfl, rfl⟩ d_MO_satisfied_39 (by first | assumption | decide | (show _ < 124; omega) | (show _ < 61; omega) | (show _ < 20; omega)) (nI_4b p1) (show 4 * p1 + 1 < 160 by omega) (ab_ln_lt _ _) ?_
      refine ab_top (P9.ai (by decide) ey) ?_
      refine ab_istore6 X 0 1 2 3 4 5 d_MO_satisfied_40 (by decide) rfl rfl rfl rfl rfl rfl rfl rfl rfl rfl rfl rfl ?_
      refine ab_aload_n X 3 d_MO_satisfied_42 rfl rfl ?_
      refine ab_callV (as := []) X (fun h => by cases h) (x_MO_newRow u9 P9.1) lk_MO_267 d_MO_satisfied_43 rfl rfl (by first | assumption | decide | (show _ < 124; omega) | (show _ < 61; omega) | (show _ < 20; omega)) ⟨by first | exact Nat.le_of_ble_eq_true rfl | (simp only [ab_rm]; omega), by first | exact Nat.le_of_ble_eq_true rfl | (simp only [ab_rm]; omega)⟩ ⟨by first | exact Nat.le_of_ble_eq_true rfl | (simp only [ab_rm]; omega), by first | exact Nat.le_of_ble_eq_true rfl | (simp only [ab_rm]; omega)⟩ (Nat.le_of_ble_eq_true rfl) (fun u43 r43 h43 => ?_)
      obtain ⟨⟨q43, r43⟩, rfl⟩ := h43
      have P43 := P9.trans q43 (by decide)
      have b0 : mBs u43 none := mBs.fr3 (o := none) ⟨by rw [e9, e2]; exact (ui_n _ (by omega)).trans (ui_s _), by rw [e9]; exact ui_s _⟩ q43
      refine ab_iload X 2 d_MO_satisfied_46 rfl ?_
      refine ab_iconst (v := 1) X d_MO_satisfied_48 (by decide) ?_
      refine ab_icmp_eq X 66 d_MO_satisfied_49 rfl (fun hb => absurd hb ((by decide))) (fun _ => ?_)
      refine ab_iload X 2 d_MO_satisfied_52 rfl ?_
      refine ab_bipush (v := 11) X d_MO_satisfied_54 (by decide) ?_
      refine ab_icmp_eq X 66 d_MO_satisfied_56 rfl (fun hb => absurd hb ((by decide))) (fun _ => ?_)
      refine ab_iload X 2 d_MO_satisfied_59 rfl ?_
      refine ab_bipush (v := 12) X d_MO_satisfied_61 (by decide) ?_
      refine ab_icmp_ne X 107 d_MO_satisfied_63 rfl (fun _ => ?_) (fun hb => absurd hb ((by decide)))
      refine ab_iload X 2 d_MO_satisfied_107 rfl ?_
      refine ab_iconst (v := 2) X d_MO_satisfied_109 (by decide) ?_
      refine ab_icmp_ne X 130 d_MO_satisfied_110 rfl (fun _ => ?_) (fun hb => absurd hb ((by decide)))
      refine ab_iload X 2 d_MO_satisfied_130 rfl ?_
      refine ab_iconst (v := 3) X d_MO_satisfied_132 (by decide) ?_
      refine ab_icmp_ne X 181 d_MO_satisfied_133 rfl (fun _ => ?_) (fun hb => absurd hb ((by decide)))
      refine ab_iload X 2 d_MO_satisfied_181 rfl ?_
      refine ab_iconst (v := 4) X d_MO_satisfied_183 (by decide) ?_
      refine ab_icmp_ne X 206 d_MO_satisfied_184 rfl (fun hb => absurd ((by decide)) hb) (fun _ => ?_)
      refine ab_aload_n X 3 d_MO_satisfied_187 rfl rfl ?_
      refine ab_iload X 1 d_MO_satisfied_188 rfl ?_
      refine ab_callS (as := [ab_I (nI x)]) X (fun h => by cases h) (t_MO_d u43 x) ls_MO_195 d_MO_satisfied_190 rfl rfl ⟨by first | exact Nat.le_of_ble_eq_true rfl | (simp only [ab_rm]; omega), by first | exact Nat.le_of_ble_eq_true rfl | (simp only [ab_rm]; omega)⟩ ⟨by first | exact Nat.le_of_ble_eq_true rfl | (simp only [ab_rm]; omega), by first | exact Nat.le_of_ble_eq_true rfl | (simp only [ab_rm]; omega)⟩ (Nat.le_of_ble_eq_true rfl) (fun u190 r190 h190 => ?_)
      obtain ⟨e190, rfl⟩ := h190
      subst u190
      refine ab_iload X 1 d_MO_satisfied_193 rfl ?_
      refine ab_iload X 0 d_MO_satisfied_195 rfl ?_
      refine ab_callS (as := [ab_I (nI y)]) X (fun h => by cases h) (t_MO_d u43 y) ls_MO_195 d_MO_satisfied_197 rfl rfl ⟨by first | exact Nat.le_of_ble_eq_true rfl | (simp only [ab_rm]; omega), by first | exact Nat.le_of_ble_eq_true rfl | (simp only [ab_rm]; omega)⟩ ⟨by first | exact Nat.le_of_ble_eq_true rfl | (simp only [ab_rm]; omega), by first | exact Nat.le_of_ble_eq_true rfl | (simp only [ab_rm]; omega)⟩ (Nat.le_of_ble_eq_true rfl) (fun u197 r197 h197 => ?_)
      obtain ⟨e197, rfl⟩ := h197
      subst u197
      refine ab_callV (as := [ab_I (nI (3 * x + 1)), ab_I (nI x), ab_I (nI (3 * y + 1))]) X (fun h => by cases h) (x_MO_offerEither u43 (3 * x + 1) x (3 * y + 1) (4 * lf x - 2) (4 * lf y - 2) (S x 1) (S y 1) (R x) none b0 oB.none P43.1 (by omega) (by omega) (by omega) ((xA.2 1 (by decide)).fo P43) (xA.1.fo P43) ((yA.2 1 (by decide)).fo P43) (xB 1 (by decide)) (yB 1 (by decide)) xR.2 (by omega) (by omega)) lk_MO_282 d_MO_satisfied_200 rfl rfl (by first | assumption | decide | (show _ < 124; omega) | (show _ < 61; omega) | (show _ < 20; omega)) ⟨by first | exact Nat.le_of_ble_eq_true rfl | (simp only [ab_rm]; omega), by first | exact Nat.le_of_ble_eq_true rfl | (simp only [ab_rm]; omega)⟩ ⟨by first | exact Nat.le_of_ble_eq_true rfl | (simp only [ab_rm]; omega), by first | exact Nat.le_of_ble_eq_true rfl | (simp only [ab_rm]; omega)⟩ (Nat.le_of_ble_eq_true rfl) (fun u200 r200 h200 => ?_)
      obtain ⟨⟨q200, r200⟩, rfl⟩ := h200
      have P200 := P43.trans q200 (by decide)
      refine ab_goto X 306 d_MO_satisfied_203 rfl ?_
      refine ab_lv (List.forall_mem_cons.mpr ⟨List.mem_of_getElem? (i := 3) rfl, List.forall_mem_cons.mpr ⟨List.mem_of_getElem? (i := 4) rfl, List.forall_mem_cons.mpr ⟨List.mem_of_getElem? (i := 5) rfl, fun _ h => absurd h List.not_mem_nil⟩⟩⟩) ?_
      exact fin _ P200 (by rw [sv4, ← cx, ← cy]; rw [bet_none] at r200; exact r200)
    ·
      refine ab_aload_n X 0 d_MO_satisfied_0 rfl rfl ?_
      refine ab_iconst (v := (-1)) X d_MO_satisfied_1 (by decide) ?_
      refine ab_putI X fp_MO_99 d_MO_satisfied_2 (by first | assumption | decide | (show _ < 124; omega) | (show _ < 61; omega) | (show _ < 20; omega)) rfl rfl ?_
      refine ab_gen (fun u2 e2 => ?_)
      have P2 : gP [26, 27, 29, 30, 115, 116] u u2 := by rw [e2]; exact R0.ui rfl (by decide)
      refine ab_aload_n X 0 d_MO_satisfied_5 rfl rfl ?_
      refine ab_ldcw X (v := 100000) (ab_in 1248 (by decide +kernel) (by decide +kernel)) d_MO_satisfied_6 ?_
      refine ab_putI X fp_MO_102 d_MO_satisfied_9 (by first | assumption | decide | (show _ < 124; omega) | (show _ < 61; omega) | (show _ < 20; omega)) rfl rfl ?_
      refine ab_gen (fun u9 e9 => ?_)
      have P9 : gP [26, 27, 29, 30, 115, 116] u u9 := by rw [e9]; exact P2.ui rfl (by decide)
      refine ab_aload_n X 0 d_MO_satisfied_12 rfl rfl ?_
      refine ab_gR X fl_MO_45 d_MO_satisfied_13 (by first | assumption | decide | (show _ < 124; omega) | (show _ < 61; omega) | (show _ < 20; omega)) (P9.1.mo11) ?_
      refine ab_iload_n X 2 d_MO_satisfied_16 rfl rfl ?_
      refine ab_iald X (3 * p1 + j) ⟨rfl, rfl⟩ d_MO_satisfied_17 (by first | assumption | decide | (show _ < 124; omega) | (show _ < 61; omega) | (show _ < 20; omega)) (rfl) (show 3 * p1 + j < 72 by omega) (ab_ln_lt _ _) ?_
      refine ab_top (P9.ai (by decide) ew) ?_
      refine ab_istore4 X 0 1 2 3 d_MO_satisfied_18 (by decide) rfl rfl rfl rfl rfl rfl rfl rfl ?_
      refine ab_aload_n X 1 d_MO_satisfied_20 rfl rfl ?_
      refine ab_gR X fl_MO_42 d_MO_satisfied_21 (by first | assumption | decide | (show _ < 124; omega) | (show _ < 61; omega) | (show _ < 20; omega)) (P9.1.mo10) ?_
      refine ab_iconst (v := 4) X d_MO_satisfied_24 (by decide) ?_
      refine ab_iload_n X 2 d_MO_satisfied_25 rfl rfl ?_
      refine ab_imul X d_MO_satisfied_26 ?_
      refine ab_iald X (4 * p1) ⟨rfl, rfl⟩ d_MO_satisfied_27 (by first | assumption | decide | (show _ < 124; omega) | (show _ < 61; omega) | (show _ < 20; omega)) (nI_4m p1) (show 4 * p1 < 160 by omega) (ab_ln_lt _ _) ?_
      refine ab_top (P9.ai (by decide) ex) ?_
      refine ab_istore5 X 0 1 2 3 4 d_MO_satisfied_28 (by decide) rfl rfl rfl rfl rfl rfl rfl rfl rfl rfl ?_
      refine ab_aload_n X 2 d_MO_satisfied_30 rfl rfl ?_
      refine ab_gR X fl_MO_42 d_MO_satisfied_31 (by first | assumption | decide | (show _ < 124; omega) | (show _ < 61; omega) | (show _ < 20; omega)) (P9.1.mo10) ?_
      refine ab_iconst (v := 4) X d_MO_satisfied_34 (by decide) ?_
      refine ab_iload_n X 3 d_MO_satisfied_35 rfl rfl ?_
      refine ab_imul X d_MO_satisfied_36 ?_
      refine ab_iconst (v := 1) X d_MO_satisfied_37 (by decide) ?_
      refine ab_iadd X d_MO_satisfied_38 ?_
      refine ab_iald X (4 * p1 + 1) ⟨rfl, rfl⟩ d_MO_satisfied_39 (by first | assumption | decide | (show _ < 124; omega) | (show _ < 61; omega) | (show _ < 20; omega)) (nI_4b p1) (show 4 * p1 + 1 < 160 by omega) (ab_ln_lt _ _) ?_
      refine ab_top (P9.ai (by decide) ey) ?_
      refine ab_istore6 X 0 1 2 3 4 5 d_MO_satisfied_40 (by decide) rfl rfl rfl rfl rfl rfl rfl rfl rfl rfl rfl rfl ?_
      refine ab_aload_n X 3 d_MO_satisfied_42 rfl rfl ?_
      refine ab_callV (as := []) X (fun h => by cases h) (x_MO_newRow u9 P9.1) lk_MO_267 d_MO_satisfied_43 rfl rfl (by first | assumption | decide | (show _ < 124; omega) | (show _ < 61; omega) | (show _ < 20; omega)) ⟨by first | exact Nat.le_of_ble_eq_true rfl | (simp only [ab_rm]; omega), by first | exact Nat.le_of_ble_eq_true rfl | (simp only [ab_rm]; omega)⟩ ⟨by first | exact Nat.le_of_ble_eq_true rfl | (simp only [ab_rm]; omega), by first | exact Nat.le_of_ble_eq_true rfl | (simp only [ab_rm]; omega)⟩ (Nat.le_of_ble_eq_true rfl) (fun u43 r43 h43 => ?_)
      obtain ⟨⟨q43, r43⟩, rfl⟩ := h43
      have P43 := P9.trans q43 (by decide)
      have b0 : mBs u43 none := mBs.fr3 (o := none) ⟨by rw [e9, e2]; exact (ui_n _ (by omega)).trans (ui_s _), by rw [e9]; exact ui_s _⟩ q43
      refine ab_iload X 2 d_MO_satisfied_46 rfl ?_
      refine ab_iconst (v := 1) X d_MO_satisfied_48 (by decide) ?_
      refine ab_icmp_eq X 66 d_MO_satisfied_49 rfl (fun hb => absurd hb ((by decide))) (fun _ => ?_)
      refine ab_iload X 2 d_MO_satisfied_52 rfl ?_
      refine ab_bipush (v := 11) X d_MO_satisfied_54 (by decide) ?_
      refine ab_icmp_eq X 66 d_MO_satisfied_56 rfl (fun hb => absurd hb ((by decide))) (fun _ => ?_)
      refine ab_iload X 2 d_MO_satisfied_59 rfl ?_
      refine ab_bipush (v := 12) X d_MO_satisfied_61 (by decide) ?_
      refine ab_icmp_ne X 107 d_MO_satisfied_63 rfl (fun _ => ?_) (fun hb => absurd hb ((by decide)))
      refine ab_iload X 2 d_MO_satisfied_107 rfl ?_
      refine ab_iconst (v := 2) X d_MO_satisfied_109 (by decide) ?_
      refine ab_icmp_ne X 130 d_MO_satisfied_110 rfl (fun _ => ?_) (fun hb => absurd hb ((by decide)))
      refine ab_iload X 2 d_MO_satisfied_130 rfl ?_
      refine ab_iconst (v := 3) X d_MO_satisfied_132 (by decide) ?_
      refine ab_icmp_ne X 181 d_MO_satisfied_133 rfl (fun _ => ?_) (fun hb => absurd hb ((by decide)))
      refine ab_iload X 2 d_MO_satisfied_181 rfl ?_
      refine ab_iconst (v := 4) X d_MO_satisfied_183 (by decide) ?_
      refine ab_icmp_ne X 206 d_MO_satisfied_184 rfl (fun _ => ?_) (fun hb => absurd hb ((by decide)))
      refine ab_iload X 2 d_MO_satisfied_206 rfl ?_
      refine ab_iconst (v := 5) X d_MO_satisfied_208 (by decide) ?_
      refine ab_icmp_ne X 229 d_MO_satisfied_209 rfl (fun hb => absurd ((by decide)) hb) (fun _ => ?_)
      refine ab_aload_n X 3 d_MO_satisfied_212 rfl rfl ?_
      refine ab_iload X 1 d_MO_satisfied_213 rfl ?_
      refine ab_callS (as := [ab_I (nI x)]) X (fun h => by cases h) (t_MO_d u43 x) ls_MO_195 d_MO_satisfied_215 rfl rfl ⟨by first | exact Nat.le_of_ble_eq_true rfl | (simp only [ab_rm]; omega), by first | exact Nat.le_of_ble_eq_true rfl | (simp only [ab_rm]; omega)⟩ ⟨by first | exact Nat.le_of_ble_eq_true rfl | (simp only [ab_rm]; omega), by first | exact Nat.le_of_ble_eq_true rfl | (simp only [ab_rm]; omega)⟩ (Nat.le_of_ble_eq_true rfl) (fun u215 r215 h215 => ?_)
      obtain ⟨e215, rfl⟩ := h215
      subst u215
      refine ab_iload X 0 d_MO_satisfied_218 rfl ?_
      refine ab_callS (as := [ab_I (nI y)]) X (fun h => by cases h) (t_MO_b u43 y) ls_MO_204 d_MO_satisfied_220 rfl rfl ⟨by first | exact Nat.le_of_ble_eq_true rfl | (simp only [ab_rm]; omega), by first | exact Nat.le_of_ble_eq_true rfl | (simp only [ab_rm]; omega)⟩ ⟨by first | exact Nat.le_of_ble_eq_true rfl | (simp only [ab_rm]; omega), by first | exact Nat.le_of_ble_eq_true rfl | (simp only [ab_rm]; omega)⟩ (Nat.le_of_ble_eq_true rfl) (fun u220 r220 h220 => ?_)
      obtain ⟨e220, rfl⟩ := h220
      subst u220
      refine ab_callV (as := [ab_I (nI (3 * x + 1)), ab_I (nI (3 * y))]) X (fun h => by cases h) (x_MO_offerChoice u43 (3 * x + 1) (3 * y) (4 * lf x - 2) (4 * lf y - 2) (S x 1) (S y 0) none b0 oB.none P43.1 (by omega) (by omega) ((xA.2 1 (by decide)).fo P43) ((yA.2 0 (by decide)).fo P43) (xB 1 (by decide)) (yB 0 (by decide)) (by omega) (by omega)) lk_MO_285 d_MO_satisfied_223 rfl rfl (by first | assumption | decide | (show _ < 124; omega) | (show _ < 61; omega) | (show _ < 20; omega)) ⟨by first | exact Nat.le_of_ble_eq_true rfl | (simp only [ab_rm]; omega), by first | exact Nat.le_of_ble_eq_true rfl | (simp only [ab_rm]; omega)⟩ ⟨by first | exact Nat.le_of_ble_eq_true rfl | (simp only [ab_rm]; omega), by first | exact Nat.le_of_ble_eq_true rfl | (simp only [ab_rm]; omega)⟩ (Nat.le_of_ble_eq_true rfl) (fun u223 r223 h223 => ?_)
      obtain ⟨⟨q223, r223⟩, rfl⟩ := h223
      have P223 := P43.trans q223 (by decide)
      refine ab_goto X 306 d_MO_satisfied_226 rfl ?_
      refine ab_lv (List.forall_mem_cons.mpr ⟨List.mem_of_getElem? (i := 3) rfl, List.forall_mem_cons.mpr ⟨List.mem_of_getElem? (i := 4) rfl, List.forall_mem_cons.mpr ⟨List.mem_of_getElem? (i := 5) rfl, fun _ h => absurd h List.not_mem_nil⟩⟩⟩) ?_
      exact fin _ P223 (by rw [sv5, ← cx, ← cy]; rw [bet_none] at r223; exact r223)
    ·
      refine ab_aload_n X 0 d_MO_satisfied_0 rfl rfl ?_
      refine ab_iconst (v := (-1)) X d_MO_satisfied_1 (by decide) ?_
      refine ab_putI X fp_MO_99 d_MO_satisfied_2 (by first | assumption | decide | (show _ < 124; omega) | (show _ < 61; omega) | (show _ < 20; omega)) rfl rfl ?_
      refine ab_gen (fun u2 e2 => ?_)
      have P2 : gP [26, 27, 29, 30, 115, 116] u u2 := by rw [e2]; exact R0.ui rfl (by decide)
      refine ab_aload_n X 0 d_MO_satisfied_5 rfl rfl ?_
      refine ab_ldcw X (v := 100000) (ab_in 1248 (by decide +kernel) (by decide +kernel)) d_MO_satisfied_6 ?_
      refine ab_putI X fp_MO_102 d_MO_satisfied_9 (by first | assumption | decide | (show _ < 124; omega) | (show _ < 61; omega) | (show _ < 20; omega)) rfl rfl ?_
      refine ab_gen (fun u9 e9 => ?_)
      have P9 : gP [26, 27, 29, 30, 115, 116] u u9 := by rw [e9]; exact P2.ui rfl (by decide)
      refine ab_aload_n X 0 d_MO_satisfied_12 rfl rfl ?_
      refine ab_gR X fl_MO_45 d_MO_satisfied_13 (by first | assumption | decide | (show _ < 124; omega) | (show _ < 61; omega) | (show _ < 20; omega)) (P9.1.mo11) ?_
      refine ab_iload_n X 2 d_MO_satisfied_16 rfl rfl ?_
      refine ab_iald X (3 * p1 + j) ⟨rfl, rfl⟩ d_MO_satisfied_17 (by first | assumption | decide | (show _ < 124; omega) | (show _ < 61; omega) | (show _ < 20; omega)) (rfl) (show 3 * p1 + j < 72 by omega) (ab_ln_lt _ _) ?_
      refine ab_top (P9.ai (by decide) ew) ?_
      refine ab_istore4 X 0 1 2 3 d_MO_satisfied_18 (by decide) rfl rfl rfl rfl rfl rfl rfl rfl ?_
      refine ab_aload_n X 1 d_MO_satisfied_20 rfl rfl ?_
      refine ab_gR X fl_MO_42 d_MO_satisfied_21 (by first | assumption | decide | (show _ < 124; omega) | (show _ < 61; omega) | (show _ < 20; omega)) (P9.1.mo10) ?_
      refine ab_iconst (v := 4) X d_MO_satisfied_24 (by decide) ?_
      refine ab_iload_n X 2 d_MO_satisfied_25 rfl rfl ?_
      refine ab_imul X d_MO_satisfied_26 ?_
      refine ab_iald X (4 * p1) ⟨rfl, rfl⟩ d_MO_satisfied_27 (by first | assumption | decide | (show _ < 124; omega) | (show _ < 61; omega) | (show _ < 20; omega)) (nI_4m p1) (show 4 * p1 < 160 by omega) (ab_ln_lt _ _) ?_
      refine ab_top (P9.ai (by decide) ex) ?_
      refine ab_istore5 X 0 1 2 3 4 d_MO_satisfied_28 (by decide) rfl rfl rfl rfl rfl rfl rfl rfl rfl rfl ?_
      refine ab_aload_n X 2 d_MO_satisfied_30 rfl rfl ?_
      refine ab_gR X fl_MO_42 d_MO_satisfied_31 (by first | assumption | decide | (show _ < 124; omega) | (show _ < 61; omega) | (show _ < 20; omega)) (P9.1.mo10) ?_
      refine ab_iconst (v := 4) X d_MO_satisfied_34 (by decide) ?_
      refine ab_iload_n X 3 d_MO_satisfied_35 rfl rfl ?_
      refine ab_imul X d_MO_satisfied_36 ?_
      refine ab_iconst (v := 1) X d_MO_satisfied_37 (by decide) ?_
      refine ab_iadd X d_MO_satisfied_38 ?_
      refine ab_iald X (4 * p1 + 1) ⟨rfl, rfl⟩ d_MO_satisfied_39 (by first | assumption | decide | (show _ < 124; omega) | (show _ < 61; omega) | (show _ < 20; omega)) (nI_4b p1) (show 4 * p1 + 1 < 160 by omega) (ab_ln_lt _ _) ?_
      refine ab_top (P9.ai (by decide) ey) ?_
      refine ab_istore6 X 0 1 2 3 4 5 d_MO_satisfied_40 (by decide) rfl rfl rfl rfl rfl rfl rfl rfl rfl rfl rfl rfl ?_
      refine ab_aload_n X 3 d_MO_satisfied_42 rfl rfl ?_
      refine ab_callV (as := []) X (fun h => by cases h) (x_MO_newRow u9 P9.1) lk_MO_267 d_MO_satisfied_43 rfl rfl (by first | assumption | decide | (show _ < 124; omega) | (show _ < 61; omega) | (show _ < 20; omega)) ⟨by first | exact Nat.le_of_ble_eq_true rfl | (simp only [ab_rm]; omega), by first | exact Nat.le_of_ble_eq_true rfl | (simp only [ab_rm]; omega)⟩ ⟨by first | exact Nat.le_of_ble_eq_true rfl | (simp only [ab_rm]; omega), by first | exact Nat.le_of_ble_eq_true rfl | (simp only [ab_rm]; omega)⟩ (Nat.le_of_ble_eq_true rfl) (fun u43 r43 h43 => ?_)
      obtain ⟨⟨q43, r43⟩, rfl⟩ := h43
      have P43 := P9.trans q43 (by decide)
      have b0 : mBs u43 none := mBs.fr3 (o := none) ⟨by rw [e9, e2]; exact (ui_n _ (by omega)).trans (ui_s _), by rw [e9]; exact ui_s _⟩ q43
      refine ab_iload X 2 d_MO_satisfied_46 rfl ?_
      refine ab_iconst (v := 1) X d_MO_satisfied_48 (by decide) ?_
      refine ab_icmp_eq X 66 d_MO_satisfied_49 rfl (fun hb => absurd hb ((by decide))) (fun _ => ?_)
      refine ab_iload X 2 d_MO_satisfied_52 rfl ?_
      refine ab_bipush (v := 11) X d_MO_satisfied_54 (by decide) ?_
      refine ab_icmp_eq X 66 d_MO_satisfied_56 rfl (fun hb => absurd hb ((by decide))) (fun _ => ?_)
      refine ab_iload X 2 d_MO_satisfied_59 rfl ?_
      refine ab_bipush (v := 12) X d_MO_satisfied_61 (by decide) ?_
      refine ab_icmp_ne X 107 d_MO_satisfied_63 rfl (fun _ => ?_) (fun hb => absurd hb ((by decide)))
      refine ab_iload X 2 d_MO_satisfied_107 rfl ?_
      refine ab_iconst (v := 2) X d_MO_satisfied_109 (by decide) ?_
      refine ab_icmp_ne X 130 d_MO_satisfied_110 rfl (fun _ => ?_) (fun hb => absurd hb ((by decide)))
      refine ab_iload X 2 d_MO_satisfied_130 rfl ?_
      refine ab_iconst (v := 3) X d_MO_satisfied_132 (by decide) ?_
      refine ab_icmp_ne X 181 d_MO_satisfied_133 rfl (fun _ => ?_) (fun hb => absurd hb ((by decide)))
      refine ab_iload X 2 d_MO_satisfied_181 rfl ?_
      refine ab_iconst (v := 4) X d_MO_satisfied_183 (by decide) ?_
      refine ab_icmp_ne X 206 d_MO_satisfied_184 rfl (fun _ => ?_) (fun hb => absurd hb ((by decide)))
      refine ab_iload X 2 d_MO_satisfied_206 rfl ?_
      refine ab_iconst (v := 5) X d_MO_satisfied_208 (by decide) ?_
      refine ab_icmp_ne X 229 d_MO_satisfied_209 rfl (fun _ => ?_) (fun hb => absurd hb ((by decide)))
      refine ab_iload X 2 d_MO_satisfied_229 rfl ?_
      refine ab_bipush (v := 6) X d_MO_satisfied_231 (by decide) ?_
      refine ab_icmp_ne X 253 d_MO_satisfied_233 rfl (fun hb => absurd ((by decide)) hb) (fun _ => ?_)
      refine ab_aload_n X 3 d_MO_satisfied_236 rfl rfl ?_
      refine ab_iload X 1 d_MO_satisfied_237 rfl ?_
      refine ab_callS (as := [ab_I (nI x)]) X (fun h => by cases h) (t_MO_b u43 x) ls_MO_204 d_MO_satisfied_239 rfl rfl ⟨by first | exact Nat.le_of_ble_eq_true rfl | (simp only [ab_rm]; omega), by first | exact Nat.le_of_ble_eq_true rfl | (simp only [ab_rm]; omega)⟩ ⟨by first | exact Nat.le_of_ble_eq_true rfl | (simp only [ab_rm]; omega), by first | exact Nat.le_of_ble_eq_true rfl | (simp only [ab_rm]; omega)⟩ (Nat.le_of_ble_eq_true rfl) (fun u239 r239 h239 => ?_)
      obtain ⟨e239, rfl⟩ := h239
      subst u239
      refine ab_iload X 0 d_MO_satisfied_242 rfl ?_
      refine ab_callS (as := [ab_I (nI y)]) X (fun h => by cases h) (t_MO_d u43 y) ls_MO_195 d_MO_satisfied_244 rfl rfl ⟨by first | exact Nat.le_of_ble_eq_true rfl | (simp only [ab_rm]; omega), by first | exact Nat.le_of_ble_eq_true rfl | (simp only [ab_rm]; omega)⟩ ⟨by first | exact Nat.le_of_ble_eq_true rfl | (simp only [ab_rm]; omega), by first | exact Nat.le_of_ble_eq_true rfl | (simp only [ab_rm]; omega)⟩ (Nat.le_of_ble_eq_true rfl) (fun u244 r244 h244 => ?_)
      obtain ⟨e244, rfl⟩ := h244
      subst u244
      refine ab_callV (as := [ab_I (nI (3 * x)), ab_I (nI (3 * y + 1))]) X (fun h => by cases h) (x_MO_offerChoice u43 (3 * x) (3 * y + 1) (4 * lf x - 2) (4 * lf y - 2) (S x 0) (S y 1) none b0 oB.none P43.1 (by omega) (by omega) ((xA.2 0 (by decide)).fo P43) ((yA.2 1 (by decide)).fo P43) (xB 0 (by decide)) (yB 1 (by decide)) (by omega) (by omega)) lk_MO_285 d_MO_satisfied_247 rfl rfl (by first | assumption | decide | (show _ < 124; omega) | (show _ < 61; omega) | (show _ < 20; omega)) ⟨by first | exact Nat.le_of_ble_eq_true rfl | (simp only [ab_rm]; omega), by first | exact Nat.le_of_ble_eq_true rfl | (simp only [ab_rm]; omega)⟩ ⟨by first | exact Nat.le_of_ble_eq_true rfl | (simp only [ab_rm]; omega), by first | exact Nat.le_of_ble_eq_true rfl | (simp only [ab_rm]; omega)⟩ (Nat.le_of_ble_eq_true rfl) (fun u247 r247 h247 => ?_)
      obtain ⟨⟨q247, r247⟩, rfl⟩ := h247
      have P247 := P43.trans q247 (by decide)
      refine ab_goto X 306 d_MO_satisfied_250 rfl ?_
      refine ab_lv (List.forall_mem_cons.mpr ⟨List.mem_of_getElem? (i := 3) rfl, List.forall_mem_cons.mpr ⟨List.mem_of_getElem? (i := 4) rfl, List.forall_mem_cons.mpr ⟨List.mem_of_getElem? (i := 5) rfl, fun _ h => absurd h List.not_mem_nil⟩⟩⟩) ?_
      exact fin _ P247 (by rw [sv6, ← cx, ← cy]; rw [bet_none] at r247; exact r247)
    ·
      refine ab_aload_n X 0 d_MO_satisfied_0 rfl rfl ?_
      refine ab_iconst (v := (-1)) X d_MO_satisfied_1 (by decide) ?_
      refine ab_putI X fp_MO_99 d_MO_satisfied_2 (by first | assumption | decide | (show _ < 124; omega) | (show _ < 61; omega) | (show _ < 20; omega)) rfl rfl ?_
      refine ab_gen (fun u2 e2 => ?_)
      have P2 : gP [26, 27, 29, 30, 115, 116] u u2 := by rw [e2]; exact R0.ui rfl (by decide)
      refine ab_aload_n X 0 d_MO_satisfied_5 rfl rfl ?_
      refine ab_ldcw X (v := 100000) (ab_in 1248 (by decide +kernel) (by decide +kernel)) d_MO_satisfied_6 ?_
      refine ab_putI X fp_MO_102 d_MO_satisfied_9 (by first | assumption | decide | (show _ < 124; omega) | (show _ < 61; omega) | (show _ < 20; omega)) rfl rfl ?_
      refine ab_gen (fun u9 e9 => ?_)
      have P9 : gP [26, 27, 29, 30, 115, 116] u u9 := by rw [e9]; exact P2.ui rfl (by decide)
      refine ab_aload_n X 0 d_MO_satisfied_12 rfl rfl ?_
      refine ab_gR X fl_MO_45 d_MO_satisfied_13 (by first | assumption | decide | (show _ < 124; omega) | (show _ < 61; omega) | (show _ < 20; omega)) (P9.1.mo11) ?_
      refine ab_iload_n X 2 d_MO_satisfied_16 rfl rfl ?_
      refine ab_iald X (3 * p1 + j) ⟨rfl, rfl⟩ d_MO_satisfied_17 (by first | assumption | decide | (show _ < 124; omega) | (show _ < 61; omega) | (show _ < 20; omega)) (rfl) (show 3 * p1 + j < 72 by omega) (ab_ln_lt _ _) ?_
      refine ab_top (P9.ai (by decide) ew) ?_
      refine ab_istore4 X 0 1 2 3 d_MO_satisfied_18 (by decide) rfl rfl rfl rfl rfl rfl rfl rfl ?_
      refine ab_aload_n X 1 d_MO_satisfied_20 rfl rfl ?_
      refine ab_gR X fl_MO_42 d_MO_satisfied_21 (by first | assumption | decide | (show _ < 124; omega) | (show _ < 61; omega) | (show _ < 20; omega)) (P9.1.mo10) ?_
      refine ab_iconst (v := 4) X d_MO_satisfied_24 (by decide) ?_
      refine ab_iload_n X 2 d_MO_satisfied_25 rfl rfl ?_
      refine ab_imul X d_MO_satisfied_26 ?_
      refine ab_iald X (4 * p1) ⟨rfl, rfl⟩ d_MO_satisfied_27 (by first | assumption | decide | (show _ < 124; omega) | (show _ < 61; omega) | (show _ < 20; omega)) (nI_4m p1) (show 4 * p1 < 160 by omega) (ab_ln_lt _ _) ?_
      refine ab_top (P9.ai (by decide) ex) ?_
      refine ab_istore5 X 0 1 2 3 4 d_MO_satisfied_28 (by decide) rfl rfl rfl rfl rfl rfl rfl rfl rfl rfl ?_
      refine ab_aload_n X 2 d_MO_satisfied_30 rfl rfl ?_
      refine ab_gR X fl_MO_42 d_MO_satisfied_31 (by first | assumption | decide | (show _ < 124; omega) | (show _ < 61; omega) | (show _ < 20; omega)) (P9.1.mo10) ?_
      refine ab_iconst (v := 4) X d_MO_satisfied_34 (by decide) ?_
      refine ab_iload_n X 3 d_MO_satisfied_35 rfl rfl ?_
      refine ab_imul X d_MO_satisfied_36 ?_
      refine ab_iconst (v := 1) X d_MO_satisfied_37 (by decide) ?_
      refine ab_iadd X d_MO_satisfied_38 ?_
      refine ab_iald X (4 * p1 + 1) ⟨rfl, rfl⟩ d_MO_satisfied_39 (by first | assumption | decide | (show _ < 124; omega) | (show _ < 61; omega) | (show _ < 20; omega)) (nI_4b p1) (show 4 * p1 + 1 < 160 by omega) (ab_ln_lt _ _) ?_
      refine ab_top (P9.ai (by decide) ey) ?_
      refine ab_istore6 X 0 1 2 3 4 5 d_MO_satisfied_40 (by decide) rfl rfl rfl rfl rfl rfl rfl rfl rfl rfl rfl rfl ?_
      refine ab_aload_n X 3 d_MO_satisfied_42 rfl rfl ?_
      refine ab_callV (as := []) X (fun h => by cases h) (x_MO_newRow u9 P9.1) lk_MO_267 d_MO_satisfied_43 rfl rfl (by first | assumption | decide | (show _ < 124; omega) | (show _ < 61; omega) | (show _ < 20; omega)) ⟨by first | exact Nat.le_of_ble_eq_true rfl | (simp only [ab_rm]; omega), by first | exact Nat.le_of_ble_eq_true rfl | (simp only [ab_rm]; omega)⟩ ⟨by first | exact Nat.le_of_ble_eq_true rfl | (simp only [ab_rm]; omega), by first | exact Nat.le_of_ble_eq_true rfl | (simp only [ab_rm]; omega)⟩ (Nat.le_of_ble_eq_true rfl) (fun u43 r43 h43 => ?_)
      obtain ⟨⟨q43, r43⟩, rfl⟩ := h43
      have P43 := P9.trans q43 (by decide)
      have b0 : mBs u43 none := mBs.fr3 (o := none) ⟨by rw [e9, e2]; exact (ui_n _ (by omega)).trans (ui_s _), by rw [e9]; exact ui_s _⟩ q43
      refine ab_iload X 2 d_MO_satisfied_46 rfl ?_
      refine ab_iconst (v := 1) X d_MO_satisfied_48 (by decide) ?_
      refine ab_icmp_eq X 66 d_MO_satisfied_49 rfl (fun hb => absurd hb ((by decide))) (fun _ => ?_)
      refine ab_iload X 2 d_MO_satisfied_52 rfl ?_
      refine ab_bipush (v := 11) X d_MO_satisfied_54 (by decide) ?_
      refine ab_icmp_eq X 66 d_MO_satisfied_56 rfl (fun hb => absurd hb ((by decide))) (fun _ => ?_)
      refine ab_iload X 2 d_MO_satisfied_59 rfl ?_
      refine ab_bipush (v := 12) X d_MO_satisfied_61 (by decide) ?_
      refine ab_icmp_ne X 107 d_MO_satisfied_63 rfl (fun _ => ?_) (fun hb => absurd hb ((by decide)))
      refine ab_iload X 2 d_MO_satisfied_107 rfl ?_
      refine ab_iconst (v := 2) X d_MO_satisfied_109 (by decide) ?_
      refine ab_icmp_ne X 130 d_MO_satisfied_110 rfl (fun _ => ?_) (fun hb => absurd hb ((by decide)))
      refine ab_iload X 2 d_MO_satisfied_130 rfl ?_
      refine ab_iconst (v := 3) X d_MO_satisfied_132 (by decide) ?_
      refine ab_icmp_ne X 181 d_MO_satisfied_133 rfl (fun _ => ?_) (fun hb => absurd hb ((by decide)))
      refine ab_iload X 2 d_MO_satisfied_181 rfl ?_
      refine ab_iconst (v := 4) X d_MO_satisfied_183 (by decide) ?_
      refine ab_icmp_ne X 206 d_MO_satisfied_184 rfl (fun _ => ?_) (fun hb => absurd hb ((by decide)))
      refine ab_iload X 2 d_MO_satisfied_206 rfl ?_
      refine ab_iconst (v := 5) X d_MO_satisfied_208 (by decide) ?_
      refine ab_icmp_ne X 229 d_MO_satisfied_209 rfl (fun _ => ?_) (fun hb => absurd hb ((by decide)))
      refine ab_iload X 2 d_MO_satisfied_229 rfl ?_
      refine ab_bipush (v := 6) X d_MO_satisfied_231 (by decide) ?_
      refine ab_icmp_ne X 253 d_MO_satisfied_233 rfl (fun _ => ?_) (fun hb => absurd hb ((by decide)))
      refine ab_iload X 2 d_MO_satisfied_253 rfl ?_
      refine ab_bipush (v := 7) X d_MO_satisfied_255 (by decide) ?_
      refine ab_icmp_ne X 268 d_MO_satisfied_257 rfl (fun _ => ?_) (fun hb => absurd hb ((by decide)))
      refine ab_iload X 2 d_MO_satisfied_268 rfl ?_
      refine ab_bipush (v := 8) X d_MO_satisfied_270 (by decide) ?_
      refine ab_icmp_ne X 295 d_MO_satisfied_272 rfl (fun _ => ?_) (fun hb => absurd hb ((by decide)))
      refine ab_aload_n X 3 d_MO_satisfied_295 rfl rfl ?_
      refine ab_iload_n X 4 d_MO_satisfied_296 rfl rfl ?_
      refine ab_iload X 2 d_MO_satisfied_297 rfl ?_
      refine ab_iload X 1 d_MO_satisfied_299 rfl ?_
      refine ab_iload X 0 d_MO_satisfied_301 rfl ?_
      refine ab_callV (as := [ab_I (nI p1), ab_I (nI 13), ab_I (nI x), ab_I (nI y)]) X (fun h => by cases h) (x_MO_satisfiedMore13 u43 P kd ar cn lf ch W (T.fr P43 (by decide) (by decide) (by decide) (by decide) (by decide)) p1 hp R (slf kd ar a1 a2 a3 a4) S (A.fo P43) bS bR x y cx.symm cy.symm x1 x2 y1 y2 l0 l1 l2 b0 P43.1) lk_MO_291 d_MO_satisfied_303 rfl rfl (by first | assumption | decide | (show _ < 124; omega) | (show _ < 61; omega) | (show _ < 20; omega)) ⟨by first | exact Nat.le_of_ble_eq_true rfl | (simp only [ab_rm]; omega), by first | exact Nat.le_of_ble_eq_true rfl | (simp only [ab_rm]; omega)⟩ ⟨by first | exact Nat.le_of_ble_eq_true rfl | (simp only [ab_rm]; omega), by first | exact Nat.le_of_ble_eq_true rfl | (simp only [ab_rm]; omega)⟩ (Nat.le_of_ble_eq_true rfl) (fun u303 r303 h303 => ?_)
      obtain ⟨⟨q303, r303⟩, rfl⟩ := h303
      have P303 := P43.trans q303 (by decide)
      refine ab_lv (List.forall_mem_cons.mpr ⟨List.mem_of_getElem? (i := 3) rfl, List.forall_mem_cons.mpr ⟨List.mem_of_getElem? (i := 4) rfl, List.forall_mem_cons.mpr ⟨List.mem_of_getElem? (i := 5) rfl, fun _ h => absurd h List.not_mem_nil⟩⟩⟩) ?_
      exact fin _ P303 r303
    ·
      refine ab_aload_n X 0 d_MO_satisfied_0 rfl rfl ?_
      refine ab_iconst (v := (-1)) X d_MO_satisfied_1 (by decide) ?_
      refine ab_putI X fp_MO_99 d_MO_satisfied_2 (by first | assumption | decide | (show _ < 124; omega) | (show _ < 61; omega) | (show _ < 20; omega)) rfl rfl ?_
      refine ab_gen (fun u2 e2 => ?_)
      have P2 : gP [26, 27, 29, 30, 115, 116] u u2 := by rw [e2]; exact R0.ui rfl (by decide)
      refine ab_aload_n X 0 d_MO_satisfied_5 rfl rfl ?_
      refine ab_ldcw X (v := 100000) (ab_in 1248 (by decide +kernel) (by decide +kernel)) d_MO_satisfied_6 ?_
      refine ab_putI X fp_MO_102 d_MO_satisfied_9 (by first | assumption | decide | (show _ < 124; omega) | (show _ < 61; omega) | (show _ < 20; omega)) rfl rfl ?_
      refine ab_gen (fun u9 e9 => ?_)
      have P9 : gP [26, 27, 29, 30, 115, 116] u u9 := by rw [e9]; exact P2.ui rfl (by decide)
      refine ab_aload_n X 0 d_MO_satisfied_12 rfl rfl ?_
      refine ab_gR X fl_MO_45 d_MO_satisfied_13 (by first | assumption | decide | (show _ < 124; omega) | (show _ < 61; omega) | (show _ < 20; omega)) (P9.1.mo11) ?_
      refine ab_iload_n X 2 d_MO_satisfied_16 rfl rfl ?_
      refine ab_iald X (3 * p1 + j) ⟨rfl, rfl⟩ d_MO_satisfied_17 (by first | assumption | decide | (show _ < 124; omega) | (show _ < 61; omega) | (show _ < 20; omega)) (rfl) (show 3 * p1 + j < 72 by omega) (ab_ln_lt _ _) ?_
      refine ab_top (P9.ai (by decide) ew) ?_
      refine ab_istore4 X 0 1 2 3 d_MO_satisfied_18 (by decide) rfl rfl rfl rfl rfl rfl rfl rfl ?_
      refine ab_aload_n X 1 d_MO_satisfied_20 rfl rfl ?_
      refine ab_gR X fl_MO_42 d_MO_satisfied_21 (by first | assumption | decide | (show _ < 124; omega) | (show _ < 61; omega) | (show _ < 20; omega)) (P9.1.mo10) ?_
      refine ab_iconst (v := 4) X d_MO_satisfied_24 (by decide) ?_
      refine ab_iload_n X 2 d_MO_satisfied_25 rfl rfl ?_
      refine ab_imul X d_MO_satisfied_26 ?_
      refine ab_iald X (4 * p1) ⟨rfl, rfl⟩ d_MO_satisfied_27 (by first | assumption | decide | (show _ < 124; omega) | (show _ < 61; omega) | (show _ < 20; omega)) (nI_4m p1) (show 4 * p1 < 160 by omega) (ab_ln_lt _ _) ?_
      refine ab_top (P9.ai (by decide) ex) ?_
      refine ab_istore5 X 0 1 2 3 4 d_MO_satisfied_28 (by decide) rfl rfl rfl rfl rfl rfl rfl rfl rfl rfl ?_
      refine ab_aload_n X 2 d_MO_satisfied_30 rfl rfl ?_
      refine ab_gR X fl_MO_42 d_MO_satisfied_31 (by first | assumption | decide | (show _ < 124; omega) | (show _ < 61; omega) | (show _ < 20; omega)) (P9.1.mo10) ?_
      refine ab_iconst (v := 4) X d_MO_satisfied_34 (by decide) ?_
      refine ab_iload_n X 3 d_MO_satisfied_35 rfl rfl ?_
      refine ab_imul X d_MO_satisfied_36 ?_
      refine ab_iconst (v := 1) X d_MO_satisfied_37 (by decide) ?_
      refine ab_iadd X d_MO_satisfied_38 ?_
      refine ab_iald X (4 * p1 + 1) ⟨rfl, rfl⟩ d_MO_satisfied_39 (by first | assumption | decide | (show _ < 124; omega) | (show _ < 61; omega) | (show _ < 20; omega)) (nI_4b p1) (show 4 * p1 + 1 < 160 by omega) (ab_ln_lt _ _) ?_
      refine ab_top (P9.ai (by decide) ey) ?_
      refine ab_istore6 X 0 1 2 3 4 5 d_MO_satisfied_40 (by decide) rfl rfl rfl rfl rfl rfl rfl rfl rfl rfl rfl rfl ?_
      refine ab_aload_n X 3 d_MO_satisfied_42 rfl rfl ?_
      refine ab_callV (as := []) X (fun h => by cases h) (x_MO_newRow u9 P9.1) lk_MO_267 d_MO_satisfied_43 rfl rfl (by first | assumption | decide | (show _ < 124; omega) | (show _ < 61; omega) | (show _ < 20; omega)) ⟨by first | exact Nat.le_of_ble_eq_true rfl | (simp only [ab_rm]; omega), by first | exact Nat.le_of_ble_eq_true rfl | (simp only [ab_rm]; omega)⟩ ⟨by first | exact Nat.le_of_ble_eq_true rfl | (simp only [ab_rm]; omega), by first | exact Nat.le_of_ble_eq_true rfl | (simp only [ab_rm]; omega)⟩ (Nat.le_of_ble_eq_true rfl) (fun u43 r43 h43 => ?_)
      obtain ⟨⟨q43, r43⟩, rfl⟩ := h43
      have P43 := P9.trans q43 (by decide)
      have b0 : mBs u43 none := mBs.fr3 (o := none) ⟨by rw [e9, e2]; exact (ui_n _ (by omega)).trans (ui_s _), by rw [e9]; exact ui_s _⟩ q43
      refine ab_iload X 2 d_MO_satisfied_46 rfl ?_
      refine ab_iconst (v := 1) X d_MO_satisfied_48 (by decide) ?_
      refine ab_icmp_eq X 66 d_MO_satisfied_49 rfl (fun hb => absurd hb ((by decide))) (fun _ => ?_)
      refine ab_iload X 2 d_MO_satisfied_52 rfl ?_
      refine ab_bipush (v := 11) X d_MO_satisfied_54 (by decide) ?_
      refine ab_icmp_eq X 66 d_MO_satisfied_56 rfl (fun hb => absurd hb ((by decide))) (fun _ => ?_)
      refine ab_iload X 2 d_MO_satisfied_59 rfl ?_
      refine ab_bipush (v := 12) X d_MO_satisfied_61 (by decide) ?_
      refine ab_icmp_ne X 107 d_MO_satisfied_63 rfl (fun _ => ?_) (fun hb => absurd hb ((by decide)))
      refine ab_iload X 2 d_MO_satisfied_107 rfl ?_
      refine ab_iconst (v := 2) X d_MO_satisfied_109 (by decide) ?_
      refine ab_icmp_ne X 130 d_MO_satisfied_110 rfl (fun _ => ?_) (fun hb => absurd hb ((by decide)))
      refine ab_iload X 2 d_MO_satisfied_130 rfl ?_
      refine ab_iconst (v := 3) X d_MO_satisfied_132 (by decide) ?_
      refine ab_icmp_ne X 181 d_MO_satisfied_133 rfl (fun _ => ?_) (fun hb => absurd hb ((by decide)))
      refine ab_iload X 2 d_MO_satisfied_181 rfl ?_
      refine ab_iconst (v := 4) X d_MO_satisfied_183 (by decide) ?_
      refine ab_icmp_ne X 206 d_MO_satisfied_184 rfl (fun _ => ?_) (fun hb => absurd hb ((by decide)))
      refine ab_iload X 2 d_MO_satisfied_206 rfl ?_
      refine ab_iconst (v := 5) X d_MO_satisfied_208 (by decide) ?_
      refine ab_icmp_ne X 229 d_MO_satisfied_209 rfl (fun _ => ?_) (fun hb => absurd hb ((by decide)))
      refine ab_iload X 2 d_MO_satisfied_229 rfl ?_
      refine ab_bipush (v := 6) X d_MO_satisfied_231 (by decide) ?_
      refine ab_icmp_ne X 253 d_MO_satisfied_233 rfl (fun _ => ?_) (fun hb => absurd hb ((by decide)))
      refine ab_iload X 2 d_MO_satisfied_253 rfl ?_
      refine ab_bipush (v := 7) X d_MO_satisfied_255 (by decide) ?_
      refine ab_icmp_ne X 268 d_MO_satisfied_257 rfl (fun _ => ?_) (fun hb => absurd hb ((by decide)))
      refine ab_iload X 2 d_MO_satisfied_268 rfl ?_
      refine ab_bipush (v := 8) X d_MO_satisfied_270 (by decide) ?_
      refine ab_icmp_ne X 295 d_MO_satisfied_272 rfl (fun _ => ?_) (fun hb => absurd hb ((by decide)))
      refine ab_aload_n X 3 d_MO_satisfied_295 rfl rfl ?_
      refine ab_iload_n X 4 d_MO_satisfied_296 rfl rfl ?_
      refine ab_iload X 2 d_MO_satisfied_297 rfl ?_
      refine ab_iload X 1 d_MO_satisfied_299 rfl ?_
      refine ab_iload X 0 d_MO_satisfied_301 rfl ?_
      refine ab_callV (as := [ab_I (nI p1), ab_I (nI 14), ab_I (nI x), ab_I (nI y)]) X (fun h => by cases h) (x_MO_satisfiedMore14 u43 P kd ar cn lf ch W (T.fr P43 (by decide) (by decide) (by decide) (by decide) (by decide)) p1 hp R (slf kd ar a1 a2 a3 a4) S (A.fo P43) bS bR x y cx.symm cy.symm x1 x2 y1 y2 l0 l1 l2 b0 P43.1) lk_MO_291 d_MO_satisfied_303 rfl rfl (by first | assumption | decide | (show _ < 124; omega) | (show _ < 61; omega) | (show _ < 20; omega)) ⟨by first | exact Nat.le_of_ble_eq_true rfl | (simp only [ab_rm]; omega), by first | exact Nat.le_of_ble_eq_true rfl | (simp only [ab_rm]; omega)⟩ ⟨by first | exact Nat.le_of_ble_eq_true rfl | (simp only [ab_rm]; omega), by first | exact Nat.le_of_ble_eq_true rfl | (simp only [ab_rm]; omega)⟩ (Nat.le_of_ble_eq_true rfl) (fun u303 r303 h303 => ?_)
      obtain ⟨⟨q303, r303⟩, rfl⟩ := h303
      have P303 := P43.trans q303 (by decide)
      refine ab_lv (List.forall_mem_cons.mpr ⟨List.mem_of_getElem? (i := 3) rfl, List.forall_mem_cons.mpr ⟨List.mem_of_getElem? (i := 4) rfl, List.forall_mem_cons.mpr ⟨List.mem_of_getElem? (i := 5) rfl, fun _ h => absurd h List.not_mem_nil⟩⟩⟩) ?_
      exact fin _ P303 r303
    ·
      refine ab_aload_n X 0 d_MO_satisfied_0 rfl rfl ?_
      refine ab_iconst (v := (-1)) X d_MO_satisfied_1 (by decide) ?_
      refine ab_putI X fp_MO_99 d_MO_satisfied_2 (by first | assumption | decide | (show _ < 124; omega) | (show _ < 61; omega) | (show _ < 20; omega)) rfl rfl ?_
      refine ab_gen (fun u2 e2 => ?_)
      have P2 : gP [26, 27, 29, 30, 115, 116] u u2 := by rw [e2]; exact R0.ui rfl (by decide)
      refine ab_aload_n X 0 d_MO_satisfied_5 rfl rfl ?_
      refine ab_ldcw X (v := 100000) (ab_in 1248 (by decide +kernel) (by decide +kernel)) d_MO_satisfied_6 ?_
      refine ab_putI X fp_MO_102 d_MO_satisfied_9 (by first | assumption | decide | (show _ < 124; omega) | (show _ < 61; omega) | (show _ < 20; omega)) rfl rfl ?_
      refine ab_gen (fun u9 e9 => ?_)
      have P9 : gP [26, 27, 29, 30, 115, 116] u u9 := by rw [e9]; exact P2.ui rfl (by decide)
      refine ab_aload_n X 0 d_MO_satisfied_12 rfl rfl ?_
      refine ab_gR X fl_MO_45 d_MO_satisfied_13 (by first | assumption | decide | (show _ < 124; omega) | (show _ < 61; omega) | (show _ < 20; omega)) (P9.1.mo11) ?_
      refine ab_iload_n X 2 d_MO_satisfied_16 rfl rfl ?_
      refine ab_iald X (3 * p1 + j) ⟨rfl, rfl⟩ d_MO_satisfied_17 (by first | assumption | decide | (show _ < 124; omega) | (show _ < 61; omega) | (show _ < 20; omega)) (rfl) (show 3 * p1 + j < 72 by omega) (ab_ln_lt _ _) ?_
      refine ab_top (P9.ai (by decide) ew) ?_
      refine ab_istore4 X 0 1 2 3 d_MO_satisfied_18 (by decide) rfl rfl rfl rfl rfl rfl rfl rfl ?_
      refine ab_aload_n X 1 d_MO_satisfied_20 rfl rfl ?_
      refine ab_gR X fl_MO_42 d_MO_satisfied_21 (by first | assumption | decide | (show _ < 124; omega) | (show _ < 61; omega) | (show _ < 20; omega)) (P9.1.mo10) ?_
      refine ab_iconst (v := 4) X d_MO_satisfied_24 (by decide) ?_
      refine ab_iload_n X 2 d_MO_satisfied_25 rfl rfl ?_
      refine ab_imul X d_MO_satisfied_26 ?_
      refine ab_iald X (4 * p1) ⟨rfl, rfl⟩ d_MO_satisfied_27 (by first | assumption | decide | (show _ < 124; omega) | (show _ < 61; omega) | (show _ < 20; omega)) (nI_4m p1) (show 4 * p1 < 160 by omega) (ab_ln_lt _ _) ?_
      refine ab_top (P9.ai (by decide) ex) ?_
      refine ab_istore5 X 0 1 2 3 4 d_MO_satisfied_28 (by decide) rfl rfl rfl rfl rfl rfl rfl rfl rfl rfl ?_
      refine ab_aload_n X 2 d_MO_satisfied_30 rfl rfl ?_
      refine ab_gR X fl_MO_42 d_MO_satisfied_31 (by first | assumption | decide | (show _ < 124; omega) | (show _ < 61; omega) | (show _ < 20; omega)) (P9.1.mo10) ?_
      refine ab_iconst (v := 4) X d_MO_satisfied_34 (by decide) ?_
      refine ab_iload_n X 3 d_MO_satisfied_35 rfl rfl ?_
      refine ab_imul X d_MO_satisfied_36 ?_
      refine ab_iconst (v := 1) X d_MO_satisfied_37 (by decide) ?_
      refine ab_iadd X d_MO_satisfied_38 ?_
      refine ab_iald X (4 * p1 + 1) ⟨rfl, rfl⟩ d_MO_satisfied_39 (by first | assumption | decide | (show _ < 124; omega) | (show _ < 61; omega) | (show _ < 20; omega)) (nI_4b p1) (show 4 * p1 + 1 < 160 by omega) (ab_ln_lt _ _) ?_
      refine ab_top (P9.ai (by decide) ey) ?_
      refine ab_istore6 X 0 1 2 3 4 5 d_MO_satisfied_40 (by decide) rfl rfl rfl rfl rfl rfl rfl rfl rfl rfl rfl rfl ?_
      refine ab_aload_n X 3 d_MO_satisfied_42 rfl rfl ?_
      refine ab_callV (as := []) X (fun h => by cases h) (x_MO_newRow u9 P9.1) lk_MO_267 d_MO_satisfied_43 rfl rfl (by first | assumption | decide | (show _ < 124; omega) | (show _ < 61; omega) | (show _ < 20; omega)) ⟨by first | exact Nat.le_of_ble_eq_true rfl | (simp only [ab_rm]; omega), by first | exact Nat.le_of_ble_eq_true rfl | (simp only [ab_rm]; omega)⟩ ⟨by first | exact Nat.le_of_ble_eq_true rfl | (simp only [ab_rm]; omega), by first | exact Nat.le_of_ble_eq_true rfl | (simp only [ab_rm]; omega)⟩ (Nat.le_of_ble_eq_true rfl) (fun u43 r43 h43 => ?_)
      obtain ⟨⟨q43, r43⟩, rfl⟩ := h43
      have P43 := P9.trans q43 (by decide)
      have b0 : mBs u43 none := mBs.fr3 (o := none) ⟨by rw [e9, e2]; exact (ui_n _ (by omega)).trans (ui_s _), by rw [e9]; exact ui_s _⟩ q43
      refine ab_iload X 2 d_MO_satisfied_46 rfl ?_
      refine ab_iconst (v := 1) X d_MO_satisfied_48 (by decide) ?_
      refine ab_icmp_eq X 66 d_MO_satisfied_49 rfl (fun hb => absurd hb ((by decide))) (fun _ => ?_)
      refine ab_iload X 2 d_MO_satisfied_52 rfl ?_
      refine ab_bipush (v := 11) X d_MO_satisfied_54 (by decide) ?_
      refine ab_icmp_eq X 66 d_MO_satisfied_56 rfl (fun hb => absurd hb ((by decide))) (fun _ => ?_)
      refine ab_iload X 2 d_MO_satisfied_59 rfl ?_
      refine ab_bipush (v := 12) X d_MO_satisfied_61 (by decide) ?_
      refine ab_icmp_ne X 107 d_MO_satisfied_63 rfl (fun _ => ?_) (fun hb => absurd hb ((by decide)))
      refine ab_iload X 2 d_MO_satisfied_107 rfl ?_
      refine ab_iconst (v := 2) X d_MO_satisfied_109 (by decide) ?_
      refine ab_icmp_ne X 130 d_MO_satisfied_110 rfl (fun _ => ?_) (fun hb => absurd hb ((by decide)))
      refine ab_iload X 2 d_MO_satisfied_130 rfl ?_
      refine ab_iconst (v := 3) X d_MO_satisfied_132 (by decide) ?_
      refine ab_icmp_ne X 181 d_MO_satisfied_133 rfl (fun _ => ?_) (fun hb => absurd hb ((by decide)))
      refine ab_iload X 2 d_MO_satisfied_181 rfl ?_
      refine ab_iconst (v := 4) X d_MO_satisfied_183 (by decide) ?_
      refine ab_icmp_ne X 206 d_MO_satisfied_184 rfl (fun _ => ?_) (fun hb => absurd hb ((by decide)))
      refine ab_iload X 2 d_MO_satisfied_206 rfl ?_
      refine ab_iconst (v := 5) X d_MO_satisfied_208 (by decide) ?_
      refine ab_icmp_ne X 229 d_MO_satisfied_209 rfl (fun _ => ?_) (fun hb => absurd hb ((by decide)))
      refine ab_iload X 2 d_MO_satisfied_229 rfl ?_
      refine ab_bipush (v := 6) X d_MO_satisfied_231 (by decide) ?_
      refine ab_icmp_ne X 253 d_MO_satisfied_233 rfl (fun _ => ?_) (fun hb => absurd hb ((by decide)))
      refine ab_iload X 2 d_MO_satisfied_253 rfl ?_
      refine ab_bipush (v := 7) X d_MO_satisfied_255 (by decide) ?_
      refine ab_icmp_ne X 268 d_MO_satisfied_257 rfl (fun _ => ?_) (fun hb => absurd hb ((by decide)))
      refine ab_iload X 2 d_MO_satisfied_268 rfl ?_
      refine ab_bipush (v := 8) X d_MO_satisfied_270 (by decide) ?_
      refine ab_icmp_ne X 295 d_MO_satisfied_272 rfl (fun _ => ?_) (fun hb => absurd hb ((by decide)))
      refine ab_aload_n X 3 d_MO_satisfied_295 rfl rfl ?_
      refine ab_iload_n X 4 d_MO_satisfied_296 rfl rfl ?_
      refine ab_iload X 2 d_MO_satisfied_297 rfl ?_
      refine ab_iload X 1 d_MO_satisfied_299 rfl ?_
      refine ab_iload X 0 d_MO_satisfied_301 rfl ?_
      refine ab_callV (as := [ab_I (nI p1), ab_I (nI 15), ab_I (nI x), ab_I (nI y)]) X (fun h => by cases h) (x_MO_satisfiedMore15 u43 P kd ar cn lf ch W (T.fr P43 (by decide) (by decide) (by decide) (by decide) (by decide)) p1 hp R (slf kd ar a1 a2 a3 a4) S (A.fo P43) bS bR x y cx.symm cy.symm x1 x2 y1 y2 l0 l1 l2 b0 P43.1) lk_MO_291 d_MO_satisfied_303 rfl rfl (by first | assumption | decide | (show _ < 124; omega) | (show _ < 61; omega) | (show _ < 20; omega)) ⟨by first | exact Nat.le_of_ble_eq_true rfl | (simp only [ab_rm]; omega), by first | exact Nat.le_of_ble_eq_true rfl | (simp only [ab_rm]; omega)⟩ ⟨by first | exact Nat.le_of_ble_eq_true rfl | (simp only [ab_rm]; omega), by first | exact Nat.le_of_ble_eq_true rfl | (simp only [ab_rm]; omega)⟩ (Nat.le_of_ble_eq_true rfl) (fun u303 r303 h303 => ?_)
      obtain ⟨⟨q303, r303⟩, rfl⟩ := h303
      have P303 := P43.trans q303 (by decide)
      refine ab_lv (List.forall_mem_cons.mpr ⟨List.mem_of_getElem? (i := 3) rfl, List.forall_mem_cons.mpr ⟨List.mem_of_getElem? (i := 4) rfl, List.forall_mem_cons.mpr ⟨List.mem_of_getElem? (i := 5) rfl, fun _ h => absurd h List.not_mem_nil⟩⟩⟩) ?_
      exact fin _ P303 r303
    ·
      refine ab_aload_n X 0 d_MO_satisfied_0 rfl rfl ?_
      refine ab_iconst (v := (-1)) X d_MO_satisfied_1 (by decide) ?_
      refine ab_putI X fp_MO_99 d_MO_satisfied_2 (by first | assumption | decide | (show _ < 124; omega) | (show _ < 61; omega) | (show _ < 20; omega)) rfl rfl ?_
      refine ab_gen (fun u2 e2 => ?_)
      have P2 : gP [26, 27, 29, 30, 115, 116] u u2 := by rw [e2]; exact R0.ui rfl (by decide)
      refine ab_aload_n X 0 d_MO_satisfied_5 rfl rfl ?_
      refine ab_ldcw X (v := 100000) (ab_in 1248 (by decide +kernel) (by decide +kernel)) d_MO_satisfied_6 ?_
      refine ab_putI X fp_MO_102 d_MO_satisfied_9 (by first | assumption | decide | (show _ < 124; omega) | (show _ < 61; omega) | (show _ < 20; omega)) rfl rfl ?_
      refine ab_gen (fun u9 e9 => ?_)
      have P9 : gP [26, 27, 29, 30, 115, 116] u u9 := by rw [e9]; exact P2.ui rfl (by decide)
      refine ab_aload_n X 0 d_MO_satisfied_12 rfl rfl ?_
      refine ab_gR X fl_MO_45 d_MO_satisfied_13 (by first | assumption | decide | (show _ < 124; omega) | (show _ < 61; omega) | (show _ < 20; omega)) (P9.1.mo11) ?_
      refine ab_iload_n X 2 d_MO_satisfied_16 rfl rfl ?_
      refine ab_iald X (3 * p1 + j) ⟨rfl, rfl⟩ d_MO_satisfied_17 (by first | assumption | decide | (show _ < 124; omega) | (show _ < 61; omega) | (show _ < 20; omega)) (rfl) (show 3 * p1 + j < 72 by omega) (ab_ln_lt _ _) ?_
      refine ab_top (P9.ai (by decide) ew) ?_
      refine ab_istore4 X 0 1 2 3 d_MO_satisfied_18 (by decide) rfl rfl rfl rfl rfl rfl rfl rfl ?_
      refine ab_aload_n X 1 d_MO_satisfied_20 rfl rfl ?_
      refine ab_gR X fl_MO_42 d_MO_satisfied_21 (by first | assumption | decide | (show _ < 124; omega) | (show _ < 61; omega) | (show _ < 20; omega)) (P9.1.mo10) ?_
      refine ab_iconst (v := 4) X d_MO_satisfied_24 (by decide) ?_
      refine ab_iload_n X 2 d_MO_satisfied_25 rfl rfl ?_
      refine ab_imul X d_MO_satisfied_26 ?_
      refine ab_iald X (4 * p1) ⟨rfl, rfl⟩ d_MO_satisfied_27 (by first | assumption | decide | (show _ < 124; omega) | (show _ < 61; omega) | (show _ < 20; omega)) (nI_4m p1) (show 4 * p1 < 160 by omega) (ab_ln_lt _ _) ?_
      refine ab_top (P9.ai (by decide) ex) ?_
      refine ab_istore5 X 0 1 2 3 4 d_MO_satisfied_28 (by decide) rfl rfl rfl rfl rfl rfl rfl rfl rfl rfl ?_
      refine ab_aload_n X 2 d_MO_satisfied_30 rfl rfl ?_
      refine ab_gR X fl_MO_42 d_MO_satisfied_31 (by first | assumption | decide | (show _ < 124; omega) | (show _ < 61; omega) | (show _ < 20; omega)) (P9.1.mo10) ?_
      refine ab_iconst (v := 4) X d_MO_satisfied_34 (by decide) ?_
      refine ab_iload_n X 3 d_MO_satisfied_35 rfl rfl ?_
      refine ab_imul X d_MO_satisfied_36 ?_
      refine ab_iconst (v := 1) X d_MO_satisfied_37 (by decide) ?_
      refine ab_iadd X d_MO_satisfied_38 ?_
      refine ab_iald X (4 * p1 + 1) ⟨rfl, rfl⟩ d_MO_satisfied_39 (by first | assumption | decide | (show _ < 124; omega) | (show _ < 61; omega) | (show _ < 20; omega)) (nI_4b p1) (show 4 * p1 + 1 < 160 by omega) (ab_ln_lt _ _) ?_
      refine ab_top (P9.ai (by decide) ey) ?_
      refine ab_istore6 X 0 1 2 3 4 5 d_MO_satisfied_40 (by decide) rfl rfl rfl rfl rfl rfl rfl rfl rfl rfl rfl rfl ?_
      refine ab_aload_n X 3 d_MO_satisfied_42 rfl rfl ?_
      refine ab_callV (as := []) X (fun h => by cases h) (x_MO_newRow u9 P9.1) lk_MO_267 d_MO_satisfied_43 rfl rfl (by first | assumption | decide | (show _ < 124; omega) | (show _ < 61; omega) | (show _ < 20; omega)) ⟨by first | exact Nat.le_of_ble_eq_true rfl | (simp only [ab_rm]; omega), by first | exact Nat.le_of_ble_eq_true rfl | (simp only [ab_rm]; omega)⟩ ⟨by first | exact Nat.le_of_ble_eq_true rfl | (simp only [ab_rm]; omega), by first | exact Nat.le_of_ble_eq_true rfl | (simp only [ab_rm]; omega)⟩ (Nat.le_of_ble_eq_true rfl) (fun u43 r43 h43 => ?_)
      obtain ⟨⟨q43, r43⟩, rfl⟩ := h43
      have P43 := P9.trans q43 (by decide)
      have b0 : mBs u43 none := mBs.fr3 (o := none) ⟨by rw [e9, e2]; exact (ui_n _ (by omega)).trans (ui_s _), by rw [e9]; exact ui_s _⟩ q43
      refine ab_iload X 2 d_MO_satisfied_46 rfl ?_
      refine ab_iconst (v := 1) X d_MO_satisfied_48 (by decide) ?_
      refine ab_icmp_eq X 66 d_MO_satisfied_49 rfl (fun hb => absurd hb ((by decide))) (fun _ => ?_)
      refine ab_iload X 2 d_MO_satisfied_52 rfl ?_
      refine ab_bipush (v := 11) X d_MO_satisfied_54 (by decide) ?_
      refine ab_icmp_eq X 66 d_MO_satisfied_56 rfl (fun hb => absurd hb ((by decide))) (fun _ => ?_)
      refine ab_iload X 2 d_MO_satisfied_59 rfl ?_
      refine ab_bipush (v := 12) X d_MO_satisfied_61 (by decide) ?_
      refine ab_icmp_ne X 107 d_MO_satisfied_63 rfl (fun _ => ?_) (fun hb => absurd hb ((by decide)))
      refine ab_iload X 2 d_MO_satisfied_107 rfl ?_
      refine ab_iconst (v := 2) X d_MO_satisfied_109 (by decide) ?_
      refine ab_icmp_ne X 130 d_MO_satisfied_110 rfl (fun _ => ?_) (fun hb => absurd hb ((by decide)))
      refine ab_iload X 2 d_MO_satisfied_130 rfl ?_
      refine ab_iconst (v := 3) X d_MO_satisfied_132 (by decide) ?_
      refine ab_icmp_ne X 181 d_MO_satisfied_133 rfl (fun _ => ?_) (fun hb => absurd hb ((by decide)))
      refine ab_iload X 2 d_MO_satisfied_181 rfl ?_
      refine ab_iconst (v := 4) X d_MO_satisfied_183 (by decide) ?_
      refine ab_icmp_ne X 206 d_MO_satisfied_184 rfl (fun _ => ?_) (fun hb => absurd hb ((by decide)))
      refine ab_iload X 2 d_MO_satisfied_206 rfl ?_
      refine ab_iconst (v := 5) X d_MO_satisfied_208 (by decide) ?_
      refine ab_icmp_ne X 229 d_MO_satisfied_209 rfl (fun _ => ?_) (fun hb => absurd hb ((by decide)))
      refine ab_iload X 2 d_MO_satisfied_229 rfl ?_
      refine ab_bipush (v := 6) X d_MO_satisfied_231 (by decide) ?_
      refine ab_icmp_ne X 253 d_MO_satisfied_233 rfl (fun _ => ?_) (fun hb => absurd hb ((by decide)))
      refine ab_iload X 2 d_MO_satisfied_253 rfl ?_
      refine ab_bipush (v := 7) X d_MO_satisfied_255 (by decide) ?_
      refine ab_icmp_ne X 268 d_MO_satisfied_257 rfl (fun _ => ?_) (fun hb => absurd hb ((by decide)))
      refine ab_iload X 2 d_MO_satisfied_268 rfl ?_
      refine ab_bipush (v := 8) X d_MO_satisfied_270 (by decide) ?_
      refine ab_icmp_ne X 295 d_MO_satisfied_272 rfl (fun _ => ?_) (fun hb => absurd hb ((by decide)))
      refine ab_aload_n X 3 d_MO_satisfied_295 rfl rfl ?_
      refine ab_iload_n X 4 d_MO_satisfied_296 rfl rfl ?_
      refine ab_iload X 2 d_MO_satisfied_297 rfl ?_
      refine ab_iload X 1 d_MO_satisfied_299 rfl ?_
      refine ab_iload X 0 d_MO_satisfied_301 rfl ?_
      refine ab_callV (as := [ab_I (nI p1), ab_I (nI 16), ab_I (nI x), ab_I (nI y)]) X (fun h => by cases h) (x_MO_satisfiedMore16 u43 P kd ar cn lf ch W (T.fr P43 (by decide) (by decide) (by decide) (by decide) (by decide)) p1 hp R (slf kd ar a1 a2 a3 a4) S (A.fo P43) bS bR x y cx.symm cy.symm x1 x2 y1 y2 l0 l1 l2 b0 P43.1) lk_MO_291 d_MO_satisfied_303 rfl rfl (by first | assumption | decide | (show _ < 124; omega) | (show _ < 61; omega) | (show _ < 20; omega)) ⟨by first | exact Nat.le_of_ble_eq_true rfl | (simp only [ab_rm]; omega), by first | exact Nat.le_of_ble_eq_true rfl | (simp only [ab_rm]; omega)⟩ ⟨by first | exact Nat.le_of_ble_eq_true rfl | (simp only [ab_rm]; omega), by first | exact Nat.le_of_ble_eq_true rfl | (simp only [ab_rm]; omega)⟩ (Nat.le_of_ble_eq_true rfl) (fun u303 r303 h303 => ?_)
      obtain ⟨⟨q303, r303⟩, rfl⟩ := h303
      have P303 := P43.trans q303 (by decide)
      refine ab_lv (List.forall_mem_cons.mpr ⟨List.mem_of_getElem? (i := 3) rfl, List.forall_mem_cons.mpr ⟨List.mem_of_getElem? (i := 4) rfl, List.forall_mem_cons.mpr ⟨List.mem_of_getElem? (i := 5) rfl, fun _ h => absurd h List.not_mem_nil⟩⟩⟩) ?_
      exact fin _ P303 r303
    ·
      refine ab_aload_n X 0 d_MO_satisfied_0 rfl rfl ?_
      refine ab_iconst (v := (-1)) X d_MO_satisfied_1 (by decide) ?_
      refine ab_putI X fp_MO_99 d_MO_satisfied_2 (by first | assumption | decide | (show _ < 124; omega) | (show _ < 61; omega) | (show _ < 20; omega)) rfl rfl ?_
      refine ab_gen (fun u2 e2 => ?_)
      have P2 : gP [26, 27, 29, 30, 115, 116] u u2 := by rw [e2]; exact R0.ui rfl (by decide)
      refine ab_aload_n X 0 d_MO_satisfied_5 rfl rfl ?_
      refine ab_ldcw X (v := 100000) (ab_in 1248 (by decide +kernel) (by decide +kernel)) d_MO_satisfied_6 ?_
      refine ab_putI X fp_MO_102 d_MO_satisfied_9 (by first | assumption | decide | (show _ < 124; omega) | (show _ < 61; omega) | (show _ < 20; omega)) rfl rfl ?_
      refine ab_gen (fun u9 e9 => ?_)
      have P9 : gP [26, 27, 29, 30, 115, 116] u u9 := by rw [e9]; exact P2.ui rfl (by decide)
      refine ab_aload_n X 0 d_MO_satisfied_12 rfl rfl ?_
      refine ab_gR X fl_MO_45 d_MO_satisfied_13 (by first | assumption | decide | (show _ < 124; omega) | (show _ < 61; omega) | (show _ < 20; omega)) (P9.1.mo11) ?_
      refine ab_iload_n X 2 d_MO_satisfied_16 rfl rfl ?_
      refine ab_iald X (3 * p1 + j) ⟨rfl, rfl⟩ d_MO_satisfied_17 (by first | assumption | decide | (show _ < 124; omega) | (show _ < 61; omega) | (show _ < 20; omega)) (rfl) (show 3 * p1 + j < 72 by omega) (ab_ln_lt _ _) ?_
      refine ab_top (P9.ai (by decide) ew) ?_
      refine ab_istore4 X 0 1 2 3 d_MO_satisfied_18 (by decide) rfl rfl rfl rfl rfl rfl rfl rfl ?_
      refine ab_aload_n X 1 d_MO_satisfied_20 rfl rfl ?_
      refine ab_gR X fl_MO_42 d_MO_satisfied_21 (by first | assumption | decide | (show _ < 124; omega) | (show _ < 61; omega) | (show _ < 20; omega)) (P9.1.mo10) ?_
      refine ab_iconst (v := 4) X d_MO_satisfied_24 (by decide) ?_
      refine ab_iload_n X 2 d_MO_satisfied_25 rfl rfl ?_
      refine ab_imul X d_MO_satisfied_26 ?_
      refine ab_iald X (4 * p1) ⟨rfl, rfl⟩ d_MO_satisfied_27 (by first | assumption | decide | (show _ < 124; omega) | (show _ < 61; omega) | (show _ < 20; omega)) (nI_4m p1) (show 4 * p1 < 160 by omega) (ab_ln_lt _ _) ?_
      refine ab_top (P9.ai (by decide) ex) ?_
      refine ab_istore5 X 0 1 2 3 4 d_MO_satisfied_28 (by decide) rfl rfl rfl rfl rfl rfl rfl rfl rfl rfl ?_
      refine ab_aload_n X 2 d_MO_satisfied_30 rfl rfl ?_
      refine ab_gR X fl_MO_42 d_MO_satisfied_31 (by first | assumption | decide | (show _ < 124; omega) | (show _ < 61; omega) | (show _ < 20; omega)) (P9.1.mo10) ?_
      refine ab_iconst (v := 4) X d_MO_satisfied_34 (by decide) ?_
      refine ab_iload_n X 3 d_MO_satisfied_35 rfl rfl ?_
      refine ab_imul X d_MO_satisfied_36 ?_
      refine ab_iconst (v := 1) X d_MO_satisfied_37 (by decide) ?_
      refine ab_iadd X d_MO_satisfied_38 ?_
      refine ab_iald X (4 * p1 + 1) ⟨rfl, rfl⟩ d_MO_satisfied_39 (by first | assumption | decide | (show _ < 124; omega) | (show _ < 61; omega) | (show _ < 20; omega)) (nI_4b p1) (show 4 * p1 + 1 < 160 by omega) (ab_ln_lt _ _) ?_
      refine ab_top (P9.ai (by decide) ey) ?_
      refine ab_istore6 X 0 1 2 3 4 5 d_MO_satisfied_40 (by decide) rfl rfl rfl rfl rfl rfl rfl rfl rfl rfl rfl rfl ?_
      refine ab_aload_n X 3 d_MO_satisfied_42 rfl rfl ?_
      refine ab_callV (as := []) X (fun h => by cases h) (x_MO_newRow u9 P9.1) lk_MO_267 d_MO_satisfied_43 rfl rfl (by first | assumption | decide | (show _ < 124; omega) | (show _ < 61; omega) | (show _ < 20; omega)) ⟨by first | exact Nat.le_of_ble_eq_true rfl | (simp only [ab_rm]; omega), by first | exact Nat.le_of_ble_eq_true rfl | (simp only [ab_rm]; omega)⟩ ⟨by first | exact Nat.le_of_ble_eq_true rfl | (simp only [ab_rm]; omega), by first | exact Nat.le_of_ble_eq_true rfl | (simp only [ab_rm]; omega)⟩ (Nat.le_of_ble_eq_true rfl) (fun u43 r43 h43 => ?_)
      obtain ⟨⟨q43, r43⟩, rfl⟩ := h43
      have P43 := P9.trans q43 (by decide)
      have b0 : mBs u43 none := mBs.fr3 (o := none) ⟨by rw [e9, e2]; exact (ui_n _ (by omega)).trans (ui_s _), by rw [e9]; exact ui_s _⟩ q43
      refine ab_iload X 2 d_MO_satisfied_46 rfl ?_
      refine ab_iconst (v := 1) X d_MO_satisfied_48 (by decide) ?_
      refine ab_icmp_eq X 66 d_MO_satisfied_49 rfl (fun hb => absurd hb ((by decide))) (fun _ => ?_)
      refine ab_iload X 2 d_MO_satisfied_52 rfl ?_
      refine ab_bipush (v := 11) X d_MO_satisfied_54 (by decide) ?_
      refine ab_icmp_eq X 66 d_MO_satisfied_56 rfl (fun hb => absurd hb ((by decide))) (fun _ => ?_)
      refine ab_iload X 2 d_MO_satisfied_59 rfl ?_
      refine ab_bipush (v := 12) X d_MO_satisfied_61 (by decide) ?_
      refine ab_icmp_ne X 107 d_MO_satisfied_63 rfl (fun _ => ?_) (fun hb => absurd hb ((by decide)))
      refine ab_iload X 2 d_MO_satisfied_107 rfl ?_
      refine ab_iconst (v := 2) X d_MO_satisfied_109 (by decide) ?_
      refine ab_icmp_ne X 130 d_MO_satisfied_110 rfl (fun _ => ?_) (fun hb => absurd hb ((by decide)))
      refine ab_iload X 2 d_MO_satisfied_130 rfl ?_
      refine ab_iconst (v := 3) X d_MO_satisfied_132 (by decide) ?_
      refine ab_icmp_ne X 181 d_MO_satisfied_133 rfl (fun _ => ?_) (fun hb => absurd hb ((by decide)))
      refine ab_iload X 2 d_MO_satisfied_181 rfl ?_
      refine ab_iconst (v := 4) X d_MO_satisfied_183 (by decide) ?_
      refine ab_icmp_ne X 206 d_MO_satisfied_184 rfl (fun _ => ?_) (fun hb => absurd hb ((by decide)))
      refine ab_iload X 2 d_MO_satisfied_206 rfl ?_
      refine ab_iconst (v := 5) X d_MO_satisfied_208 (by decide) ?_
      refine ab_icmp_ne X 229 d_MO_satisfied_209 rfl (fun _ => ?_) (fun hb => absurd hb ((by decide)))
      refine ab_iload X 2 d_MO_satisfied_229 rfl ?_
      refine ab_bipush (v := 6) X d_MO_satisfied_231 (by decide) ?_
      refine ab_icmp_ne X 253 d_MO_satisfied_233 rfl (fun _ => ?_) (fun hb => absurd hb ((by decide)))
      refine ab_iload X 2 d_MO_satisfied_253 rfl ?_
      refine ab_bipush (v := 7) X d_MO_satisfied_255 (by decide) ?_
      refine ab_icmp_ne X 268 d_MO_satisfied_257 rfl (fun _ => ?_) (fun hb => absurd hb ((by decide)))
      refine ab_iload X 2 d_MO_satisfied_268 rfl ?_
      refine ab_bipush (v := 8) X d_MO_satisfied_270 (by decide) ?_
      refine ab_icmp_ne X 295 d_MO_satisfied_272 rfl (fun _ => ?_) (fun hb => absurd hb ((by decide)))
      refine ab_aload_n X 3 d_MO_satisfied_295 rfl rfl ?_
      refine ab_iload_n X 4 d_MO_satisfied_296 rfl rfl ?_
      refine ab_iload X 2 d_MO_satisfied_297 rfl ?_
      refine ab_iload X 1 d_MO_satisfied_299 rfl ?_
      refine ab_iload X 0 d_MO_satisfied_301 rfl ?_
      refine ab_callV (as := [ab_I (nI p1), ab_I (nI 17), ab_I (nI x), ab_I (nI y)]) X (fun h => by cases h) (x_MO_satisfiedMore17 u43 P kd ar cn lf ch W (T.fr P43 (by decide) (by decide) (by decide) (by decide) (by decide)) p1 hp R (slf kd ar a1 a2 a3 a4) S (A.fo P43) bS bR x y cx.symm cy.symm x1 x2 y1 y2 l0 l1 l2 b0 P43.1) lk_MO_291 d_MO_satisfied_303 rfl rfl (by first | assumption | decide | (show _ < 124; omega) | (show _ < 61; omega) | (show _ < 20; omega)) ⟨by first | exact Nat.le_of_ble_eq_true rfl | (simp only [ab_rm]; omega), by first | exact Nat.le_of_ble_eq_true rfl | (simp only [ab_rm]; omega)⟩ ⟨by first | exact Nat.le_of_ble_eq_true rfl | (simp only [ab_rm]; omega), by first | exact Nat.le_of_ble_eq_true rfl | (simp only [ab_rm]; omega)⟩ (Nat.le_of_ble_eq_true rfl) (fun u303 r303 h303 => ?_)
      obtain ⟨⟨q303, r303⟩, rfl⟩ := h303
      have P303 := P43.trans q303 (by decide)
      refine ab_lv (List.forall_mem_cons.mpr ⟨List.mem_of_getElem? (i := 3) rfl, List.forall_mem_cons.mpr ⟨List.mem_of_getElem? (i := 4) rfl, List.forall_mem_cons.mpr ⟨List.mem_of_getElem? (i := 5) rfl, fun _ h => absurd h List.not_mem_nil⟩⟩⟩) ?_
      exact fin _ P303 r303
    ·
      refine ab_aload_n X 0 d_MO_satisfied_0 rfl rfl ?_
      refine ab_iconst (v := (-1)) X d_MO_satisfied_1 (by decide) ?_
      refine ab_putI X fp_MO_99 d_MO_satisfied_2 (by first | assumption | decide | (show _ < 124; omega) | (show _ < 61; omega) | (show _ < 20; omega)) rfl rfl ?_
      refine ab_gen (fun u2 e2 => ?_)
      have P2 : gP [26, 27, 29, 30, 115, 116] u u2 := by rw [e2]; exact R0.ui rfl (by decide)
      refine ab_aload_n X 0 d_MO_satisfied_5 rfl rfl ?_
      refine ab_ldcw X (v := 100000) (ab_in 1248 (by decide +kernel) (by decide +kernel)) d_MO_satisfied_6 ?_
      refine ab_putI X fp_MO_102 d_MO_satisfied_9 (by first | assumption | decide | (show _ < 124; omega) | (show _ < 61; omega) | (show _ < 20; omega)) rfl rfl ?_
      refine ab_gen (fun u9 e9 => ?_)
      have P9 : gP [26, 27, 29, 30, 115, 116] u u9 := by rw [e9]; exact P2.ui rfl (by decide)
      refine ab_aload_n X 0 d_MO_satisfied_12 rfl rfl ?_
      refine ab_gR X fl_MO_45 d_MO_satisfied_13 (by first | assumption | decide | (show _ < 124; omega) | (show _ < 61; omega) | (show _ < 20; omega)) (P9.1.mo11) ?_
      refine ab_iload_n X 2 d_MO_satisfied_16 rfl rfl ?_
      refine ab_iald X (3 * p1 + j) ⟨rfl, rfl⟩ d_MO_satisfied_17 (by first | assumption | decide | (show _ < 124; omega) | (show _ < 61; omega) | (show _ < 20; omega)) (rfl) (show 3 * p1 + j < 72 by omega) (ab_ln_lt _ _) ?_
      refine ab_top (P9.ai (by decide) ew) ?_
      refine ab_istore4 X 0 1 2 3 d_MO_satisfied_18 (by decide) rfl rfl rfl rfl rfl rfl rfl rfl ?_
      refine ab_aload_n X 1 d_MO_satisfied_20 rfl rfl ?_
      refine ab_gR X fl_MO_42 d_MO_satisfied_21 (by first | assumption | decide | (show _ < 124; omega) | (show _ < 61; omega) | (show _ < 20; omega)) (P9.1.mo10) ?_
      refine ab_iconst (v := 4) X d_MO_satisfied_24 (by decide) ?_
      refine ab_iload_n X 2 d_MO_satisfied_25 rfl rfl ?_
      refine ab_imul X d_MO_satisfied_26 ?_
      refine ab_iald X (4 * p1) ⟨rfl, rfl⟩ d_MO_satisfied_27 (by first | assumption | decide | (show _ < 124; omega) | (show _ < 61; omega) | (show _ < 20; omega)) (nI_4m p1) (show 4 * p1 < 160 by omega) (ab_ln_lt _ _) ?_
      refine ab_top (P9.ai (by decide) ex) ?_
      refine ab_istore5 X 0 1 2 3 4 d_MO_satisfied_28 (by decide) rfl rfl rfl rfl rfl rfl rfl rfl rfl rfl ?_
      refine ab_aload_n X 2 d_MO_satisfied_30 rfl rfl ?_
      refine ab_gR X fl_MO_42 d_MO_satisfied_31 (by first | assumption | decide | (show _ < 124; omega) | (show _ < 61; omega) | (show _ < 20; omega)) (P9.1.mo10) ?_
      refine ab_iconst (v := 4) X d_MO_satisfied_34 (by decide) ?_
      refine ab_iload_n X 3 d_MO_satisfied_35 rfl rfl ?_
      refine ab_imul X d_MO_satisfied_36 ?_
      refine ab_iconst (v := 1) X d_MO_satisfied_37 (by decide) ?_
      refine ab_iadd X d_MO_satisfied_38 ?_
      refine ab_iald X (4 * p1 + 1) ⟨rfl, rfl⟩ d_MO_satisfied_39 (by first | assumption | decide | (show _ < 124; omega) | (show _ < 61; omega) | (show _ < 20; omega)) (nI_4b p1) (show 4 * p1 + 1 < 160 by omega) (ab_ln_lt _ _) ?_
      refine ab_top (P9.ai (by decide) ey) ?_
      refine ab_istore6 X 0 1 2 3 4 5 d_MO_satisfied_40 (by decide) rfl rfl rfl rfl rfl rfl rfl rfl rfl rfl rfl rfl ?_
      refine ab_aload_n X 3 d_MO_satisfied_42 rfl rfl ?_
      refine ab_callV (as := []) X (fun h => by cases h) (x_MO_newRow u9 P9.1) lk_MO_267 d_MO_satisfied_43 rfl rfl (by first | assumption | decide | (show _ < 124; omega) | (show _ < 61; omega) | (show _ < 20; omega)) ⟨by first | exact Nat.le_of_ble_eq_true rfl | (simp only [ab_rm]; omega), by first | exact Nat.le_of_ble_eq_true rfl | (simp only [ab_rm]; omega)⟩ ⟨by first | exact Nat.le_of_ble_eq_true rfl | (simp only [ab_rm]; omega), by first | exact Nat.le_of_ble_eq_true rfl | (simp only [ab_rm]; omega)⟩ (Nat.le_of_ble_eq_true rfl) (fun u43 r43 h43 => ?_)
      obtain ⟨⟨q43, r43⟩, rfl⟩ := h43
      have P43 := P9.trans q43 (by decide)
      have b0 : mBs u43 none := mBs.fr3 (o := none) ⟨by rw [e9, e2]; exact (ui_n _ (by omega)).trans (ui_s _), by rw [e9]; exact ui_s _⟩ q43
      refine ab_iload X 2 d_MO_satisfied_46 rfl ?_
      refine ab_iconst (v := 1) X d_MO_satisfied_48 (by decide) ?_
      refine ab_icmp_eq X 66 d_MO_satisfied_49 rfl (fun hb => absurd hb ((by decide))) (fun _ => ?_)
      refine ab_iload X 2 d_MO_satisfied_52 rfl ?_
      refine ab_bipush (v := 11) X d_MO_satisfied_54 (by decide) ?_
      refine ab_icmp_eq X 66 d_MO_satisfied_56 rfl (fun hb => absurd hb ((by decide))) (fun _ => ?_)
      refine ab_iload X 2 d_MO_satisfied_59 rfl ?_
      refine ab_bipush (v := 12) X d_MO_satisfied_61 (by decide) ?_
      refine ab_icmp_ne X 107 d_MO_satisfied_63 rfl (fun _ => ?_) (fun hb => absurd hb ((by decide)))
      refine ab_iload X 2 d_MO_satisfied_107 rfl ?_
      refine ab_iconst (v := 2) X d_MO_satisfied_109 (by decide) ?_
      refine ab_icmp_ne X 130 d_MO_satisfied_110 rfl (fun _ => ?_) (fun hb => absurd hb ((by decide)))
      refine ab_iload X 2 d_MO_satisfied_130 rfl ?_
      refine ab_iconst (v := 3) X d_MO_satisfied_132 (by decide) ?_
      refine ab_icmp_ne X 181 d_MO_satisfied_133 rfl (fun _ => ?_) (fun hb => absurd hb ((by decide)))
      refine ab_iload X 2 d_MO_satisfied_181 rfl ?_
      refine ab_iconst (v := 4) X d_MO_satisfied_183 (by decide) ?_
      refine ab_icmp_ne X 206 d_MO_satisfied_184 rfl (fun _ => ?_) (fun hb => absurd hb ((by decide)))
      refine ab_iload X 2 d_MO_satisfied_206 rfl ?_
      refine ab_iconst (v := 5) X d_MO_satisfied_208 (by decide) ?_
      refine ab_icmp_ne X 229 d_MO_satisfied_209 rfl (fun _ => ?_) (fun hb => absurd hb ((by decide)))
      refine ab_iload X 2 d_MO_satisfied_229 rfl ?_
      refine ab_bipush (v := 6) X d_MO_satisfied_231 (by decide) ?_
      refine ab_icmp_ne X 253 d_MO_satisfied_233 rfl (fun _ => ?_) (fun hb => absurd hb ((by decide)))
      refine ab_iload X 2 d_MO_satisfied_253 rfl ?_
      refine ab_bipush (v := 7) X d_MO_satisfied_255 (by decide) ?_
      refine ab_icmp_ne X 268 d_MO_satisfied_257 rfl (fun _ => ?_) (fun hb => absurd hb ((by decide)))
      refine ab_iload X 2 d_MO_satisfied_268 rfl ?_
      refine ab_bipush (v := 8) X d_MO_satisfied_270 (by decide) ?_
      refine ab_icmp_ne X 295 d_MO_satisfied_272 rfl (fun _ => ?_) (fun hb => absurd hb ((by decide)))
      refine ab_aload_n X 3 d_MO_satisfied_295 rfl rfl ?_
      refine ab_iload_n X 4 d_MO_satisfied_296 rfl rfl ?_
      refine ab_iload X 2 d_MO_satisfied_297 rfl ?_
      refine ab_iload X 1 d_MO_satisfied_299 rfl ?_
      refine ab_iload X 0 d_MO_satisfied_301 rfl ?_
      refine ab_callV (as := [ab_I (nI p1), ab_I (nI 21), ab_I (nI x), ab_I (nI y)]) X (fun h => by cases h) (x_MO_satisfiedMore21 u43 P kd ar cn lf ch W (T.fr P43 (by decide) (by decide) (by decide) (by decide) (by decide)) p1 hp R (slf kd ar a1 a2 a3 a4) S (A.fo P43) bS bR x y cx.symm cy.symm x1 x2 y1 y2 l0 l1 l2 b0 P43.1) lk_MO_291 d_MO_satisfied_303 rfl rfl (by first | assumption | decide | (show _ < 124; omega) | (show _ < 61; omega) | (show _ < 20; omega)) ⟨by first | exact Nat.le_of_ble_eq_true rfl | (simp only [ab_rm]; omega), by first | exact Nat.le_of_ble_eq_true rfl | (simp only [ab_rm]; omega)⟩ ⟨by first | exact Nat.le_of_ble_eq_true rfl | (simp only [ab_rm]; omega), by first | exact Nat.le_of_ble_eq_true rfl | (simp only [ab_rm]; omega)⟩ (Nat.le_of_ble_eq_true rfl) (fun u303 r303 h303 => ?_)
      obtain ⟨⟨q303, r303⟩, rfl⟩ := h303
      have P303 := P43.trans q303 (by decide)
      refine ab_lv (List.forall_mem_cons.mpr ⟨List.mem_of_getElem? (i := 3) rfl, List.forall_mem_cons.mpr ⟨List.mem_of_getElem? (i := 4) rfl, List.forall_mem_cons.mpr ⟨List.mem_of_getElem? (i := 5) rfl, fun _ h => absurd h List.not_mem_nil⟩⟩⟩) ?_
      exact fin _ P303 r303
    ·
      refine ab_aload_n X 0 d_MO_satisfied_0 rfl rfl ?_
      refine ab_iconst (v := (-1)) X d_MO_satisfied_1 (by decide) ?_
      refine ab_putI X fp_MO_99 d_MO_satisfied_2 (by first | assumption | decide | (show _ < 124; omega) | (show _ < 61; omega) | (show _ < 20; omega)) rfl rfl ?_
      refine ab_gen (fun u2 e2 => ?_)
      have P2 : gP [26, 27, 29, 30, 115, 116] u u2 := by rw [e2]; exact R0.ui rfl (by decide)
      refine ab_aload_n X 0 d_MO_satisfied_5 rfl rfl ?_
      refine ab_ldcw X (v := 100000) (ab_in 1248 (by decide +kernel) (by decide +kernel)) d_MO_satisfied_6 ?_
      refine ab_putI X fp_MO_102 d_MO_satisfied_9 (by first | assumption | decide | (show _ < 124; omega) | (show _ < 61; omega) | (show _ < 20; omega)) rfl rfl ?_
      refine ab_gen (fun u9 e9 => ?_)
      have P9 : gP [26, 27, 29, 30, 115, 116] u u9 := by rw [e9]; exact P2.ui rfl (by decide)
      refine ab_aload_n X 0 d_MO_satisfied_12 rfl rfl ?_
      refine ab_gR X fl_MO_45 d_MO_satisfied_13 (by first | assumption | decide | (show _ < 124; omega) | (show _ < 61; omega) | (show _ < 20; omega)) (P9.1.mo11) ?_
      refine ab_iload_n X 2 d_MO_satisfied_16 rfl rfl ?_
      refine ab_iald X (3 * p1 + j) ⟨rfl, rfl⟩ d_MO_satisfied_17 (by first | assumption | decide | (show _ < 124; omega) | (show _ < 61; omega) | (show _ < 20; omega)) (rfl) (show 3 * p1 + j < 72 by omega) (ab_ln_lt _ _) ?_
      refine ab_top (P9.ai (by decide) ew) ?_
      refine ab_istore4 X 0 1 2 3 d_MO_satisfied_18 (by decide) rfl rfl rfl rfl rfl rfl rfl rfl ?_
      refine ab_aload_n X 1 d_MO_satisfied_20 rfl rfl ?_
      refine ab_gR X fl_MO_42 d_MO_satisfied_21 (by first | assumption | decide | (show _ < 124; omega) | (show _ < 61; omega) | (show _ < 20; omega)) (P9.1.mo10) ?_
      refine ab_iconst (v := 4) X d_MO_satisfied_24 (by decide) ?_
      refine ab_iload_n X 2 d_MO_satisfied_25 rfl rfl ?_
      refine ab_imul X d_MO_satisfied_26 ?_
      refine ab_iald X (4 * p1) ⟨rfl, rfl⟩ d_MO_satisfied_27 (by first | assumption | decide | (show _ < 124; omega) | (show _ < 61; omega) | (show _ < 20; omega)) (nI_4m p1) (show 4 * p1 < 160 by omega) (ab_ln_lt _ _) ?_
      refine ab_top (P9.ai (by decide) ex) ?_
      refine ab_istore5 X 0 1 2 3 4 d_MO_satisfied_28 (by decide) rfl rfl rfl rfl rfl rfl rfl rfl rfl rfl ?_
      refine ab_aload_n X 2 d_MO_satisfied_30 rfl rfl ?_
      refine ab_gR X fl_MO_42 d_MO_satisfied_31 (by first | assumption | decide | (show _ < 124; omega) | (show _ < 61; omega) | (show _ < 20; omega)) (P9.1.mo10) ?_
      refine ab_iconst (v := 4) X d_MO_satisfied_34 (by decide) ?_
      refine ab_iload_n X 3 d_MO_satisfied_35 rfl rfl ?_
      refine ab_imul X d_MO_satisfied_36 ?_
      refine ab_iconst (v := 1) X d_MO_satisfied_37 (by decide) ?_
      refine ab_iadd X d_MO_satisfied_38 ?_
      refine ab_iald X (4 * p1 + 1) ⟨rfl, rfl⟩ d_MO_satisfied_39 (by first | assumption | decide | (show _ < 124; omega) | (show _ < 61; omega) | (show _ < 20; omega)) (nI_4b p1) (show 4 * p1 + 1 < 160 by omega) (ab_ln_lt _ _) ?_
      refine ab_top (P9.ai (by decide) ey) ?_
      refine ab_istore6 X 0 1 2 3 4 5 d_MO_satisfied_40 (by decide) rfl rfl rfl rfl rfl rfl rfl rfl rfl rfl rfl rfl ?_
      refine ab_aload_n X 3 d_MO_satisfied_42 rfl rfl ?_
      refine ab_callV (as := []) X (fun h => by cases h) (x_MO_newRow u9 P9.1) lk_MO_267 d_MO_satisfied_43 rfl rfl (by first | assumption | decide | (show _ < 124; omega) | (show _ < 61; omega) | (show _ < 20; omega)) ⟨by first | exact Nat.le_of_ble_eq_true rfl | (simp only [ab_rm]; omega), by first | exact Nat.le_of_ble_eq_true rfl | (simp only [ab_rm]; omega)⟩ ⟨by first | exact Nat.le_of_ble_eq_true rfl | (simp only [ab_rm]; omega), by first | exact Nat.le_of_ble_eq_true rfl | (simp only [ab_rm]; omega)⟩ (Nat.le_of_ble_eq_true rfl) (fun u43 r43 h43 => ?_)
      obtain ⟨⟨q43, r43⟩, rfl⟩ := h43
      have P43 := P9.trans q43 (by decide)
      have b0 : mBs u43 none := mBs.fr3 (o := none) ⟨by rw [e9, e2]; exact (ui_n _ (by omega)).trans (ui_s _), by rw [e9]; exact ui_s _⟩ q43
      refine ab_iload X 2 d_MO_satisfied_46 rfl ?_
      refine ab_iconst (v := 1) X d_MO_satisfied_48 (by decide) ?_
      refine ab_icmp_eq X 66 d_MO_satisfied_49 rfl (fun hb => absurd hb ((by decide))) (fun _ => ?_)
      refine ab_iload X 2 d_MO_satisfied_52 rfl ?_
      refine ab_bipush (v := 11) X d_MO_satisfied_54 (by decide) ?_
      refine ab_icmp_eq X 66 d_MO_satisfied_56 rfl (fun hb => absurd hb ((by decide))) (fun _ => ?_)
      refine ab_iload X 2 d_MO_satisfied_59 rfl ?_
      refine ab_bipush (v := 12) X d_MO_satisfied_61 (by decide) ?_
      refine ab_icmp_ne X 107 d_MO_satisfied_63 rfl (fun _ => ?_) (fun hb => absurd hb ((by decide)))
      refine ab_iload X 2 d_MO_satisfied_107 rfl ?_
      refine ab_iconst (v := 2) X d_MO_satisfied_109 (by decide) ?_
      refine ab_icmp_ne X 130 d_MO_satisfied_110 rfl (fun _ => ?_) (fun hb => absurd hb ((by decide)))
      refine ab_iload X 2 d_MO_satisfied_130 rfl ?_
      refine ab_iconst (v := 3) X d_MO_satisfied_132 (by decide) ?_
      refine ab_icmp_ne X 181 d_MO_satisfied_133 rfl (fun _ => ?_) (fun hb => absurd hb ((by decide)))
      refine ab_iload X 2 d_MO_satisfied_181 rfl ?_
      refine ab_iconst (v := 4) X d_MO_satisfied_183 (by decide) ?_
      refine ab_icmp_ne X 206 d_MO_satisfied_184 rfl (fun _ => ?_) (fun hb => absurd hb ((by decide)))
      refine ab_iload X 2 d_MO_satisfied_206 rfl ?_
      refine ab_iconst (v := 5) X d_MO_satisfied_208 (by decide) ?_
      refine ab_icmp_ne X 229 d_MO_satisfied_209 rfl (fun _ => ?_) (fun hb => absurd hb ((by decide)))
      refine ab_iload X 2 d_MO_satisfied_229 rfl ?_
      refine ab_bipush (v := 6) X d_MO_satisfied_231 (by decide) ?_
      refine ab_icmp_ne X 253 d_MO_satisfied_233 rfl (fun _ => ?_) (fun hb => absurd hb ((by decide)))
      refine ab_iload X 2 d_MO_satisfied_253 rfl ?_
      refine ab_bipush (v := 7) X d_MO_satisfied_255 (by decide) ?_
      refine ab_icmp_ne X 268 d_MO_satisfied_257 rfl (fun _ => ?_) (fun hb => absurd hb ((by decide)))
      refine ab_iload X 2 d_MO_satisfied_268 rfl ?_
      refine ab_bipush (v := 8) X d_MO_satisfied_270 (by decide) ?_
      refine ab_icmp_ne X 295 d_MO_satisfied_272 rfl (fun _ => ?_) (fun hb => absurd hb ((by decide)))
      refine ab_aload_n X 3 d_MO_satisfied_295 rfl rfl ?_
      refine ab_iload_n X 4 d_MO_satisfied_296 rfl rfl ?_
      refine ab_iload X 2 d_MO_satisfied_297 rfl ?_
      refine ab_iload X 1 d_MO_satisfied_299 rfl ?_
      refine ab_iload X 0 d_MO_satisfied_301 rfl ?_
      refine ab_callV (as := [ab_I (nI p1), ab_I (nI 22), ab_I (nI x), ab_I (nI y)]) X (fun h => by cases h) (x_MO_satisfiedMore22 u43 P kd ar cn lf ch W (T.fr P43 (by decide) (by decide) (by decide) (by decide) (by decide)) p1 hp R (slf kd ar a1 a2 a3 a4) S (A.fo P43) bS bR x y cx.symm cy.symm x1 x2 y1 y2 l0 l1 l2 b0 P43.1) lk_MO_291 d_MO_satisfied_303 rfl rfl (by first | assumption | decide | (show _ < 124; omega) | (show _ < 61; omega) | (show _ < 20; omega)) ⟨by first | exact Nat.le_of_ble_eq_true rfl | (simp only [ab_rm]; omega), by first | exact Nat.le_of_ble_eq_true rfl | (simp only [ab_rm]; omega)⟩ ⟨by first | exact Nat.le_of_ble_eq_true rfl | (simp only [ab_rm]; omega), by first | exact Nat.le_of_ble_eq_true rfl | (simp only [ab_rm]; omega)⟩ (Nat.le_of_ble_eq_true rfl) (fun u303 r303 h303 => ?_)
      obtain ⟨⟨q303, r303⟩, rfl⟩ := h303
      have P303 := P43.trans q303 (by decide)
      refine ab_lv (List.forall_mem_cons.mpr ⟨List.mem_of_getElem? (i := 3) rfl, List.forall_mem_cons.mpr ⟨List.mem_of_getElem? (i := 4) rfl, List.forall_mem_cons.mpr ⟨List.mem_of_getElem? (i := 5) rfl, fun _ h => absurd h List.not_mem_nil⟩⟩⟩) ?_
      exact fin _ P303 r303
    ·
      refine ab_aload_n X 0 d_MO_satisfied_0 rfl rfl ?_
      refine ab_iconst (v := (-1)) X d_MO_satisfied_1 (by decide) ?_
      refine ab_putI X fp_MO_99 d_MO_satisfied_2 (by first | assumption | decide | (show _ < 124; omega) | (show _ < 61; omega) | (show _ < 20; omega)) rfl rfl ?_
      refine ab_gen (fun u2 e2 => ?_)
      have P2 : gP [26, 27, 29, 30, 115, 116] u u2 := by rw [e2]; exact R0.ui rfl (by decide)
      refine ab_aload_n X 0 d_MO_satisfied_5 rfl rfl ?_
      refine ab_ldcw X (v := 100000) (ab_in 1248 (by decide +kernel) (by decide +kernel)) d_MO_satisfied_6 ?_
      refine ab_putI X fp_MO_102 d_MO_satisfied_9 (by first | assumption | decide | (show _ < 124; omega) | (show _ < 61; omega) | (show _ < 20; omega)) rfl rfl ?_
      refine ab_gen (fun u9 e9 => ?_)
      have P9 : gP [26, 27, 29, 30, 115, 116] u u9 := by rw [e9]; exact P2.ui rfl (by decide)
      refine ab_aload_n X 0 d_MO_satisfied_12 rfl rfl ?_
      refine ab_gR X fl_MO_45 d_MO_satisfied_13 (by first | assumption | decide | (show _ < 124; omega) | (show _ < 61; omega) | (show _ < 20; omega)) (P9.1.mo11) ?_
      refine ab_iload_n X 2 d_MO_satisfied_16 rfl rfl ?_
      refine ab_iald X (3 * p1 + j) ⟨rfl, rfl⟩ d_MO_satisfied_17 (by first | assumption | decide | (show _ < 124; omega) | (show _ < 61; omega) | (show _ < 20; omega)) (rfl) (show 3 * p1 + j < 72 by omega) (ab_ln_lt _ _) ?_
      refine ab_top (P9.ai (by decide) ew) ?_
      refine ab_istore4 X 0 1 2 3 d_MO_satisfied_18 (by decide) rfl rfl rfl rfl rfl rfl rfl rfl ?_
      refine ab_aload_n X 1 d_MO_satisfied_20 rfl rfl ?_
      refine ab_gR X fl_MO_42 d_MO_satisfied_21 (by first | assumption | decide | (show _ < 124; omega) | (show _ < 61; omega) | (show _ < 20; omega)) (P9.1.mo10) ?_
      refine ab_iconst (v := 4) X d_MO_satisfied_24 (by decide) ?_
      refine ab_iload_n X 2 d_MO_satisfied_25 rfl rfl ?_
      refine ab_imul X d_MO_satisfied_26 ?_
      refine ab_iald X (4 * p1) ⟨rfl, rfl⟩ d_MO_satisfied_27 (by first | assumption | decide | (show _ < 124; omega) | (show _ < 61; omega) | (show _ < 20; omega)) (nI_4m p1) (show 4 * p1 < 160 by omega) (ab_ln_lt _ _) ?_
      refine ab_top (P9.ai (by decide) ex) ?_
      refine ab_istore5 X 0 1 2 3 4 d_MO_satisfied_28 (by decide) rfl rfl rfl rfl rfl rfl rfl rfl rfl rfl ?_
      refine ab_aload_n X 2 d_MO_satisfied_30 rfl rfl ?_
      refine ab_gR X fl_MO_42 d_MO_satisfied_31 (by first | assumption | decide | (show _ < 124; omega) | (show _ < 61; omega) | (show _ < 20; omega)) (P9.1.mo10) ?_
      refine ab_iconst (v := 4) X d_MO_satisfied_34 (by decide) ?_
      refine ab_iload_n X 3 d_MO_satisfied_35 rfl rfl ?_
      refine ab_imul X d_MO_satisfied_36 ?_
      refine ab_iconst (v := 1) X d_MO_satisfied_37 (by decide) ?_
      refine ab_iadd X d_MO_satisfied_38 ?_
      refine ab_iald X (4 * p1 + 1) ⟨rfl, rfl⟩ d_MO_satisfied_39 (by first | assumption | decide | (show _ < 124; omega) | (show _ < 61; omega) | (show _ < 20; omega)) (nI_4b p1) (show 4 * p1 + 1 < 160 by omega) (ab_ln_lt _ _) ?_
      refine ab_top (P9.ai (by decide) ey) ?_
      refine ab_istore6 X 0 1 2 3 4 5 d_MO_satisfied_40 (by decide) rfl rfl rfl rfl rfl rfl rfl rfl rfl rfl rfl rfl ?_
      refine ab_aload_n X 3 d_MO_satisfied_42 rfl rfl ?_
      refine ab_callV (as := []) X (fun h => by cases h) (x_MO_newRow u9 P9.1) lk_MO_267 d_MO_satisfied_43 rfl rfl (by first | assumption | decide | (show _ < 124; omega) | (show _ < 61; omega) | (show _ < 20; omega)) ⟨by first | exact Nat.le_of_ble_eq_true rfl | (simp only [ab_rm]; omega), by first | exact Nat.le_of_ble_eq_true rfl | (simp only [ab_rm]; omega)⟩ ⟨by first | exact Nat.le_of_ble_eq_true rfl | (simp only [ab_rm]; omega), by first | exact Nat.le_of_ble_eq_true rfl | (simp only [ab_rm]; omega)⟩ (Nat.le_of_ble_eq_true rfl) (fun u43 r43 h43 => ?_)
      obtain ⟨⟨q43, r43⟩, rfl⟩ := h43
      have P43 := P9.trans q43 (by decide)
      have b0 : mBs u43 none := mBs.fr3 (o := none) ⟨by rw [e9, e2]; exact (ui_n _ (by omega)).trans (ui_s _), by rw [e9]; exact ui_s _⟩ q43
      refine ab_iload X 2 d_MO_satisfied_46 rfl ?_
      refine ab_iconst (v := 1) X d_MO_satisfied_48 (by decide) ?_
      refine ab_icmp_eq X 66 d_MO_satisfied_49 rfl (fun hb => absurd hb ((by decide))) (fun _ => ?_)
      refine ab_iload X 2 d_MO_satisfied_52 rfl ?_
      refine ab_bipush (v := 11) X d_MO_satisfied_54 (by decide) ?_
      refine ab_icmp_eq X 66 d_MO_satisfied_56 rfl (fun hb => absurd hb ((by decide))) (fun _ => ?_)
      refine ab_iload X 2 d_MO_satisfied_59 rfl ?_
      refine ab_bipush (v := 12) X d_MO_satisfied_61 (by decide) ?_
      refine ab_icmp_ne X 107 d_MO_satisfied_63 rfl (fun _ => ?_) (fun hb => absurd hb ((by decide)))
      refine ab_iload X 2 d_MO_satisfied_107 rfl ?_
      refine ab_iconst (v := 2) X d_MO_satisfied_109 (by decide) ?_
      refine ab_icmp_ne X 130 d_MO_satisfied_110 rfl (fun _ => ?_) (fun hb => absurd hb ((by decide)))
      refine ab_iload X 2 d_MO_satisfied_130 rfl ?_
      refine ab_iconst (v := 3) X d_MO_satisfied_132 (by decide) ?_
      refine ab_icmp_ne X 181 d_MO_satisfied_133 rfl (fun _ => ?_) (fun hb => absurd hb ((by decide)))
      refine ab_iload X 2 d_MO_satisfied_181 rfl ?_
      refine ab_iconst (v := 4) X d_MO_satisfied_183 (by decide) ?_
      refine ab_icmp_ne X 206 d_MO_satisfied_184 rfl (fun _ => ?_) (fun hb => absurd hb ((by decide)))
      refine ab_iload X 2 d_MO_satisfied_206 rfl ?_
      refine ab_iconst (v := 5) X d_MO_satisfied_208 (by decide) ?_
      refine ab_icmp_ne X 229 d_MO_satisfied_209 rfl (fun _ => ?_) (fun hb => absurd hb ((by decide)))
      refine ab_iload X 2 d_MO_satisfied_229 rfl ?_
      refine ab_bipush (v := 6) X d_MO_satisfied_231 (by decide) ?_
      refine ab_icmp_ne X 253 d_MO_satisfied_233 rfl (fun _ => ?_) (fun hb => absurd hb ((by decide)))
      refine ab_iload X 2 d_MO_satisfied_253 rfl ?_
      refine ab_bipush (v := 7) X d_MO_satisfied_255 (by decide) ?_
      refine ab_icmp_ne X 268 d_MO_satisfied_257 rfl (fun _ => ?_) (fun hb => absurd hb ((by decide)))
      refine ab_iload X 2 d_MO_satisfied_268 rfl ?_
      refine ab_bipush (v := 8) X d_MO_satisfied_270 (by decide) ?_
      refine ab_icmp_ne X 295 d_MO_satisfied_272 rfl (fun _ => ?_) (fun hb => absurd hb ((by decide)))
      refine ab_aload_n X 3 d_MO_satisfied_295 rfl rfl ?_
      refine ab_iload_n X 4 d_MO_satisfied_296 rfl rfl ?_
      refine ab_iload X 2 d_MO_satisfied_297 rfl ?_
      refine ab_iload X 1 d_MO_satisfied_299 rfl ?_
      refine ab_iload X 0 d_MO_satisfied_301 rfl ?_
      refine ab_callV (as := [ab_I (nI p1), ab_I (nI 23), ab_I (nI x), ab_I (nI y)]) X (fun h => by cases h) (x_MO_satisfiedMore23 u43 P kd ar cn lf ch W (T.fr P43 (by decide) (by decide) (by decide) (by decide) (by decide)) p1 hp R (slf kd ar a1 a2 a3 a4) S (A.fo P43) bS bR x y cx.symm cy.symm x1 x2 y1 y2 l0 l1 l2 b0 P43.1) lk_MO_291 d_MO_satisfied_303 rfl rfl (by first | assumption | decide | (show _ < 124; omega) | (show _ < 61; omega) | (show _ < 20; omega)) ⟨by first | exact Nat.le_of_ble_eq_true rfl | (simp only [ab_rm]; omega), by first | exact Nat.le_of_ble_eq_true rfl | (simp only [ab_rm]; omega)⟩ ⟨by first | exact Nat.le_of_ble_eq_true rfl | (simp only [ab_rm]; omega), by first | exact Nat.le_of_ble_eq_true rfl | (simp only [ab_rm]; omega)⟩ (Nat.le_of_ble_eq_true rfl) (fun u303 r303 h303 => ?_)
      obtain ⟨⟨q303, r303⟩, rfl⟩ := h303
      have P303 := P43.trans q303 (by decide)
      refine ab_lv (List.forall_mem_cons.mpr ⟨List.mem_of_getElem? (i := 3) rfl, List.forall_mem_cons.mpr ⟨List.mem_of_getElem? (i := 4) rfl, List.forall_mem_cons.mpr ⟨List.mem_of_getElem? (i := 5) rfl, fun _ h => absurd h List.not_mem_nil⟩⟩⟩) ?_
      exact fin _ P303 r303
def dOut (f : Nat) (u u' : ab_S) : Prop := (∀ g, g ≠ f → u'.1 18 14 g = u.1 18 14 g) ∧ ∀ k, k < 50 * f ∨ 50 * f + 50 ≤ k → u'.1 18 13 k = u.1 18 13 k
set_option maxRecDepth 100000 in
set_option maxHeartbeats 20000000 in
theorem x_MO_dissatisfied (u : ab_S) (P : Nat) (kd ar cn lf : Nat → Nat) (ch : Nat → Nat → Nat) (W : tW P kd ar cn lf ch) (T : tR P kd ar cn ch u) (p1 w : Nat) (hp : p1 < P) (R : Nat → List Nat) (A : ∀ q, p1 < q → q < P → md u q (R q)) (bR : ∀ q, p1 < q → q < P → (R q).length ≤ 2 * lf q - 1 ∧ ∀ x, x ∈ R q → itm x) (hw : wok (kd p1) (ar p1) (cn p1) 1 w) (ew : u.1 18 5 (3 * p1 + 1) = nI w) (oR : (rfS cn ch R p1 w).length ≤ 40) (h : mR u.2.1) : ab_C false l D ca y_MO_dissatisfied b_MO_dissatisfied 4 none 3 ab_nQ u [ab_O 17 0, ab_I (nI p1)] (fun u' v => (gP [26, 27, 113, 114, 115] u u' ∧ dOut p1 u u' ∧ md u' p1 (rfS cn ch R p1 w)) ∧ v = none) := by
  refine ab_C.of (by decide) (Nat.le_of_ble_eq_true rfl) ?_
  intro p e s m args below meth c ad X hZ hr0 hlk
  have P0 : gP [26, 27, 115] u u := gP.rf h
  obtain ⟨⟨l3, l4, k1, k7, ar9⟩, kl, kb⟩ := W.2.2 p1 hp
  have hP19 := W.2.1
  obtain ⟨ek, ea, ec, ech⟩ := T.2 p1 hp
  have fin : ∀ (u1 : ab_S) (m1 : Nat), gP [26, 27, 115] u u1 → mr u1 m1 0 (some (rfS cn ch R p1 w)) → ab_J p l e (ab_rm 3 0 0) s m args below meth c (MQ below (ab_Q D ca ad ab_nQ s.heap.size (fun u' v => (gP [26, 27, 113, 114, 115] u u' ∧ dOut p1 u u' ∧ md u' p1 (rfS cn ch R p1 w)) ∧ v = none)) args s 0 0 (ab_A ad ab_nQ s.heap.size)) D ca (ab_A ad ab_nQ s.heap.size) s.heap 4 0 0 ad ab_nQ u1 126 [(0, ab_O 17 0), (1, ab_I (nI p1))] [] := by
    intro u1 m1 P1 r1
    have P2 : gP [26, 27, 113, 114, 115] u u1 := P1.wk (by decide)
    obtain ⟨r, n, d1, -, -, -, rfl, -, d2⟩ := r1
    have loop : ∀ (k i : Nat) (u2 : ab_S), k + i = (rfS cn ch R p1 w).length → gP [26, 27, 113, 114, 115] u u2 → dOut p1 u u2 → u2.1 17 0 26 = nI (rfS cn ch R p1 w).length → (∀ i2, i2 < (rfS cn ch R p1 w).length → u2.1 18 15 i2 = nI ((rfS cn ch R p1 w).getD i2 0)) → u2.1 18 14 p1 = nI (rfS cn ch R p1 w).length → (∀ i2, i2 < i → u2.1 18 13 (50 * p1 + i2) = nI ((rfS cn ch R p1 w).getD i2 0)) → ab_J p l e (ab_rm 3 0 0) s m args below meth c (MQ below (ab_Q D ca ad ab_nQ s.heap.size (fun u' v => (gP [26, 27, 113, 114, 115] u u' ∧ dOut p1 u u' ∧ md u' p1 (rfS cn ch R p1 w)) ∧ v = none)) args s 0 0 (ab_A ad ab_nQ s.heap.size)) D ca (ab_A ad ab_nQ s.heap.size) s.heap 4 0 0 ad ab_nQ u2 138 [(3, ab_I (nI i)), (0, ab_O 17 0), (1, ab_I (nI p1))] [] := by
      intro k
      induction k with
      | zero =>
        intro i u2 hi Q2 O2 d3 d4 d5 d6
        obtain rfl : i = (rfS cn ch R p1 w).length := by omega
        refine ab_iload_n X 0 d_MO_dissatisfied_138 rfl rfl ?_
        refine ab_aload_n X 1 d_MO_dissatisfied_139 rfl rfl ?_
        refine ab_gI X fl_MO_90 d_MO_dissatisfied_140 (by first | assumption | decide | (show _ < 124; omega) | (show _ < 61; omega) | (show _ < 20; omega)) (d3) ?_
        refine ab_icmp_ge X 169 d_MO_dissatisfied_143 rfl (fun _ => ?_) (fun hb => absurd ((nI_le (by omega) (by omega))) hb)
        exact ab_retv X hr0 hlk d_MO_dissatisfied_169 ⟨⟨Q2, O2, d5, d6⟩, rfl⟩
      | succ k ih =>
        intro i u2 hi Q2 O2 d3 d4 d5 d6
        refine ab_iload_n X 0 d_MO_dissatisfied_138 rfl rfl ?_
        refine ab_aload_n X 1 d_MO_dissatisfied_139 rfl rfl ?_
        refine ab_gI X fl_MO_90 d_MO_dissatisfied_140 (by first | assumption | decide | (show _ < 124; omega) | (show _ < 61; omega) | (show _ < 20; omega)) (d3) ?_
        refine ab_icmp_ge X 169 d_MO_dissatisfied_143 rfl (fun hb => absurd hb ((nI_ge (by omega) (by omega)))) (fun _ => ?_)
        refine ab_aload_n X 1 d_MO_dissatisfied_146 rfl rfl ?_
        refine ab_gR X fl_MO_81 d_MO_dissatisfied_147 (by first | assumption | decide | (show _ < 124; omega) | (show _ < 61; omega) | (show _ < 20; omega)) (Q2.1.mo23) ?_
        refine ab_bipush (v := 50) X d_MO_dissatisfied_150 (by decide) ?_
        refine ab_iload_n X 2 d_MO_dissatisfied_152 rfl rfl ?_
        refine ab_imul X d_MO_dissatisfied_153 ?_
        refine ab_iload_n X 0 d_MO_dissatisfied_154 rfl rfl ?_
        refine ab_iadd X d_MO_dissatisfied_155 ?_
        refine ab_aload_n X 1 d_MO_dissatisfied_156 rfl rfl ?_
        refine ab_gR X fl_MO_87 d_MO_dissatisfied_157 (by first | assumption | decide | (show _ < 124; omega) | (show _ < 61; omega) | (show _ < 20; omega)) (Q2.1.mo25) ?_
        refine ab_iload_n X 0 d_MO_dissatisfied_160 rfl rfl ?_
        refine ab_iald X (i) ⟨rfl, rfl⟩ d_MO_dissatisfied_161 (by first | assumption | decide | (show _ < 124; omega) | (show _ < 61; omega) | (show _ < 20; omega)) (rfl) (show i < 64 by omega) (ab_ln_lt _ _) ?_
        refine ab_top (d4 i (by omega)) ?_
        refine ab_iast X (50 * p1 + i) ⟨rfl, rfl⟩ d_MO_dissatisfied_162 (by first | assumption | decide | (show _ < 124; omega) | (show _ < 61; omega) | (show _ < 20; omega)) (nI_50a p1 i) (show 50 * p1 + i < 1200 by omega) (ab_ln_lt _ _) ?_
        refine ab_gen (fun u162 e162 => ?_)
        have P162 : gP [26, 27, 113, 114, 115] u u162 := by rw [e162]; exact Q2.ui rfl (by decide)
        refine ab_iinc2 X 0 1 2 d_MO_dissatisfied_163 rfl (by decide) rfl rfl rfl rfl ?_
        refine ab_goto X 138 d_MO_dissatisfied_166 rfl ?_
        rw [show nI i + Int32.ofInt 1 = nI (i + 1) from nI_1 i]
        refine ih (i + 1) _ (by omega) P162 ⟨fun g hg => by rw [e162]; exact (ui_n _ (by omega)).trans (O2.1 g hg), fun k hk => by rw [e162]; exact (ui_n _ (by omega)).trans (O2.2 k hk)⟩ (by rw [e162]; exact (ui_n _ (by omega)).trans d3) (fun i2 hi2 => by rw [e162]; exact (ui_n _ (by omega)).trans (d4 i2 hi2)) (by rw [e162]; exact (ui_n _ (by omega)).trans d5) (fun i2 hi2 => ?_)
        rw [e162]
        by_cases z : i2 = i
        · subst z; exact ui_s _
        · exact (ui_n _ (by omega)).trans (d6 i2 (by omega))
    refine ab_aload_n X 0 d_MO_dissatisfied_126 rfl rfl ?_
    refine ab_gR X fl_MO_84 d_MO_dissatisfied_127 (by first | assumption | decide | (show _ < 124; omega) | (show _ < 61; omega) | (show _ < 20; omega)) (P2.1.mo24) ?_
    refine ab_iload_n X 1 d_MO_dissatisfied_130 rfl rfl ?_
    refine ab_aload_n X 0 d_MO_dissatisfied_131 rfl rfl ?_
    refine ab_gI X fl_MO_90 d_MO_dissatisfied_132 (by first | assumption | decide | (show _ < 124; omega) | (show _ < 61; omega) | (show _ < 20; omega)) (d1) ?_
    refine ab_iast X (p1) ⟨rfl, rfl⟩ d_MO_dissatisfied_135 (by first | assumption | decide | (show _ < 124; omega) | (show _ < 61; omega) | (show _ < 20; omega)) (rfl) (show p1 < 24 by omega) (ab_ln_lt _ _) ?_
    refine ab_gen (fun u135 e135 => ?_)
    have P135 : gP [26, 27, 113, 114, 115] u u135 := by rw [e135]; exact P2.ui rfl (by decide)
    refine ab_iconst (v := 0) X d_MO_dissatisfied_136 (by decide) ?_
    refine ab_istore_n2 X 0 1 d_MO_dissatisfied_137 rfl (by decide) rfl rfl rfl rfl ?_
    exact loop (rfS cn ch R p1 w).length 0 _ (by omega) P135 ⟨fun g hg => by rw [e135]; exact (ui_n _ (by omega)).trans (P1.ai (by decide) rfl), fun k _ => by rw [e135]; exact (ui_n _ (by omega)).trans (P1.ai (by decide) rfl)⟩ (by rw [e135]; exact (ui_n _ (by omega)).trans d1) (fun i2 hi2 => by rw [e135]; exact (ui_n _ (by omega)).trans (d2 i2 hi2)) (by rw [e135]; exact ui_s _) (fun i2 hi2 => absurd hi2 (Nat.not_lt_zero i2))
  by_cases w1 : w = 1
  · subst w1
    have c0 := kl (by unfold wok at hw; omega)
    refine ab_aload_n X 0 d_MO_dissatisfied_0 rfl rfl ?_
    refine ab_gR X fl_MO_45 d_MO_dissatisfied_1 (by first | assumption | decide | (show _ < 124; omega) | (show _ < 61; omega) | (show _ < 20; omega)) (P0.1.mo11) ?_
    refine ab_iload_n X 1 d_MO_dissatisfied_4 rfl rfl ?_
    refine ab_callS (as := [ab_I (nI p1)]) X (fun h => by cases h) (t_MO_d u p1) ls_MO_195 d_MO_dissatisfied_5 rfl rfl ⟨by first | exact Nat.le_of_ble_eq_true rfl | (simp only [ab_rm]; omega), by first | exact Nat.le_of_ble_eq_true rfl | (simp only [ab_rm]; omega)⟩ ⟨by first | exact Nat.le_of_ble_eq_true rfl | (simp only [ab_rm]; omega), by first | exact Nat.le_of_ble_eq_true rfl | (simp only [ab_rm]; omega)⟩ (Nat.le_of_ble_eq_true rfl) (fun u5 r5 h5 => ?_)
    obtain ⟨e5, rfl⟩ := h5
    subst u5
    refine ab_iald X (3 * p1 + 1) ⟨rfl, rfl⟩ d_MO_dissatisfied_8 (by first | assumption | decide | (show _ < 124; omega) | (show _ < 61; omega) | (show _ < 20; omega)) (rfl) (show 3 * p1 + 1 < 72 by omega) (ab_ln_lt _ _) ?_
    refine ab_top ew ?_
    refine ab_istore_n2 X 0 1 d_MO_dissatisfied_9 rfl (by decide) rfl rfl rfl rfl ?_
    refine ab_aload_n X 1 d_MO_dissatisfied_10 rfl rfl ?_
    refine ab_callV (as := []) X (fun h => by cases h) (x_MO_newRow u h) lk_MO_267 d_MO_dissatisfied_11 rfl rfl (by first | assumption | decide | (show _ < 124; omega) | (show _ < 61; omega) | (show _ < 20; omega)) ⟨by first | exact Nat.le_of_ble_eq_true rfl | (simp only [ab_rm]; omega), by first | exact Nat.le_of_ble_eq_true rfl | (simp only [ab_rm]; omega)⟩ ⟨by first | exact Nat.le_of_ble_eq_true rfl | (simp only [ab_rm]; omega), by first | exact Nat.le_of_ble_eq_true rfl | (simp only [ab_rm]; omega)⟩ (Nat.le_of_ble_eq_true rfl) (fun u11 r11 h11 => ?_)
    obtain ⟨⟨q11, r11⟩, rfl⟩ := h11
    have P11 := P0.trans q11 (by decide)
    refine ab_iload_n X 0 d_MO_dissatisfied_14 rfl rfl ?_
    refine ab_iconst (v := 1) X d_MO_dissatisfied_15 (by decide) ?_
    refine ab_icmp_eq X 31 d_MO_dissatisfied_16 rfl (fun _ => ?_) (fun hb => absurd ((by decide)) hb)
    refine ab_aload_n X 1 d_MO_dissatisfied_31 rfl rfl ?_
    refine ab_iconst (v := 0) X d_MO_dissatisfied_32 (by decide) ?_
    refine ab_callV (as := [ab_I (nI 0)]) X (fun h => by cases h) (x_MO_item1 u11 0 0 0 (some []) P11.1 r11 itm0 (by decide) (by decide)) lk_MO_264 d_MO_dissatisfied_33 rfl rfl (by first | assumption | decide | (show _ < 124; omega) | (show _ < 61; omega) | (show _ < 20; omega)) ⟨by first | exact Nat.le_of_ble_eq_true rfl | (simp only [ab_rm]; omega), by first | exact Nat.le_of_ble_eq_true rfl | (simp only [ab_rm]; omega)⟩ ⟨by first | exact Nat.le_of_ble_eq_true rfl | (simp only [ab_rm]; omega), by first | exact Nat.le_of_ble_eq_true rfl | (simp only [ab_rm]; omega)⟩ (Nat.le_of_ble_eq_true rfl) (fun u33 r33 h33 => ?_)
    obtain ⟨⟨q33, r33⟩, rfl⟩ := h33
    have P33 := P11.trans q33 (by decide)
    refine ab_iload_n X 0 d_MO_dissatisfied_36 rfl rfl ?_
    refine ab_iconst (v := 5) X d_MO_dissatisfied_37 (by decide) ?_
    refine ab_icmp_ne X 46 d_MO_dissatisfied_38 rfl (fun _ => ?_) (fun hb => absurd hb ((by decide)))
    refine ab_iload_n X 0 d_MO_dissatisfied_46 rfl rfl ?_
    refine ab_iconst (v := 5) X d_MO_dissatisfied_47 (by decide) ?_
    refine ab_icmp_ne X 63 d_MO_dissatisfied_48 rfl (fun _ => ?_) (fun hb => absurd hb ((by decide)))
    refine ab_iload_n X 0 d_MO_dissatisfied_63 rfl rfl ?_
    refine ab_bipush (v := 6) X d_MO_dissatisfied_64 (by decide) ?_
    refine ab_icmp_ne X 83 d_MO_dissatisfied_66 rfl (fun _ => ?_) (fun hb => absurd hb ((by decide)))
    refine ab_iconst (v := 0) X d_MO_dissatisfied_83 (by decide) ?_
    refine ab_istore_n3 X 0 1 2 d_MO_dissatisfied_84 rfl (by decide) rfl rfl rfl rfl rfl rfl ?_
    refine ab_iload_n X 0 d_MO_dissatisfied_85 rfl rfl ?_
    refine ab_aload_n X 2 d_MO_dissatisfied_86 rfl rfl ?_
    refine ab_gR X fl_MO_39 d_MO_dissatisfied_87 (by first | assumption | decide | (show _ < 124; omega) | (show _ < 61; omega) | (show _ < 20; omega)) (P33.1.mo9) ?_
    refine ab_iload_n X 3 d_MO_dissatisfied_90 rfl rfl ?_
    refine ab_iald X (p1) ⟨rfl, rfl⟩ d_MO_dissatisfied_91 (by first | assumption | decide | (show _ < 124; omega) | (show _ < 61; omega) | (show _ < 20; omega)) (rfl) (show p1 < 40 by omega) (ab_ln_lt _ _) ?_
    refine ab_top (P33.ai (by decide) ec) ?_
    refine ab_icmp_ge X 126 d_MO_dissatisfied_92 rfl (fun _ => ?_) (fun hb => absurd ((by rw [c0]; exact Int32.le_refl _)) hb)
    refine ab_lv (List.forall_mem_cons.mpr ⟨List.mem_of_getElem? (i := 2) rfl, List.forall_mem_cons.mpr ⟨List.mem_of_getElem? (i := 3) rfl, fun _ h => absurd h List.not_mem_nil⟩⟩) ?_
    exact fin _ _ P33 r33
  by_cases w8 : w = 8
  · subst w8
    refine ab_aload_n X 0 d_MO_dissatisfied_0 rfl rfl ?_
    refine ab_gR X fl_MO_45 d_MO_dissatisfied_1 (by first | assumption | decide | (show _ < 124; omega) | (show _ < 61; omega) | (show _ < 20; omega)) (P0.1.mo11) ?_
    refine ab_iload_n X 1 d_MO_dissatisfied_4 rfl rfl ?_
    refine ab_callS (as := [ab_I (nI p1)]) X (fun h => by cases h) (t_MO_d u p1) ls_MO_195 d_MO_dissatisfied_5 rfl rfl ⟨by first | exact Nat.le_of_ble_eq_true rfl | (simp only [ab_rm]; omega), by first | exact Nat.le_of_ble_eq_true rfl | (simp only [ab_rm]; omega)⟩ ⟨by first | exact Nat.le_of_ble_eq_true rfl | (simp only [ab_rm]; omega), by first | exact Nat.le_of_ble_eq_true rfl | (simp only [ab_rm]; omega)⟩ (Nat.le_of_ble_eq_true rfl) (fun u5 r5 h5 => ?_)
    obtain ⟨e5, rfl⟩ := h5
    subst u5
    refine ab_iald X (3 * p1 + 1) ⟨rfl, rfl⟩ d_MO_dissatisfied_8 (by first | assumption | decide | (show _ < 124; omega) | (show _ < 61; omega) | (show _ < 20; omega)) (rfl) (show 3 * p1 + 1 < 72 by omega) (ab_ln_lt _ _) ?_
    refine ab_top ew ?_
    refine ab_istore_n2 X 0 1 d_MO_dissatisfied_9 rfl (by decide) rfl rfl rfl rfl ?_
    refine ab_aload_n X 1 d_MO_dissatisfied_10 rfl rfl ?_
    refine ab_callV (as := []) X (fun h => by cases h) (x_MO_newRow u h) lk_MO_267 d_MO_dissatisfied_11 rfl rfl (by first | assumption | decide | (show _ < 124; omega) | (show _ < 61; omega) | (show _ < 20; omega)) ⟨by first | exact Nat.le_of_ble_eq_true rfl | (simp only [ab_rm]; omega), by first | exact Nat.le_of_ble_eq_true rfl | (simp only [ab_rm]; omega)⟩ ⟨by first | exact Nat.le_of_ble_eq_true rfl | (simp only [ab_rm]; omega), by first | exact Nat.le_of_ble_eq_true rfl | (simp only [ab_rm]; omega)⟩ (Nat.le_of_ble_eq_true rfl) (fun u11 r11 h11 => ?_)
    obtain ⟨⟨q11, r11⟩, rfl⟩ := h11
    have P11 := P0.trans q11 (by decide)
    refine ab_iload_n X 0 d_MO_dissatisfied_14 rfl rfl ?_
    refine ab_iconst (v := 1) X d_MO_dissatisfied_15 (by decide) ?_
    refine ab_icmp_eq X 31 d_MO_dissatisfied_16 rfl (fun hb => absurd hb ((by decide))) (fun _ => ?_)
    refine ab_iload_n X 0 d_MO_dissatisfied_19 rfl rfl ?_
    refine ab_bipush (v := 8) X d_MO_dissatisfied_20 (by decide) ?_
    refine ab_icmp_eq X 31 d_MO_dissatisfied_22 rfl (fun _ => ?_) (fun hb => absurd ((by decide)) hb)
    refine ab_aload_n X 1 d_MO_dissatisfied_31 rfl rfl ?_
    refine ab_iconst (v := 0) X d_MO_dissatisfied_32 (by decide) ?_
    refine ab_callV (as := [ab_I (nI 0)]) X (fun h => by cases h) (x_MO_item1 u11 0 0 0 (some []) P11.1 r11 itm0 (by decide) (by decide)) lk_MO_264 d_MO_dissatisfied_33 rfl rfl (by first | assumption | decide | (show _ < 124; omega) | (show _ < 61; omega) | (show _ < 20; omega)) ⟨by first | exact Nat.le_of_ble_eq_true rfl | (simp only [ab_rm]; omega), by first | exact Nat.le_of_ble_eq_true rfl | (simp only [ab_rm]; omega)⟩ ⟨by first | exact Nat.le_of_ble_eq_true rfl | (simp only [ab_rm]; omega), by first | exact Nat.le_of_ble_eq_true rfl | (simp only [ab_rm]; omega)⟩ (Nat.le_of_ble_eq_true rfl) (fun u33 r33 h33 => ?_)
    obtain ⟨⟨q33, r33⟩, rfl⟩ := h33
    have P33 := P11.trans q33 (by decide)
    refine ab_iload_n X 0 d_MO_dissatisfied_36 rfl rfl ?_
    refine ab_iconst (v := 5) X d_MO_dissatisfied_37 (by decide) ?_
    refine ab_icmp_ne X 46 d_MO_dissatisfied_38 rfl (fun _ => ?_) (fun hb => absurd hb ((by decide)))
    refine ab_iload_n X 0 d_MO_dissatisfied_46 rfl rfl ?_
    refine ab_iconst (v := 5) X d_MO_dissatisfied_47 (by decide) ?_
    refine ab_icmp_ne X 63 d_MO_dissatisfied_48 rfl (fun _ => ?_) (fun hb => absurd hb ((by decide)))
    refine ab_iload_n X 0 d_MO_dissatisfied_63 rfl rfl ?_
    refine ab_bipush (v := 6) X d_MO_dissatisfied_64 (by decide) ?_
    refine ab_icmp_ne X 83 d_MO_dissatisfied_66 rfl (fun _ => ?_) (fun hb => absurd hb ((by decide)))
    refine ab_iconst (v := 0) X d_MO_dissatisfied_83 (by decide) ?_
    refine ab_istore_n3 X 0 1 2 d_MO_dissatisfied_84 rfl (by decide) rfl rfl rfl rfl rfl rfl ?_
    refine ab_iload_n X 0 d_MO_dissatisfied_85 rfl rfl ?_
    refine ab_aload_n X 2 d_MO_dissatisfied_86 rfl rfl ?_
    refine ab_gR X fl_MO_39 d_MO_dissatisfied_87 (by first | assumption | decide | (show _ < 124; omega) | (show _ < 61; omega) | (show _ < 20; omega)) (P33.1.mo9) ?_
    refine ab_iload_n X 3 d_MO_dissatisfied_90 rfl rfl ?_
    refine ab_iald X (p1) ⟨rfl, rfl⟩ d_MO_dissatisfied_91 (by first | assumption | decide | (show _ < 124; omega) | (show _ < 61; omega) | (show _ < 20; omega)) (rfl) (show p1 < 40 by omega) (ab_ln_lt _ _) ?_
    refine ab_top (P33.ai (by decide) ec) ?_
    refine ab_icmp_ge X 126 d_MO_dissatisfied_92 rfl (fun h92 => ?_) (fun h92 => ?_)
    ·
      refine ab_lv (List.forall_mem_cons.mpr ⟨List.mem_of_getElem? (i := 2) rfl, List.forall_mem_cons.mpr ⟨List.mem_of_getElem? (i := 3) rfl, fun _ h => absurd h List.not_mem_nil⟩⟩) ?_
      exact fin _ _ P33 r33
    ·
      refine ab_iload_n X 1 d_MO_dissatisfied_95 rfl rfl ?_
      refine ab_iconst (v := 5) X d_MO_dissatisfied_96 (by decide) ?_
      refine ab_icmp_lt X 106 d_MO_dissatisfied_97 rfl (fun hb => absurd hb ((by decide))) (fun _ => ?_)
      refine ab_iload_n X 1 d_MO_dissatisfied_100 rfl rfl ?_
      refine ab_bipush (v := 7) X d_MO_dissatisfied_101 (by decide) ?_
      refine ab_icmp_ne X 126 d_MO_dissatisfied_103 rfl (fun _ => ?_) (fun hb => absurd hb ((by decide)))
      refine ab_lv (List.forall_mem_cons.mpr ⟨List.mem_of_getElem? (i := 2) rfl, List.forall_mem_cons.mpr ⟨List.mem_of_getElem? (i := 3) rfl, fun _ h => absurd h List.not_mem_nil⟩⟩) ?_
      exact fin _ _ P33 r33
  have k5 : 5 ≤ kd p1 := by unfold wok at hw; omega
  obtain ⟨n2, n4, c27, b4, b5, b6⟩ := kb k5
  have bl : ∀ i, i < cn p1 → (R (ch p1 i)).length + 1 ≤ 2 * lf (ch p1 i) := fun i hi => by
    have a := (bR _ (b5 i hi).1 (b5 i hi).2).1
    have b := (W.2.2 _ (b5 i hi).2).1.1
    omega
  have cl : ∀ i, i ≤ cn p1 → (cat (fun i => R (ch p1 i)) i).length ≤ 20 := fun i hi => by
    have a := cat_len (fun i => R (ch p1 i)) i
    have b := sm_lnn (a := fun i => (R (ch p1 i)).length) (g := fun i => lf (ch p1 i)) (k := 2) (r := 1) i (fun k hk => bl k (by omega))
    have d := sm_mono (fun i => lf (ch p1 i)) hi
    omega
  by_cases w7 : w = 7
  · have er : rfS cn ch R p1 w = cat (fun i => R (ch p1 i)) (cn p1) := by rw [w7]; rfl
    rw [w7] at ew
    have all : ∀ (k i : Nat) (u2 : ab_S), k + i = cn p1 → gP [26, 27, 115] u u2 → mr u2 (cat (fun i => R (ch p1 i)) i).length 0 (some (cat (fun i => R (ch p1 i)) i)) → ab_J p l e (ab_rm 3 0 0) s m args below meth c (MQ below (ab_Q D ca ad ab_nQ s.heap.size (fun u' v => (gP [26, 27, 113, 114, 115] u u' ∧ dOut p1 u u' ∧ md u' p1 (rfS cn ch R p1 w)) ∧ v = none)) args s 0 0 (ab_A ad ab_nQ s.heap.size)) D ca (ab_A ad ab_nQ s.heap.size) s.heap 4 0 0 ad ab_nQ u2 85 [(3, ab_I (nI i)), (2, ab_I (nI 7)), (0, ab_O 17 0), (1, ab_I (nI p1))] [] := by
      intro k
      induction k with
      | zero =>
        intro i u2 hi P2 r2
        obtain rfl : i = cn p1 := by omega
        refine ab_iload_n X 0 d_MO_dissatisfied_85 rfl rfl ?_
        refine ab_aload_n X 2 d_MO_dissatisfied_86 rfl rfl ?_
        refine ab_gR X fl_MO_39 d_MO_dissatisfied_87 (by first | assumption | decide | (show _ < 124; omega) | (show _ < 61; omega) | (show _ < 20; omega)) (P2.1.mo9) ?_
        refine ab_iload_n X 3 d_MO_dissatisfied_90 rfl rfl ?_
        refine ab_iald X (p1) ⟨rfl, rfl⟩ d_MO_dissatisfied_91 (by first | assumption | decide | (show _ < 124; omega) | (show _ < 61; omega) | (show _ < 20; omega)) (rfl) (show p1 < 40 by omega) (ab_ln_lt _ _) ?_
        refine ab_top (P2.ai (by decide) ec) ?_
        refine ab_icmp_ge X 126 d_MO_dissatisfied_92 rfl (fun _ => ?_) (fun hb => absurd ((nI_le (by omega) (by omega))) hb)
        refine ab_lv (List.forall_mem_cons.mpr ⟨List.mem_of_getElem? (i := 2) rfl, List.forall_mem_cons.mpr ⟨List.mem_of_getElem? (i := 3) rfl, fun _ h => absurd h List.not_mem_nil⟩⟩) ?_
        exact fin _ _ P2 (by rw [er]; exact r2)
      | succ k ih2 =>
        intro i u2 hi P2 r2
        obtain ⟨c1', c2⟩ := b5 i (by omega)
        have x0 := bl i (by omega)
        have x1 := cl i (by omega)
        have l1 := (W.2.2 _ c2).1.2.1
        have xR := bR _ c1' c2
        refine ab_iload_n X 0 d_MO_dissatisfied_85 rfl rfl ?_
        refine ab_aload_n X 2 d_MO_dissatisfied_86 rfl rfl ?_
        refine ab_gR X fl_MO_39 d_MO_dissatisfied_87 (by first | assumption | decide | (show _ < 124; omega) | (show _ < 61; omega) | (show _ < 20; omega)) (P2.1.mo9) ?_
        refine ab_iload_n X 3 d_MO_dissatisfied_90 rfl rfl ?_
        refine ab_iald X (p1) ⟨rfl, rfl⟩ d_MO_dissatisfied_91 (by first | assumption | decide | (show _ < 124; omega) | (show _ < 61; omega) | (show _ < 20; omega)) (rfl) (show p1 < 40 by omega) (ab_ln_lt _ _) ?_
        refine ab_top (P2.ai (by decide) ec) ?_
        refine ab_icmp_ge X 126 d_MO_dissatisfied_92 rfl (fun hb => absurd hb ((nI_ge (by omega) (by omega)))) (fun _ => ?_)
        refine ab_iload_n X 1 d_MO_dissatisfied_95 rfl rfl ?_
        refine ab_iconst (v := 5) X d_MO_dissatisfied_96 (by decide) ?_
        refine ab_icmp_lt X 106 d_MO_dissatisfied_97 rfl (fun hb => absurd hb ((by decide))) (fun _ => ?_)
        refine ab_iload_n X 1 d_MO_dissatisfied_100 rfl rfl ?_
        refine ab_bipush (v := 7) X d_MO_dissatisfied_101 (by decide) ?_
        refine ab_icmp_ne X 126 d_MO_dissatisfied_103 rfl (fun hb => absurd ((by decide)) hb) (fun _ => ?_)
        refine ab_aload_n X 2 d_MO_dissatisfied_106 rfl rfl ?_
        refine ab_aload_n X 2 d_MO_dissatisfied_107 rfl rfl ?_
        refine ab_gR X fl_MO_42 d_MO_dissatisfied_108 (by first | assumption | decide | (show _ < 124; omega) | (show _ < 61; omega) | (show _ < 20; omega)) (P2.1.mo10) ?_
        refine ab_iconst (v := 4) X d_MO_dissatisfied_111 (by decide) ?_
        refine ab_iload_n X 3 d_MO_dissatisfied_112 rfl rfl ?_
        refine ab_imul X d_MO_dissatisfied_113 ?_
        refine ab_iload_n X 0 d_MO_dissatisfied_114 rfl rfl ?_
        refine ab_iadd X d_MO_dissatisfied_115 ?_
        refine ab_iald X (4 * p1 + i) ⟨rfl, rfl⟩ d_MO_dissatisfied_116 (by first | assumption | decide | (show _ < 124; omega) | (show _ < 61; omega) | (show _ < 20; omega)) (nI_4a p1 i) (show 4 * p1 + i < 160 by omega) (ab_ln_lt _ _) ?_
        refine ab_top (P2.ai (by decide) (ech i (by omega))) ?_
        refine ab_callV (as := [ab_I (nI (ch p1 i))]) X (fun h => by cases h) (x_MO_no u2 (ch p1 i) _ 0 _ (R (ch p1 i)) P2.1 r2 ((A _ c1' c2).fr P2 (by decide) (by decide)) ⟨by omega, xR.2⟩ (by omega) (by omega) (by decide)) lk_MO_276 d_MO_dissatisfied_117 rfl rfl (by first | assumption | decide | (show _ < 124; omega) | (show _ < 61; omega) | (show _ < 20; omega)) ⟨by first | exact Nat.le_of_ble_eq_true rfl | (simp only [ab_rm]; omega), by first | exact Nat.le_of_ble_eq_true rfl | (simp only [ab_rm]; omega)⟩ ⟨by first | exact Nat.le_of_ble_eq_true rfl | (simp only [ab_rm]; omega), by first | exact Nat.le_of_ble_eq_true rfl | (simp only [ab_rm]; omega)⟩ (Nat.le_of_ble_eq_true rfl) (fun u117 r117 h117 => ?_)
        obtain ⟨⟨q117, r117⟩, rfl⟩ := h117
        have P117 := P2.trans q117 (by decide)
        refine ab_iinc3 X 0 1 2 3 d_MO_dissatisfied_120 rfl (by decide) rfl rfl rfl rfl rfl rfl ?_
        refine ab_goto X 85 d_MO_dissatisfied_123 rfl ?_
        rw [show nI i + Int32.ofInt 1 = nI (i + 1) from nI_1 i]
        rw [← List.length_append] at r117
        exact ih2 (i + 1) _ (by omega) P117 r117
    refine ab_aload_n X 0 d_MO_dissatisfied_0 rfl rfl ?_
    refine ab_gR X fl_MO_45 d_MO_dissatisfied_1 (by first | assumption | decide | (show _ < 124; omega) | (show _ < 61; omega) | (show _ < 20; omega)) (P0.1.mo11) ?_
    refine ab_iload_n X 1 d_MO_dissatisfied_4 rfl rfl ?_
    refine ab_callS (as := [ab_I (nI p1)]) X (fun h => by cases h) (t_MO_d u p1) ls_MO_195 d_MO_dissatisfied_5 rfl rfl ⟨by first | exact Nat.le_of_ble_eq_true rfl | (simp only [ab_rm]; omega), by first | exact Nat.le_of_ble_eq_true rfl | (simp only [ab_rm]; omega)⟩ ⟨by first | exact Nat.le_of_ble_eq_true rfl | (simp only [ab_rm]; omega), by first | exact Nat.le_of_ble_eq_true rfl | (simp only [ab_rm]; omega)⟩ (Nat.le_of_ble_eq_true rfl) (fun u5 r5 h5 => ?_)
    obtain ⟨e5, rfl⟩ := h5
    subst u5
    refine ab_iald X (3 * p1 + 1) ⟨rfl, rfl⟩ d_MO_dissatisfied_8 (by first | assumption | decide | (show _ < 124; omega) | (show _ < 61; omega) | (show _ < 20; omega)) (rfl) (show 3 * p1 + 1 < 72 by omega) (ab_ln_lt _ _) ?_
    refine ab_top ew ?_
    refine ab_istore_n2 X 0 1 d_MO_dissatisfied_9 rfl (by decide) rfl rfl rfl rfl ?_
    refine ab_aload_n X 1 d_MO_dissatisfied_10 rfl rfl ?_
    refine ab_callV (as := []) X (fun h => by cases h) (x_MO_newRow u h) lk_MO_267 d_MO_dissatisfied_11 rfl rfl (by first | assumption | decide | (show _ < 124; omega) | (show _ < 61; omega) | (show _ < 20; omega)) ⟨by first | exact Nat.le_of_ble_eq_true rfl | (simp only [ab_rm]; omega), by first | exact Nat.le_of_ble_eq_true rfl | (simp only [ab_rm]; omega)⟩ ⟨by first | exact Nat.le_of_ble_eq_true rfl | (simp only [ab_rm]; omega), by first | exact Nat.le_of_ble_eq_true rfl | (simp only [ab_rm]; omega)⟩ (Nat.le_of_ble_eq_true rfl) (fun u11 r11 h11 => ?_)
    obtain ⟨⟨q11, r11⟩, rfl⟩ := h11
    have P11 := P0.trans q11 (by decide)
    refine ab_iload_n X 0 d_MO_dissatisfied_14 rfl rfl ?_
    refine ab_iconst (v := 1) X d_MO_dissatisfied_15 (by decide) ?_
    refine ab_icmp_eq X 31 d_MO_dissatisfied_16 rfl (fun hb => absurd hb ((by decide))) (fun _ => ?_)
    refine ab_iload_n X 0 d_MO_dissatisfied_19 rfl rfl ?_
    refine ab_bipush (v := 8) X d_MO_dissatisfied_20 (by decide) ?_
    refine ab_icmp_eq X 31 d_MO_dissatisfied_22 rfl (fun hb => absurd hb ((by decide))) (fun _ => ?_)
    refine ab_iload_n X 0 d_MO_dissatisfied_25 rfl rfl ?_
    refine ab_bipush (v := 6) X d_MO_dissatisfied_26 (by decide) ?_
    refine ab_icmp_ne X 36 d_MO_dissatisfied_28 rfl (fun _ => ?_) (fun hb => absurd hb ((by decide)))
    refine ab_iload_n X 0 d_MO_dissatisfied_36 rfl rfl ?_
    refine ab_iconst (v := 5) X d_MO_dissatisfied_37 (by decide) ?_
    refine ab_icmp_ne X 46 d_MO_dissatisfied_38 rfl (fun _ => ?_) (fun hb => absurd hb ((by decide)))
    refine ab_iload_n X 0 d_MO_dissatisfied_46 rfl rfl ?_
    refine ab_iconst (v := 5) X d_MO_dissatisfied_47 (by decide) ?_
    refine ab_icmp_ne X 63 d_MO_dissatisfied_48 rfl (fun _ => ?_) (fun hb => absurd hb ((by decide)))
    refine ab_iload_n X 0 d_MO_dissatisfied_63 rfl rfl ?_
    refine ab_bipush (v := 6) X d_MO_dissatisfied_64 (by decide) ?_
    refine ab_icmp_ne X 83 d_MO_dissatisfied_66 rfl (fun _ => ?_) (fun hb => absurd hb ((by decide)))
    refine ab_iconst (v := 0) X d_MO_dissatisfied_83 (by decide) ?_
    refine ab_istore_n3 X 0 1 2 d_MO_dissatisfied_84 rfl (by decide) rfl rfl rfl rfl rfl rfl ?_
    exact all (cn p1) 0 _ (by omega) P11 r11
  have hw2 : w = 2 ∨ w = 3 ∨ w = 4 ∨ w = 5 ∨ w = 6 := by unfold wok at hw; omega
  have hk : kd p1 = 5 ∨ kd p1 = 6 := by unfold wok at hw; omega
  obtain ⟨x, y, ex, ey, x1, x2, y1, y2, l0, l1, l2, cx, cy⟩ := W.two T hp hk
  have xR := bR x x1 x2
  have yR := bR y y1 y2
  rcases hw2 with hw2 | hw2 | hw2 | rfl | rfl
  · have er : rfS cn ch R p1 w = cat (fun i => R (ch p1 i)) (cn p1) := by rw [hw2]; rfl
    rw [hw2] at ew
    have all : ∀ (k i : Nat) (u2 : ab_S), k + i = cn p1 → gP [26, 27, 115] u u2 → mr u2 (cat (fun i => R (ch p1 i)) i).length 0 (some (cat (fun i => R (ch p1 i)) i)) → ab_J p l e (ab_rm 3 0 0) s m args below meth c (MQ below (ab_Q D ca ad ab_nQ s.heap.size (fun u' v => (gP [26, 27, 113, 114, 115] u u' ∧ dOut p1 u u' ∧ md u' p1 (rfS cn ch R p1 w)) ∧ v = none)) args s 0 0 (ab_A ad ab_nQ s.heap.size)) D ca (ab_A ad ab_nQ s.heap.size) s.heap 4 0 0 ad ab_nQ u2 85 [(3, ab_I (nI i)), (2, ab_I (nI 2)), (0, ab_O 17 0), (1, ab_I (nI p1))] [] := by
      intro k
      induction k with
      | zero =>
        intro i u2 hi P2 r2
        obtain rfl : i = cn p1 := by omega
        refine ab_iload_n X 0 d_MO_dissatisfied_85 rfl rfl ?_
        refine ab_aload_n X 2 d_MO_dissatisfied_86 rfl rfl ?_
        refine ab_gR X fl_MO_39 d_MO_dissatisfied_87 (by first | assumption | decide | (show _ < 124; omega) | (show _ < 61; omega) | (show _ < 20; omega)) (P2.1.mo9) ?_
        refine ab_iload_n X 3 d_MO_dissatisfied_90 rfl rfl ?_
        refine ab_iald X (p1) ⟨rfl, rfl⟩ d_MO_dissatisfied_91 (by first | assumption | decide | (show _ < 124; omega) | (show _ < 61; omega) | (show _ < 20; omega)) (rfl) (show p1 < 40 by omega) (ab_ln_lt _ _) ?_
        refine ab_top (P2.ai (by decide) ec) ?_
        refine ab_icmp_ge X 126 d_MO_dissatisfied_92 rfl (fun _ => ?_) (fun hb => absurd ((nI_le (by omega) (by omega))) hb)
        refine ab_lv (List.forall_mem_cons.mpr ⟨List.mem_of_getElem? (i := 2) rfl, List.forall_mem_cons.mpr ⟨List.mem_of_getElem? (i := 3) rfl, fun _ h => absurd h List.not_mem_nil⟩⟩) ?_
        exact fin _ _ P2 (by rw [er]; exact r2)
      | succ k ih2 =>
        intro i u2 hi P2 r2
        obtain ⟨c1', c2⟩ := b5 i (by omega)
        have x0 := bl i (by omega)
        have x1 := cl i (by omega)
        have l1 := (W.2.2 _ c2).1.2.1
        have xR := bR _ c1' c2
        refine ab_iload_n X 0 d_MO_dissatisfied_85 rfl rfl ?_
        refine ab_aload_n X 2 d_MO_dissatisfied_86 rfl rfl ?_
        refine ab_gR X fl_MO_39 d_MO_dissatisfied_87 (by first | assumption | decide | (show _ < 124; omega) | (show _ < 61; omega) | (show _ < 20; omega)) (P2.1.mo9) ?_
        refine ab_iload_n X 3 d_MO_dissatisfied_90 rfl rfl ?_
        refine ab_iald X (p1) ⟨rfl, rfl⟩ d_MO_dissatisfied_91 (by first | assumption | decide | (show _ < 124; omega) | (show _ < 61; omega) | (show _ < 20; omega)) (rfl) (show p1 < 40 by omega) (ab_ln_lt _ _) ?_
        refine ab_top (P2.ai (by decide) ec) ?_
        refine ab_icmp_ge X 126 d_MO_dissatisfied_92 rfl (fun hb => absurd hb ((nI_ge (by omega) (by omega)))) (fun _ => ?_)
        refine ab_iload_n X 1 d_MO_dissatisfied_95 rfl rfl ?_
        refine ab_iconst (v := 5) X d_MO_dissatisfied_96 (by decide) ?_
        refine ab_icmp_lt X 106 d_MO_dissatisfied_97 rfl (fun _ => ?_) (fun hb => absurd ((by decide)) hb)
        refine ab_aload_n X 2 d_MO_dissatisfied_106 rfl rfl ?_
        refine ab_aload_n X 2 d_MO_dissatisfied_107 rfl rfl ?_
        refine ab_gR X fl_MO_42 d_MO_dissatisfied_108 (by first | assumption | decide | (show _ < 124; omega) | (show _ < 61; omega) | (show _ < 20; omega)) (P2.1.mo10) ?_
        refine ab_iconst (v := 4) X d_MO_dissatisfied_111 (by decide) ?_
        refine ab_iload_n X 3 d_MO_dissatisfied_112 rfl rfl ?_
        refine ab_imul X d_MO_dissatisfied_113 ?_
        refine ab_iload_n X 0 d_MO_dissatisfied_114 rfl rfl ?_
        refine ab_iadd X d_MO_dissatisfied_115 ?_
        refine ab_iald X (4 * p1 + i) ⟨rfl, rfl⟩ d_MO_dissatisfied_116 (by first | assumption | decide | (show _ < 124; omega) | (show _ < 61; omega) | (show _ < 20; omega)) (nI_4a p1 i) (show 4 * p1 + i < 160 by omega) (ab_ln_lt _ _) ?_
        refine ab_top (P2.ai (by decide) (ech i (by omega))) ?_
        refine ab_callV (as := [ab_I (nI (ch p1 i))]) X (fun h => by cases h) (x_MO_no u2 (ch p1 i) _ 0 _ (R (ch p1 i)) P2.1 r2 ((A _ c1' c2).fr P2 (by decide) (by decide)) ⟨by omega, xR.2⟩ (by omega) (by omega) (by decide)) lk_MO_276 d_MO_dissatisfied_117 rfl rfl (by first | assumption | decide | (show _ < 124; omega) | (show _ < 61; omega) | (show _ < 20; omega)) ⟨by first | exact Nat.le_of_ble_eq_true rfl | (simp only [ab_rm]; omega), by first | exact Nat.le_of_ble_eq_true rfl | (simp only [ab_rm]; omega)⟩ ⟨by first | exact Nat.le_of_ble_eq_true rfl | (simp only [ab_rm]; omega), by first | exact Nat.le_of_ble_eq_true rfl | (simp only [ab_rm]; omega)⟩ (Nat.le_of_ble_eq_true rfl) (fun u117 r117 h117 => ?_)
        obtain ⟨⟨q117, r117⟩, rfl⟩ := h117
        have P117 := P2.trans q117 (by decide)
        refine ab_iinc3 X 0 1 2 3 d_MO_dissatisfied_120 rfl (by decide) rfl rfl rfl rfl rfl rfl ?_
        refine ab_goto X 85 d_MO_dissatisfied_123 rfl ?_
        rw [show nI i + Int32.ofInt 1 = nI (i + 1) from nI_1 i]
        rw [← List.length_append] at r117
        exact ih2 (i + 1) _ (by omega) P117 r117
    refine ab_aload_n X 0 d_MO_dissatisfied_0 rfl rfl ?_
    refine ab_gR X fl_MO_45 d_MO_dissatisfied_1 (by first | assumption | decide | (show _ < 124; omega) | (show _ < 61; omega) | (show _ < 20; omega)) (P0.1.mo11) ?_
    refine ab_iload_n X 1 d_MO_dissatisfied_4 rfl rfl ?_
    refine ab_callS (as := [ab_I (nI p1)]) X (fun h => by cases h) (t_MO_d u p1) ls_MO_195 d_MO_dissatisfied_5 rfl rfl ⟨by first | exact Nat.le_of_ble_eq_true rfl | (simp only [ab_rm]; omega), by first | exact Nat.le_of_ble_eq_true rfl | (simp only [ab_rm]; omega)⟩ ⟨by first | exact Nat.le_of_ble_eq_true rfl | (simp only [ab_rm]; omega), by first | exact Nat.le_of_ble_eq_true rfl | (simp only [ab_rm]; omega)⟩ (Nat.le_of_ble_eq_true rfl) (fun u5 r5 h5 => ?_)
    obtain ⟨e5, rfl⟩ := h5
    subst u5
    refine ab_iald X (3 * p1 + 1) ⟨rfl, rfl⟩ d_MO_dissatisfied_8 (by first | assumption | decide | (show _ < 124; omega) | (show _ < 61; omega) | (show _ < 20; omega)) (rfl) (show 3 * p1 + 1 < 72 by omega) (ab_ln_lt _ _) ?_
    refine ab_top ew ?_
    refine ab_istore_n2 X 0 1 d_MO_dissatisfied_9 rfl (by decide) rfl rfl rfl rfl ?_
    refine ab_aload_n X 1 d_MO_dissatisfied_10 rfl rfl ?_
    refine ab_callV (as := []) X (fun h => by cases h) (x_MO_newRow u h) lk_MO_267 d_MO_dissatisfied_11 rfl rfl (by first | assumption | decide | (show _ < 124; omega) | (show _ < 61; omega) | (show _ < 20; omega)) ⟨by first | exact Nat.le_of_ble_eq_true rfl | (simp only [ab_rm]; omega), by first | exact Nat.le_of_ble_eq_true rfl | (simp only [ab_rm]; omega)⟩ ⟨by first | exact Nat.le_of_ble_eq_true rfl | (simp only [ab_rm]; omega), by first | exact Nat.le_of_ble_eq_true rfl | (simp only [ab_rm]; omega)⟩ (Nat.le_of_ble_eq_true rfl) (fun u11 r11 h11 => ?_)
    obtain ⟨⟨q11, r11⟩, rfl⟩ := h11
    have P11 := P0.trans q11 (by decide)
    refine ab_iload_n X 0 d_MO_dissatisfied_14 rfl rfl ?_
    refine ab_iconst (v := 1) X d_MO_dissatisfied_15 (by decide) ?_
    refine ab_icmp_eq X 31 d_MO_dissatisfied_16 rfl (fun hb => absurd hb ((by decide))) (fun _ => ?_)
    refine ab_iload_n X 0 d_MO_dissatisfied_19 rfl rfl ?_
    refine ab_bipush (v := 8) X d_MO_dissatisfied_20 (by decide) ?_
    refine ab_icmp_eq X 31 d_MO_dissatisfied_22 rfl (fun hb => absurd hb ((by decide))) (fun _ => ?_)
    refine ab_iload_n X 0 d_MO_dissatisfied_25 rfl rfl ?_
    refine ab_bipush (v := 6) X d_MO_dissatisfied_26 (by decide) ?_
    refine ab_icmp_ne X 36 d_MO_dissatisfied_28 rfl (fun _ => ?_) (fun hb => absurd hb ((by decide)))
    refine ab_iload_n X 0 d_MO_dissatisfied_36 rfl rfl ?_
    refine ab_iconst (v := 5) X d_MO_dissatisfied_37 (by decide) ?_
    refine ab_icmp_ne X 46 d_MO_dissatisfied_38 rfl (fun _ => ?_) (fun hb => absurd hb ((by decide)))
    refine ab_iload_n X 0 d_MO_dissatisfied_46 rfl rfl ?_
    refine ab_iconst (v := 5) X d_MO_dissatisfied_47 (by decide) ?_
    refine ab_icmp_ne X 63 d_MO_dissatisfied_48 rfl (fun _ => ?_) (fun hb => absurd hb ((by decide)))
    refine ab_iload_n X 0 d_MO_dissatisfied_63 rfl rfl ?_
    refine ab_bipush (v := 6) X d_MO_dissatisfied_64 (by decide) ?_
    refine ab_icmp_ne X 83 d_MO_dissatisfied_66 rfl (fun _ => ?_) (fun hb => absurd hb ((by decide)))
    refine ab_iconst (v := 0) X d_MO_dissatisfied_83 (by decide) ?_
    refine ab_istore_n3 X 0 1 2 d_MO_dissatisfied_84 rfl (by decide) rfl rfl rfl rfl rfl rfl ?_
    exact all (cn p1) 0 _ (by omega) P11 r11
  · have er : rfS cn ch R p1 w = cat (fun i => R (ch p1 i)) (cn p1) := by rw [hw2]; rfl
    rw [hw2] at ew
    have all : ∀ (k i : Nat) (u2 : ab_S), k + i = cn p1 → gP [26, 27, 115] u u2 → mr u2 (cat (fun i => R (ch p1 i)) i).length 0 (some (cat (fun i => R (ch p1 i)) i)) → ab_J p l e (ab_rm 3 0 0) s m args below meth c (MQ below (ab_Q D ca ad ab_nQ s.heap.size (fun u' v => (gP [26, 27, 113, 114, 115] u u' ∧ dOut p1 u u' ∧ md u' p1 (rfS cn ch R p1 w)) ∧ v = none)) args s 0 0 (ab_A ad ab_nQ s.heap.size)) D ca (ab_A ad ab_nQ s.heap.size) s.heap 4 0 0 ad ab_nQ u2 85 [(3, ab_I (nI i)), (2, ab_I (nI 3)), (0, ab_O 17 0), (1, ab_I (nI p1))] [] := by
      intro k
      induction k with
      | zero =>
        intro i u2 hi P2 r2
        obtain rfl : i = cn p1 := by omega
        refine ab_iload_n X 0 d_MO_dissatisfied_85 rfl rfl ?_
        refine ab_aload_n X 2 d_MO_dissatisfied_86 rfl rfl ?_
        refine ab_gR X fl_MO_39 d_MO_dissatisfied_87 (by first | assumption | decide | (show _ < 124; omega) | (show _ < 61; omega) | (show _ < 20; omega)) (P2.1.mo9) ?_
        refine ab_iload_n X 3 d_MO_dissatisfied_90 rfl rfl ?_
        refine ab_iald X (p1) ⟨rfl, rfl⟩ d_MO_dissatisfied_91 (by first | assumption | decide | (show _ < 124; omega) | (show _ < 61; omega) | (show _ < 20; omega)) (rfl) (show p1 < 40 by omega) (ab_ln_lt _ _) ?_
        refine ab_top (P2.ai (by decide) ec) ?_
        refine ab_icmp_ge X 126 d_MO_dissatisfied_92 rfl (fun _ => ?_) (fun hb => absurd ((nI_le (by omega) (by omega))) hb)
        refine ab_lv (List.forall_mem_cons.mpr ⟨List.mem_of_getElem? (i := 2) rfl, List.forall_mem_cons.mpr ⟨List.mem_of_getElem? (i := 3) rfl, fun _ h => absurd h List.not_mem_nil⟩⟩) ?_
        exact fin _ _ P2 (by rw [er]; exact r2)
      | succ k ih2 =>
        intro i u2 hi P2 r2
        obtain ⟨c1', c2⟩ := b5 i (by omega)
        have x0 := bl i (by omega)
        have x1 := cl i (by omega)
        have l1 := (W.2.2 _ c2).1.2.1
        have xR := bR _ c1' c2
        refine ab_iload_n X 0 d_MO_dissatisfied_85 rfl rfl ?_
        refine ab_aload_n X 2 d_MO_dissatisfied_86 rfl rfl ?_
        refine ab_gR X fl_MO_39 d_MO_dissatisfied_87 (by first | assumption | decide | (show _ < 124; omega) | (show _ < 61; omega) | (show _ < 20; omega)) (P2.1.mo9) ?_
        refine ab_iload_n X 3 d_MO_dissatisfied_90 rfl rfl ?_
        refine ab_iald X (p1) ⟨rfl, rfl⟩ d_MO_dissatisfied_91 (by first | assumption | decide | (show _ < 124; omega) | (show _ < 61; omega) | (show _ < 20; omega)) (rfl) (show p1 < 40 by omega) (ab_ln_lt _ _) ?_
        refine ab_top (P2.ai (by decide) ec) ?_
        refine ab_icmp_ge X 126 d_MO_dissatisfied_92 rfl (fun hb => absurd hb ((nI_ge (by omega) (by omega)))) (fun _ => ?_)
        refine ab_iload_n X 1 d_MO_dissatisfied_95 rfl rfl ?_
        refine ab_iconst (v := 5) X d_MO_dissatisfied_96 (by decide) ?_
        refine ab_icmp_lt X 106 d_MO_dissatisfied_97 rfl (fun _ => ?_) (fun hb => absurd ((by decide)) hb)
        refine ab_aload_n X 2 d_MO_dissatisfied_106 rfl rfl ?_
        refine ab_aload_n X 2 d_MO_dissatisfied_107 rfl rfl ?_
        refine ab_gR X fl_MO_42 d_MO_dissatisfied_108 (by first | assumption | decide | (show _ < 124; omega) | (show _ < 61; omega) | (show _ < 20; omega)) (P2.1.mo10) ?_
        refine ab_iconst (v := 4) X d_MO_dissatisfied_111 (by decide) ?_
        refine ab_iload_n X 3 d_MO_dissatisfied_112 rfl rfl ?_
        refine ab_imul X d_MO_dissatisfied_113 ?_
        refine ab_iload_n X 0 d_MO_dissatisfied_114 rfl rfl ?_
        refine ab_iadd X d_MO_dissatisfied_115 ?_
        refine ab_iald X (4 * p1 + i) ⟨rfl, rfl⟩ d_MO_dissatisfied_116 (by first | assumption | decide | (show _ < 124; omega) | (show _ < 61; omega) | (show _ < 20; omega)) (nI_4a p1 i) (show 4 * p1 + i < 160 by omega) (ab_ln_lt _ _) ?_
        refine ab_top (P2.ai (by decide) (ech i (by omega))) ?_
        refine ab_callV (as := [ab_I (nI (ch p1 i))]) X (fun h => by cases h) (x_MO_no u2 (ch p1 i) _ 0 _ (R (ch p1 i)) P2.1 r2 ((A _ c1' c2).fr P2 (by decide) (by decide)) ⟨by omega, xR.2⟩ (by omega) (by omega) (by decide)) lk_MO_276 d_MO_dissatisfied_117 rfl rfl (by first | assumption | decide | (show _ < 124; omega) | (show _ < 61; omega) | (show _ < 20; omega)) ⟨by first | exact Nat.le_of_ble_eq_true rfl | (simp only [ab_rm]; omega), by first | exact Nat.le_of_ble_eq_true rfl | (simp only [ab_rm]; omega)⟩ ⟨by first | exact Nat.le_of_ble_eq_true rfl | (simp only [ab_rm]; omega), by first | exact Nat.le_of_ble_eq_true rfl | (simp only [ab_rm]; omega)⟩ (Nat.le_of_ble_eq_true rfl) (fun u117 r117 h117 => ?_)
        obtain ⟨⟨q117, r117⟩, rfl⟩ := h117
        have P117 := P2.trans q117 (by decide)
        refine ab_iinc3 X 0 1 2 3 d_MO_dissatisfied_120 rfl (by decide) rfl rfl rfl rfl rfl rfl ?_
        refine ab_goto X 85 d_MO_dissatisfied_123 rfl ?_
        rw [show nI i + Int32.ofInt 1 = nI (i + 1) from nI_1 i]
        rw [← List.length_append] at r117
        exact ih2 (i + 1) _ (by omega) P117 r117
    refine ab_aload_n X 0 d_MO_dissatisfied_0 rfl rfl ?_
    refine ab_gR X fl_MO_45 d_MO_dissatisfied_1 (by first | assumption | decide | (show _ < 124; omega) | (show _ < 61; omega) | (show _ < 20; omega)) (P0.1.mo11) ?_
    refine ab_iload_n X 1 d_MO_dissatisfied_4 rfl rfl ?_
    refine ab_callS (as := [ab_I (nI p1)]) X (fun h => by cases h) (t_MO_d u p1) ls_MO_195 d_MO_dissatisfied_5 rfl rfl ⟨by first | exact Nat.le_of_ble_eq_true rfl | (simp only [ab_rm]; omega), by first | exact Nat.le_of_ble_eq_true rfl | (simp only [ab_rm]; omega)⟩ ⟨by first | exact Nat.le_of_ble_eq_true rfl | (simp only [ab_rm]; omega), by first | exact Nat.le_of_ble_eq_true rfl | (simp only [ab_rm]; omega)⟩ (Nat.le_of_ble_eq_true rfl) (fun u5 r5 h5 => ?_)
    obtain ⟨e5, rfl⟩ := h5
    subst u5
    refine ab_iald X (3 * p1 + 1) ⟨rfl, rfl⟩ d_MO_dissatisfied_8 (by first | assumption | decide | (show _ < 124; omega) | (show _ < 61; omega) | (show _ < 20; omega)) (rfl) (show 3 * p1 + 1 < 72 by omega) (ab_ln_lt _ _) ?_
    refine ab_top ew ?_
    refine ab_istore_n2 X 0 1 d_MO_dissatisfied_9 rfl (by decide) rfl rfl rfl rfl ?_
    refine ab_aload_n X 1 d_MO_dissatisfied_10 rfl rfl ?_
    refine ab_callV (as := []) X (fun h => by cases h) (x_MO_newRow u h) lk_MO_267 d_MO_dissatisfied_11 rfl rfl (by first | assumption | decide | (show _ < 124; omega) | (show _ < 61; omega) | (show _ < 20; omega)) ⟨by first | exact Nat.le_of_ble_eq_true rfl | (simp only [ab_rm]; omega), by first | exact Nat.le_of_ble_eq_true rfl | (simp only [ab_rm]; omega)⟩ ⟨by first | exact Nat.le_of_ble_eq_true rfl | (simp only [ab_rm]; omega), by first | exact Nat.le_of_ble_eq_true rfl | (simp only [ab_rm]; omega)⟩ (Nat.le_of_ble_eq_true rfl) (fun u11 r11 h11 => ?_)
    obtain ⟨⟨q11, r11⟩, rfl⟩ := h11
    have P11 := P0.trans q11 (by decide)
    refine ab_iload_n X 0 d_MO_dissatisfied_14 rfl rfl ?_
    refine ab_iconst (v := 1) X d_MO_dissatisfied_15 (by decide) ?_
    refine ab_icmp_eq X 31 d_MO_dissatisfied_16 rfl (fun hb => absurd hb ((by decide))) (fun _ => ?_)
    refine ab_iload_n X 0 d_MO_dissatisfied_19 rfl rfl ?_
    refine ab_bipush (v := 8) X d_MO_dissatisfied_20 (by decide) ?_
    refine ab_icmp_eq X 31 d_MO_dissatisfied_22 rfl (fun hb => absurd hb ((by decide))) (fun _ => ?_)
    refine ab_iload_n X 0 d_MO_dissatisfied_25 rfl rfl ?_
    refine ab_bipush (v := 6) X d_MO_dissatisfied_26 (by decide) ?_
    refine ab_icmp_ne X 36 d_MO_dissatisfied_28 rfl (fun _ => ?_) (fun hb => absurd hb ((by decide)))
    refine ab_iload_n X 0 d_MO_dissatisfied_36 rfl rfl ?_
    refine ab_iconst (v := 5) X d_MO_dissatisfied_37 (by decide) ?_
    refine ab_icmp_ne X 46 d_MO_dissatisfied_38 rfl (fun _ => ?_) (fun hb => absurd hb ((by decide)))
    refine ab_iload_n X 0 d_MO_dissatisfied_46 rfl rfl ?_
    refine ab_iconst (v := 5) X d_MO_dissatisfied_47 (by decide) ?_
    refine ab_icmp_ne X 63 d_MO_dissatisfied_48 rfl (fun _ => ?_) (fun hb => absurd hb ((by decide)))
    refine ab_iload_n X 0 d_MO_dissatisfied_63 rfl rfl ?_
    refine ab_bipush (v := 6) X d_MO_dissatisfied_64 (by decide) ?_
    refine ab_icmp_ne X 83 d_MO_dissatisfied_66 rfl (fun _ => ?_) (fun hb => absurd hb ((by decide)))
    refine ab_iconst (v := 0) X d_MO_dissatisfied_83 (by decide) ?_
    refine ab_istore_n3 X 0 1 2 d_MO_dissatisfied_84 rfl (by decide) rfl rfl rfl rfl rfl rfl ?_
    exact all (cn p1) 0 _ (by omega) P11 r11
  · have er : rfS cn ch R p1 w = cat (fun i => R (ch p1 i)) (cn p1) := by rw [hw2]; rfl
    rw [hw2] at ew
    have all : ∀ (k i : Nat) (u2 : ab_S), k + i = cn p1 → gP [26, 27, 115] u u2 → mr u2 (cat (fun i => R (ch p1 i)) i).length 0 (some (cat (fun i => R (ch p1 i)) i)) → ab_J p l e (ab_rm 3 0 0) s m args below meth c (MQ below (ab_Q D ca ad ab_nQ s.heap.size (fun u' v => (gP [26, 27, 113, 114, 115] u u' ∧ dOut p1 u u' ∧ md u' p1 (rfS cn ch R p1 w)) ∧ v = none)) args s 0 0 (ab_A ad ab_nQ s.heap.size)) D ca (ab_A ad ab_nQ s.heap.size) s.heap 4 0 0 ad ab_nQ u2 85 [(3, ab_I (nI i)), (2, ab_I (nI 4)), (0, ab_O 17 0), (1, ab_I (nI p1))] [] := by
      intro k
      induction k with
      | zero =>
        intro i u2 hi P2 r2
        obtain rfl : i = cn p1 := by omega
        refine ab_iload_n X 0 d_MO_dissatisfied_85 rfl rfl ?_
        refine ab_aload_n X 2 d_MO_dissatisfied_86 rfl rfl ?_
        refine ab_gR X fl_MO_39 d_MO_dissatisfied_87 (by first | assumption | decide | (show _ < 124; omega) | (show _ < 61; omega) | (show _ < 20; omega)) (P2.1.mo9) ?_
        refine ab_iload_n X 3 d_MO_dissatisfied_90 rfl rfl ?_
        refine ab_iald X (p1) ⟨rfl, rfl⟩ d_MO_dissatisfied_91 (by first | assumption | decide | (show _ < 124; omega) | (show _ < 61; omega) | (show _ < 20; omega)) (rfl) (show p1 < 40 by omega) (ab_ln_lt _ _) ?_
        refine ab_top (P2.ai (by decide) ec) ?_
        refine ab_icmp_ge X 126 d_MO_dissatisfied_92 rfl (fun _ => ?_) (fun hb => absurd ((nI_le (by omega) (by omega))) hb)
        refine ab_lv (List.forall_mem_cons.mpr ⟨List.mem_of_getElem? (i := 2) rfl, List.forall_mem_cons.mpr ⟨List.mem_of_getElem? (i := 3) rfl, fun _ h => absurd h List.not_mem_nil⟩⟩) ?_
        exact fin _ _ P2 (by rw [er]; exact r2)
      | succ k ih2 =>
        intro i u2 hi P2 r2
        obtain ⟨c1', c2⟩ := b5 i (by omega)
        have x0 := bl i (by omega)
        have x1 := cl i (by omega)
        have l1 := (W.2.2 _ c2).1.2.1
        have xR := bR _ c1' c2
        refine ab_iload_n X 0 d_MO_dissatisfied_85 rfl rfl ?_
        refine ab_aload_n X 2 d_MO_dissatisfied_86 rfl rfl ?_
        refine ab_gR X fl_MO_39 d_MO_dissatisfied_87 (by first | assumption | decide | (show _ < 124; omega) | (show _ < 61; omega) | (show _ < 20; omega)) (P2.1.mo9) ?_
        refine ab_iload_n X 3 d_MO_dissatisfied_90 rfl rfl ?_
        refine ab_iald X (p1) ⟨rfl, rfl⟩ d_MO_dissatisfied_91 (by first | assumption | decide | (show _ < 124; omega) | (show _ < 61; omega) | (show _ < 20; omega)) (rfl) (show p1 < 40 by omega) (ab_ln_lt _ _) ?_
        refine ab_top (P2.ai (by decide) ec) ?_
        refine ab_icmp_ge X 126 d_MO_dissatisfied_92 rfl (fun hb => absurd hb ((nI_ge (by omega) (by omega)))) (fun _ => ?_)
        refine ab_iload_n X 1 d_MO_dissatisfied_95 rfl rfl ?_
        refine ab_iconst (v := 5) X d_MO_dissatisfied_96 (by decide) ?_
        refine ab_icmp_lt X 106 d_MO_dissatisfied_97 rfl (fun _ => ?_) (fun hb => absurd ((by decide)) hb)
        refine ab_aload_n X 2 d_MO_dissatisfied_106 rfl rfl ?_
        refine ab_aload_n X 2 d_MO_dissatisfied_107 rfl rfl ?_
        refine ab_gR X fl_MO_42 d_MO_dissatisfied_108 (by first | assumption | decide | (show _ < 124; omega) | (show _ < 61; omega) | (show _ < 20; omega)) (P2.1.mo10) ?_
        refine ab_iconst (v := 4) X d_MO_dissatisfied_111 (by decide) ?_
        refine ab_iload_n X 3 d_MO_dissatisfied_112 rfl rfl ?_
        refine ab_imul X d_MO_dissatisfied_113 ?_
        refine ab_iload_n X 0 d_MO_dissatisfied_114 rfl rfl ?_
        refine ab_iadd X d_MO_dissatisfied_115 ?_
        refine ab_iald X (4 * p1 + i) ⟨rfl, rfl⟩ d_MO_dissatisfied_116 (by first | assumption | decide | (show _ < 124; omega) | (show _ < 61; omega) | (show _ < 20; omega)) (nI_4a p1 i) (show 4 * p1 + i < 160 by omega) (ab_ln_lt _ _) ?_
        refine ab_top (P2.ai (by decide) (ech i (by omega))) ?_
        refine ab_callV (as := [ab_I (nI (ch p1 i))]) X (fun h => by cases h) (x_MO_no u2 (ch p1 i) _ 0 _ (R (ch p1 i)) P2.1 r2 ((A _ c1' c2).fr P2 (by decide) (by decide)) ⟨by omega, xR.2⟩ (by omega) (by omega) (by decide)) lk_MO_276 d_MO_dissatisfied_117 rfl rfl (by first | assumption | decide | (show _ < 124; omega) | (show _ < 61; omega) | (show _ < 20; omega)) ⟨by first | exact Nat.le_of_ble_eq_true rfl | (simp only [ab_rm]; omega), by first | exact Nat.le_of_ble_eq_true rfl | (simp only [ab_rm]; omega)⟩ ⟨by first | exact Nat.le_of_ble_eq_true rfl | (simp only [ab_rm]; omega), by first | exact Nat.le_of_ble_eq_true rfl | (simp only [ab_rm]; omega)⟩ (Nat.le_of_ble_eq_true rfl) (fun u117 r117 h117 => ?_)
        obtain ⟨⟨q117, r117⟩, rfl⟩ := h117
        have P117 := P2.trans q117 (by decide)
        refine ab_iinc3 X 0 1 2 3 d_MO_dissatisfied_120 rfl (by decide) rfl rfl rfl rfl rfl rfl ?_
        refine ab_goto X 85 d_MO_dissatisfied_123 rfl ?_
        rw [show nI i + Int32.ofInt 1 = nI (i + 1) from nI_1 i]
        rw [← List.length_append] at r117
        exact ih2 (i + 1) _ (by omega) P117 r117
    refine ab_aload_n X 0 d_MO_dissatisfied_0 rfl rfl ?_
    refine ab_gR X fl_MO_45 d_MO_dissatisfied_1 (by first | assumption | decide | (show _ < 124; omega) | (show _ < 61; omega) | (show _ < 20; omega)) (P0.1.mo11) ?_
    refine ab_iload_n X 1 d_MO_dissatisfied_4 rfl rfl ?_
    refine ab_callS (as := [ab_I (nI p1)]) X (fun h => by cases h) (t_MO_d u p1) ls_MO_195 d_MO_dissatisfied_5 rfl rfl ⟨by first | exact Nat.le_of_ble_eq_true rfl | (simp only [ab_rm]; omega), by first | exact Nat.le_of_ble_eq_true rfl | (simp only [ab_rm]; omega)⟩ ⟨by first | exact Nat.le_of_ble_eq_true rfl | (simp only [ab_rm]; omega), by first | exact Nat.le_of_ble_eq_true rfl | (simp only [ab_rm]; omega)⟩ (Nat.le_of_ble_eq_true rfl) (fun u5 r5 h5 => ?_)
    obtain ⟨e5, rfl⟩ := h5
    subst u5
    refine ab_iald X (3 * p1 + 1) ⟨rfl, rfl⟩ d_MO_dissatisfied_8 (by first | assumption | decide | (show _ < 124; omega) | (show _ < 61; omega) | (show _ < 20; omega)) (rfl) (show 3 * p1 + 1 < 72 by omega) (ab_ln_lt _ _) ?_
    refine ab_top ew ?_
    refine ab_istore_n2 X 0 1 d_MO_dissatisfied_9 rfl (by decide) rfl rfl rfl rfl ?_
    refine ab_aload_n X 1 d_MO_dissatisfied_10 rfl rfl ?_
    refine ab_callV (as := []) X (fun h => by cases h) (x_MO_newRow u h) lk_MO_267 d_MO_dissatisfied_11 rfl rfl (by first | assumption | decide | (show _ < 124; omega) | (show _ < 61; omega) | (show _ < 20; omega)) ⟨by first | exact Nat.le_of_ble_eq_true rfl | (simp only [ab_rm]; omega), by first | exact Nat.le_of_ble_eq_true rfl | (simp only [ab_rm]; omega)⟩ ⟨by first | exact Nat.le_of_ble_eq_true rfl | (simp only [ab_rm]; omega), by first | exact Nat.le_of_ble_eq_true rfl | (simp only [ab_rm]; omega)⟩ (Nat.le_of_ble_eq_true rfl) (fun u11 r11 h11 => ?_)
    obtain ⟨⟨q11, r11⟩, rfl⟩ := h11
    have P11 := P0.trans q11 (by decide)
    refine ab_iload_n X 0 d_MO_dissatisfied_14 rfl rfl ?_
    refine ab_iconst (v := 1) X d_MO_dissatisfied_15 (by decide) ?_
    refine ab_icmp_eq X 31 d_MO_dissatisfied_16 rfl (fun hb => absurd hb ((by decide))) (fun _ => ?_)
    refine ab_iload_n X 0 d_MO_dissatisfied_19 rfl rfl ?_
    refine ab_bipush (v := 8) X d_MO_dissatisfied_20 (by decide) ?_
    refine ab_icmp_eq X 31 d_MO_dissatisfied_22 rfl (fun hb => absurd hb ((by decide))) (fun _ => ?_)
    refine ab_iload_n X 0 d_MO_dissatisfied_25 rfl rfl ?_
    refine ab_bipush (v := 6) X d_MO_dissatisfied_26 (by decide) ?_
    refine ab_icmp_ne X 36 d_MO_dissatisfied_28 rfl (fun _ => ?_) (fun hb => absurd hb ((by decide)))
    refine ab_iload_n X 0 d_MO_dissatisfied_36 rfl rfl ?_
    refine ab_iconst (v := 5) X d_MO_dissatisfied_37 (by decide) ?_
    refine ab_icmp_ne X 46 d_MO_dissatisfied_38 rfl (fun _ => ?_) (fun hb => absurd hb ((by decide)))
    refine ab_iload_n X 0 d_MO_dissatisfied_46 rfl rfl ?_
    refine ab_iconst (v := 5) X d_MO_dissatisfied_47 (by decide) ?_
    refine ab_icmp_ne X 63 d_MO_dissatisfied_48 rfl (fun _ => ?_) (fun hb => absurd hb ((by decide)))
    refine ab_iload_n X 0 d_MO_dissatisfied_63 rfl rfl ?_
    refine ab_bipush (v := 6) X d_MO_dissatisfied_64 (by decide) ?_
    refine ab_icmp_ne X 83 d_MO_dissatisfied_66 rfl (fun _ => ?_) (fun hb => absurd hb ((by decide)))
    refine ab_iconst (v := 0) X d_MO_dissatisfied_83 (by decide) ?_
    refine ab_istore_n3 X 0 1 2 d_MO_dissatisfied_84 rfl (by decide) rfl rfl rfl rfl rfl rfl ?_
    exact all (cn p1) 0 _ (by omega) P11 r11
  · have er : rfS cn ch R p1 5 = [1] ++ R x := by rw [cx]; rfl
    refine ab_aload_n X 0 d_MO_dissatisfied_0 rfl rfl ?_
    refine ab_gR X fl_MO_45 d_MO_dissatisfied_1 (by first | assumption | decide | (show _ < 124; omega) | (show _ < 61; omega) | (show _ < 20; omega)) (P0.1.mo11) ?_
    refine ab_iload_n X 1 d_MO_dissatisfied_4 rfl rfl ?_
    refine ab_callS (as := [ab_I (nI p1)]) X (fun h => by cases h) (t_MO_d u p1) ls_MO_195 d_MO_dissatisfied_5 rfl rfl ⟨by first | exact Nat.le_of_ble_eq_true rfl | (simp only [ab_rm]; omega), by first | exact Nat.le_of_ble_eq_true rfl | (simp only [ab_rm]; omega)⟩ ⟨by first | exact Nat.le_of_ble_eq_true rfl | (simp only [ab_rm]; omega), by first | exact Nat.le_of_ble_eq_true rfl | (simp only [ab_rm]; omega)⟩ (Nat.le_of_ble_eq_true rfl) (fun u5 r5 h5 => ?_)
    obtain ⟨e5, rfl⟩ := h5
    subst u5
    refine ab_iald X (3 * p1 + 1) ⟨rfl, rfl⟩ d_MO_dissatisfied_8 (by first | assumption | decide | (show _ < 124; omega) | (show _ < 61; omega) | (show _ < 20; omega)) (rfl) (show 3 * p1 + 1 < 72 by omega) (ab_ln_lt _ _) ?_
    refine ab_top ew ?_
    refine ab_istore_n2 X 0 1 d_MO_dissatisfied_9 rfl (by decide) rfl rfl rfl rfl ?_
    refine ab_aload_n X 1 d_MO_dissatisfied_10 rfl rfl ?_
    refine ab_callV (as := []) X (fun h => by cases h) (x_MO_newRow u h) lk_MO_267 d_MO_dissatisfied_11 rfl rfl (by first | assumption | decide | (show _ < 124; omega) | (show _ < 61; omega) | (show _ < 20; omega)) ⟨by first | exact Nat.le_of_ble_eq_true rfl | (simp only [ab_rm]; omega), by first | exact Nat.le_of_ble_eq_true rfl | (simp only [ab_rm]; omega)⟩ ⟨by first | exact Nat.le_of_ble_eq_true rfl | (simp only [ab_rm]; omega), by first | exact Nat.le_of_ble_eq_true rfl | (simp only [ab_rm]; omega)⟩ (Nat.le_of_ble_eq_true rfl) (fun u11 r11 h11 => ?_)
    obtain ⟨⟨q11, r11⟩, rfl⟩ := h11
    have P11 := P0.trans q11 (by decide)
    refine ab_iload_n X 0 d_MO_dissatisfied_14 rfl rfl ?_
    refine ab_iconst (v := 1) X d_MO_dissatisfied_15 (by decide) ?_
    refine ab_icmp_eq X 31 d_MO_dissatisfied_16 rfl (fun hb => absurd hb ((by decide))) (fun _ => ?_)
    refine ab_iload_n X 0 d_MO_dissatisfied_19 rfl rfl ?_
    refine ab_bipush (v := 8) X d_MO_dissatisfied_20 (by decide) ?_
    refine ab_icmp_eq X 31 d_MO_dissatisfied_22 rfl (fun hb => absurd hb ((by decide))) (fun _ => ?_)
    refine ab_iload_n X 0 d_MO_dissatisfied_25 rfl rfl ?_
    refine ab_bipush (v := 6) X d_MO_dissatisfied_26 (by decide) ?_
    refine ab_icmp_ne X 36 d_MO_dissatisfied_28 rfl (fun _ => ?_) (fun hb => absurd hb ((by decide)))
    refine ab_iload_n X 0 d_MO_dissatisfied_36 rfl rfl ?_
    refine ab_iconst (v := 5) X d_MO_dissatisfied_37 (by decide) ?_
    refine ab_icmp_ne X 46 d_MO_dissatisfied_38 rfl (fun hb => absurd ((by decide)) hb) (fun _ => ?_)
    refine ab_aload_n X 1 d_MO_dissatisfied_41 rfl rfl ?_
    refine ab_iconst (v := 1) X d_MO_dissatisfied_42 (by decide) ?_
    refine ab_callV (as := [ab_I (nI 1)]) X (fun h => by cases h) (x_MO_item1 u11 1 0 0 (some []) P11.1 r11 itm1 (by decide) (by decide)) lk_MO_264 d_MO_dissatisfied_43 rfl rfl (by first | assumption | decide | (show _ < 124; omega) | (show _ < 61; omega) | (show _ < 20; omega)) ⟨by first | exact Nat.le_of_ble_eq_true rfl | (simp only [ab_rm]; omega), by first | exact Nat.le_of_ble_eq_true rfl | (simp only [ab_rm]; omega)⟩ ⟨by first | exact Nat.le_of_ble_eq_true rfl | (simp only [ab_rm]; omega), by first | exact Nat.le_of_ble_eq_true rfl | (simp only [ab_rm]; omega)⟩ (Nat.le_of_ble_eq_true rfl) (fun u43 r43 h43 => ?_)
    obtain ⟨⟨q43, r43⟩, rfl⟩ := h43
    have P43 := P11.trans q43 (by decide)
    refine ab_iload_n X 0 d_MO_dissatisfied_46 rfl rfl ?_
    refine ab_iconst (v := 5) X d_MO_dissatisfied_47 (by decide) ?_
    refine ab_icmp_ne X 63 d_MO_dissatisfied_48 rfl (fun hb => absurd ((by decide)) hb) (fun _ => ?_)
    refine ab_aload_n X 1 d_MO_dissatisfied_51 rfl rfl ?_
    refine ab_aload_n X 1 d_MO_dissatisfied_52 rfl rfl ?_
    refine ab_gR X fl_MO_42 d_MO_dissatisfied_53 (by first | assumption | decide | (show _ < 124; omega) | (show _ < 61; omega) | (show _ < 20; omega)) (P43.1.mo10) ?_
    refine ab_iconst (v := 4) X d_MO_dissatisfied_56 (by decide) ?_
    refine ab_iload_n X 2 d_MO_dissatisfied_57 rfl rfl ?_
    refine ab_imul X d_MO_dissatisfied_58 ?_
    refine ab_iald X (4 * p1) ⟨rfl, rfl⟩ d_MO_dissatisfied_59 (by first | assumption | decide | (show _ < 124; omega) | (show _ < 61; omega) | (show _ < 20; omega)) (nI_4m p1) (show 4 * p1 < 160 by omega) (ab_ln_lt _ _) ?_
    refine ab_top (P43.ai (by decide) ex) ?_
    refine ab_callV (as := [ab_I (nI x)]) X (fun h => by cases h) (x_MO_no u43 x (0 + 1) 0 (some [1]) (R x) P43.1 r43 ((A x x1 x2).fr P43 (by decide) (by decide)) ⟨by omega, xR.2⟩ (by omega) (by omega) (by decide)) lk_MO_276 d_MO_dissatisfied_60 rfl rfl (by first | assumption | decide | (show _ < 124; omega) | (show _ < 61; omega) | (show _ < 20; omega)) ⟨by first | exact Nat.le_of_ble_eq_true rfl | (simp only [ab_rm]; omega), by first | exact Nat.le_of_ble_eq_true rfl | (simp only [ab_rm]; omega)⟩ ⟨by first | exact Nat.le_of_ble_eq_true rfl | (simp only [ab_rm]; omega), by first | exact Nat.le_of_ble_eq_true rfl | (simp only [ab_rm]; omega)⟩ (Nat.le_of_ble_eq_true rfl) (fun u60 r60 h60 => ?_)
    obtain ⟨⟨q60, r60⟩, rfl⟩ := h60
    have P60 := P43.trans q60 (by decide)
    refine ab_iload_n X 0 d_MO_dissatisfied_63 rfl rfl ?_
    refine ab_bipush (v := 6) X d_MO_dissatisfied_64 (by decide) ?_
    refine ab_icmp_ne X 83 d_MO_dissatisfied_66 rfl (fun _ => ?_) (fun hb => absurd hb ((by decide)))
    refine ab_iconst (v := 0) X d_MO_dissatisfied_83 (by decide) ?_
    refine ab_istore_n3 X 0 1 2 d_MO_dissatisfied_84 rfl (by decide) rfl rfl rfl rfl rfl rfl ?_
    refine ab_iload_n X 0 d_MO_dissatisfied_85 rfl rfl ?_
    refine ab_aload_n X 2 d_MO_dissatisfied_86 rfl rfl ?_
    refine ab_gR X fl_MO_39 d_MO_dissatisfied_87 (by first | assumption | decide | (show _ < 124; omega) | (show _ < 61; omega) | (show _ < 20; omega)) (P60.1.mo9) ?_
    refine ab_iload_n X 3 d_MO_dissatisfied_90 rfl rfl ?_
    refine ab_iald X (p1) ⟨rfl, rfl⟩ d_MO_dissatisfied_91 (by first | assumption | decide | (show _ < 124; omega) | (show _ < 61; omega) | (show _ < 20; omega)) (rfl) (show p1 < 40 by omega) (ab_ln_lt _ _) ?_
    refine ab_top (P60.ai (by decide) ec) ?_
    refine ab_icmp_ge X 126 d_MO_dissatisfied_92 rfl (fun h92 => ?_) (fun h92 => ?_)
    ·
      refine ab_lv (List.forall_mem_cons.mpr ⟨List.mem_of_getElem? (i := 2) rfl, List.forall_mem_cons.mpr ⟨List.mem_of_getElem? (i := 3) rfl, fun _ h => absurd h List.not_mem_nil⟩⟩) ?_
      exact fin _ _ P60 (by rw [er]; exact r60)
    ·
      refine ab_iload_n X 1 d_MO_dissatisfied_95 rfl rfl ?_
      refine ab_iconst (v := 5) X d_MO_dissatisfied_96 (by decide) ?_
      refine ab_icmp_lt X 106 d_MO_dissatisfied_97 rfl (fun hb => absurd hb ((by decide))) (fun _ => ?_)
      refine ab_iload_n X 1 d_MO_dissatisfied_100 rfl rfl ?_
      refine ab_bipush (v := 7) X d_MO_dissatisfied_101 (by decide) ?_
      refine ab_icmp_ne X 126 d_MO_dissatisfied_103 rfl (fun _ => ?_) (fun hb => absurd hb ((by decide)))
      refine ab_lv (List.forall_mem_cons.mpr ⟨List.mem_of_getElem? (i := 2) rfl, List.forall_mem_cons.mpr ⟨List.mem_of_getElem? (i := 3) rfl, fun _ h => absurd h List.not_mem_nil⟩⟩) ?_
      exact fin _ _ P60 (by rw [er]; exact r60)
  · have er : rfS cn ch R p1 6 = [0] ++ R y := by rw [cy]; rfl
    refine ab_aload_n X 0 d_MO_dissatisfied_0 rfl rfl ?_
    refine ab_gR X fl_MO_45 d_MO_dissatisfied_1 (by first | assumption | decide | (show _ < 124; omega) | (show _ < 61; omega) | (show _ < 20; omega)) (P0.1.mo11) ?_
    refine ab_iload_n X 1 d_MO_dissatisfied_4 rfl rfl ?_
    refine ab_callS (as := [ab_I (nI p1)]) X (fun h => by cases h) (t_MO_d u p1) ls_MO_195 d_MO_dissatisfied_5 rfl rfl ⟨by first | exact Nat.le_of_ble_eq_true rfl | (simp only [ab_rm]; omega), by first | exact Nat.le_of_ble_eq_true rfl | (simp only [ab_rm]; omega)⟩ ⟨by first | exact Nat.le_of_ble_eq_true rfl | (simp only [ab_rm]; omega), by first | exact Nat.le_of_ble_eq_true rfl | (simp only [ab_rm]; omega)⟩ (Nat.le_of_ble_eq_true rfl) (fun u5 r5 h5 => ?_)
    obtain ⟨e5, rfl⟩ := h5
    subst u5
    refine ab_iald X (3 * p1 + 1) ⟨rfl, rfl⟩ d_MO_dissatisfied_8 (by first | assumption | decide | (show _ < 124; omega) | (show _ < 61; omega) | (show _ < 20; omega)) (rfl) (show 3 * p1 + 1 < 72 by omega) (ab_ln_lt _ _) ?_
    refine ab_top ew ?_
    refine ab_istore_n2 X 0 1 d_MO_dissatisfied_9 rfl (by decide) rfl rfl rfl rfl ?_
    refine ab_aload_n X 1 d_MO_dissatisfied_10 rfl rfl ?_
    refine ab_callV (as := []) X (fun h => by cases h) (x_MO_newRow u h) lk_MO_267 d_MO_dissatisfied_11 rfl rfl (by first | assumption | decide | (show _ < 124; omega) | (show _ < 61; omega) | (show _ < 20; omega)) ⟨by first | exact Nat.le_of_ble_eq_true rfl | (simp only [ab_rm]; omega), by first | exact Nat.le_of_ble_eq_true rfl | (simp only [ab_rm]; omega)⟩ ⟨by first | exact Nat.le_of_ble_eq_true rfl | (simp only [ab_rm]; omega), by first | exact Nat.le_of_ble_eq_true rfl | (simp only [ab_rm]; omega)⟩ (Nat.le_of_ble_eq_true rfl) (fun u11 r11 h11 => ?_)
    obtain ⟨⟨q11, r11⟩, rfl⟩ := h11
    have P11 := P0.trans q11 (by decide)
    refine ab_iload_n X 0 d_MO_dissatisfied_14 rfl rfl ?_
    refine ab_iconst (v := 1) X d_MO_dissatisfied_15 (by decide) ?_
    refine ab_icmp_eq X 31 d_MO_dissatisfied_16 rfl (fun hb => absurd hb ((by decide))) (fun _ => ?_)
    refine ab_iload_n X 0 d_MO_dissatisfied_19 rfl rfl ?_
    refine ab_bipush (v := 8) X d_MO_dissatisfied_20 (by decide) ?_
    refine ab_icmp_eq X 31 d_MO_dissatisfied_22 rfl (fun hb => absurd hb ((by decide))) (fun _ => ?_)
    refine ab_iload_n X 0 d_MO_dissatisfied_25 rfl rfl ?_
    refine ab_bipush (v := 6) X d_MO_dissatisfied_26 (by decide) ?_
    refine ab_icmp_ne X 36 d_MO_dissatisfied_28 rfl (fun hb => absurd ((by decide)) hb) (fun _ => ?_)
    refine ab_aload_n X 1 d_MO_dissatisfied_31 rfl rfl ?_
    refine ab_iconst (v := 0) X d_MO_dissatisfied_32 (by decide) ?_
    refine ab_callV (as := [ab_I (nI 0)]) X (fun h => by cases h) (x_MO_item1 u11 0 0 0 (some []) P11.1 r11 itm0 (by decide) (by decide)) lk_MO_264 d_MO_dissatisfied_33 rfl rfl (by first | assumption | decide | (show _ < 124; omega) | (show _ < 61; omega) | (show _ < 20; omega)) ⟨by first | exact Nat.le_of_ble_eq_true rfl | (simp only [ab_rm]; omega), by first | exact Nat.le_of_ble_eq_true rfl | (simp only [ab_rm]; omega)⟩ ⟨by first | exact Nat.le_of_ble_eq_true rfl | (simp only [ab_rm]; omega), by first | exact Nat.le_of_ble_eq_true rfl | (simp only [ab_rm]; omega)⟩ (Nat.le_of_ble_eq_true rfl) (fun u33 r33 h33 => ?_)
    obtain ⟨⟨q33, r33⟩, rfl⟩ := h33
    have P33 := P11.trans q33 (by decide)
    refine ab_iload_n X 0 d_MO_dissatisfied_36 rfl rfl ?_
    refine ab_iconst (v := 5) X d_MO_dissatisfied_37 (by decide) ?_
    refine ab_icmp_ne X 46 d_MO_dissatisfied_38 rfl (fun _ => ?_) (fun hb => absurd hb ((by decide)))
    refine ab_iload_n X 0 d_MO_dissatisfied_46 rfl rfl ?_
    refine ab_iconst (v := 5) X d_MO_dissatisfied_47 (by decide) ?_
    refine ab_icmp_ne X 63 d_MO_dissatisfied_48 rfl (fun _ => ?_) (fun hb => absurd hb ((by decide)))
    refine ab_iload_n X 0 d_MO_dissatisfied_63 rfl rfl ?_
    refine ab_bipush (v := 6) X d_MO_dissatisfied_64 (by decide) ?_
    refine ab_icmp_ne X 83 d_MO_dissatisfied_66 rfl (fun hb => absurd ((by decide)) hb) (fun _ => ?_)
    refine ab_aload_n X 1 d_MO_dissatisfied_69 rfl rfl ?_
    refine ab_aload_n X 1 d_MO_dissatisfied_70 rfl rfl ?_
    refine ab_gR X fl_MO_42 d_MO_dissatisfied_71 (by first | assumption | decide | (show _ < 124; omega) | (show _ < 61; omega) | (show _ < 20; omega)) (P33.1.mo10) ?_
    refine ab_iconst (v := 4) X d_MO_dissatisfied_74 (by decide) ?_
    refine ab_iload_n X 2 d_MO_dissatisfied_75 rfl rfl ?_
    refine ab_imul X d_MO_dissatisfied_76 ?_
    refine ab_iconst (v := 1) X d_MO_dissatisfied_77 (by decide) ?_
    refine ab_iadd X d_MO_dissatisfied_78 ?_
    refine ab_iald X (4 * p1 + 1) ⟨rfl, rfl⟩ d_MO_dissatisfied_79 (by first | assumption | decide | (show _ < 124; omega) | (show _ < 61; omega) | (show _ < 20; omega)) (nI_4b p1) (show 4 * p1 + 1 < 160 by omega) (ab_ln_lt _ _) ?_
    refine ab_top (P33.ai (by decide) ey) ?_
    refine ab_callV (as := [ab_I (nI y)]) X (fun h => by cases h) (x_MO_no u33 y (0 + 1) 0 (some [0]) (R y) P33.1 r33 ((A y y1 y2).fr P33 (by decide) (by decide)) ⟨by omega, yR.2⟩ (by omega) (by omega) (by decide)) lk_MO_276 d_MO_dissatisfied_80 rfl rfl (by first | assumption | decide | (show _ < 124; omega) | (show _ < 61; omega) | (show _ < 20; omega)) ⟨by first | exact Nat.le_of_ble_eq_true rfl | (simp only [ab_rm]; omega), by first | exact Nat.le_of_ble_eq_true rfl | (simp only [ab_rm]; omega)⟩ ⟨by first | exact Nat.le_of_ble_eq_true rfl | (simp only [ab_rm]; omega), by first | exact Nat.le_of_ble_eq_true rfl | (simp only [ab_rm]; omega)⟩ (Nat.le_of_ble_eq_true rfl) (fun u80 r80 h80 => ?_)
    obtain ⟨⟨q80, r80⟩, rfl⟩ := h80
    have P80 := P33.trans q80 (by decide)
    refine ab_iconst (v := 0) X d_MO_dissatisfied_83 (by decide) ?_
    refine ab_istore_n3 X 0 1 2 d_MO_dissatisfied_84 rfl (by decide) rfl rfl rfl rfl rfl rfl ?_
    refine ab_iload_n X 0 d_MO_dissatisfied_85 rfl rfl ?_
    refine ab_aload_n X 2 d_MO_dissatisfied_86 rfl rfl ?_
    refine ab_gR X fl_MO_39 d_MO_dissatisfied_87 (by first | assumption | decide | (show _ < 124; omega) | (show _ < 61; omega) | (show _ < 20; omega)) (P80.1.mo9) ?_
    refine ab_iload_n X 3 d_MO_dissatisfied_90 rfl rfl ?_
    refine ab_iald X (p1) ⟨rfl, rfl⟩ d_MO_dissatisfied_91 (by first | assumption | decide | (show _ < 124; omega) | (show _ < 61; omega) | (show _ < 20; omega)) (rfl) (show p1 < 40 by omega) (ab_ln_lt _ _) ?_
    refine ab_top (P80.ai (by decide) ec) ?_
    refine ab_icmp_ge X 126 d_MO_dissatisfied_92 rfl (fun h92 => ?_) (fun h92 => ?_)
    ·
      refine ab_lv (List.forall_mem_cons.mpr ⟨List.mem_of_getElem? (i := 2) rfl, List.forall_mem_cons.mpr ⟨List.mem_of_getElem? (i := 3) rfl, fun _ h => absurd h List.not_mem_nil⟩⟩) ?_
      exact fin _ _ P80 (by rw [er]; exact r80)
    ·
      refine ab_iload_n X 1 d_MO_dissatisfied_95 rfl rfl ?_
      refine ab_iconst (v := 5) X d_MO_dissatisfied_96 (by decide) ?_
      refine ab_icmp_lt X 106 d_MO_dissatisfied_97 rfl (fun hb => absurd hb ((by decide))) (fun _ => ?_)
      refine ab_iload_n X 1 d_MO_dissatisfied_100 rfl rfl ?_
      refine ab_bipush (v := 7) X d_MO_dissatisfied_101 (by decide) ?_
      refine ab_icmp_ne X 126 d_MO_dissatisfied_103 rfl (fun _ => ?_) (fun hb => absurd hb ((by decide)))
      refine ab_lv (List.forall_mem_cons.mpr ⟨List.mem_of_getElem? (i := 2) rfl, List.forall_mem_cons.mpr ⟨List.mem_of_getElem? (i := 3) rfl, fun _ h => absurd h List.not_mem_nil⟩⟩) ?_
      exact fin _ _ P80 (by rw [er]; exact r80)
end SaSMSat

