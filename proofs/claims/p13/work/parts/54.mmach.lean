/-! Scripts by their operations: what is begun has an end. -/
def opv (u : ab_S) (k : Nat) : Int32 := u.1 18 9 k / 1000
def ol (u : ab_S) (k : Nat) : Nat → List Int32
  | 0 => []
  | n + 1 => opv u k :: ol u (k + 1) n
theorem ol_app (u : ab_S) (m : Nat) : ∀ (n k : Nat), ol u k (n + m) = ol u k n ++ ol u (k + n) m := by
  intro n
  induction n with
  | zero => intro k; rw [Nat.zero_add]; rfl
  | succ n ih =>
    intro k
    rw [show n + 1 + m = (n + m) + 1 by omega]
    show opv u k :: ol u (k + 1) (n + m) = opv u k :: (ol u (k + 1) n ++ ol u (k + (n + 1)) m)
    rw [ih (k + 1), show k + 1 + n = k + (n + 1) by omega]
theorem ol_congr {u u' : ab_S} : ∀ (n k : Nat), (∀ i, k ≤ i → i < k + n → u'.1 18 9 i = u.1 18 9 i) → ol u' k n = ol u k n := by
  intro n
  induction n with
  | zero => intro k _; rfl
  | succ n ih =>
    intro k h
    show opv u' k :: ol u' (k + 1) n = opv u k :: ol u (k + 1) n
    rw [ih (k + 1) (fun i a b => h i (by omega) (by omega)), show opv u' k = opv u k by unfold opv; rw [h k (Nat.le_refl _) (by omega)]]
def st1 (o : Int32) (s : List Nat) : Option (List Nat) := if o = 12 then some (12 :: s) else if o = 15 then some (15 :: s) else if o = 13 then (if s.head? = some 12 then some (13 :: s.tail) else none) else if o = 14 then (if s.head? = some 13 ∨ s.head? = some 15 then some s.tail else none) else some s
def rl : List Int32 → List Nat → Option (List Nat)
  | [], s => some s
  | o :: t, s => (st1 o s).bind (rl t)
theorem rl_app (b : List Int32) : ∀ (a : List Int32) (s : List Nat), rl (a ++ b) s = (rl a s).bind (rl b) := by
  intro a
  induction a with
  | nil => intro s; rfl
  | cons o t ih =>
    intro s
    show (st1 o s).bind (rl (t ++ b)) = ((st1 o s).bind (rl t)).bind (rl b)
    cases st1 o s with
    | none => rfl
    | some s' => exact ih s'
/-- how many words lay something aside -/
def cas : List Int32 → Nat
  | [] => 0
  | o :: t => (if o = 10 then 1 else 0) + cas t
theorem cas_app (b : List Int32) : ∀ a : List Int32, cas (a ++ b) = cas a + cas b := by
  intro a
  induction a with
  | nil => show cas b = 0 + cas b; omega
  | cons o t ih => show (if o = 10 then 1 else 0) + cas (t ++ b) = (if o = 10 then 1 else 0) + cas t + cas b; rw [ih]; omega
def bal (a : List Int32) : Prop := ∀ s, rl a s = some s
theorem bal.app {a b : List Int32} (ha : bal a) (hb : bal b) : bal (a ++ b) := fun s => by rw [rl_app, ha s]; exact hb s
theorem bal_plain {o : Int32} (h12 : ¬ o = 12) (h15 : ¬ o = 15) (h13 : ¬ o = 13) (h14 : ¬ o = 14) : bal [o] := fun s => by
  show (st1 o s).bind (rl []) = some s
  unfold st1
  rw [if_neg h12, if_neg h15, if_neg h13, if_neg h14]
  rfl
theorem bal_if {a b : List Int32} (ha : bal a) (hb : bal b) : bal ([12] ++ a ++ [13] ++ b ++ [14]) := fun s => by
  rw [rl_app, rl_app, rl_app, rl_app, show rl [12] s = some (12 :: s) from rfl]
  show ((((rl a (12 :: s)).bind (rl [13])).bind (rl b)).bind (rl [14])) = some s
  rw [ha, show ((some (12 :: s)).bind (rl [13])) = some (13 :: s) from rfl]
  show ((rl b (13 :: s)).bind (rl [14])) = some s
  rw [hb]; rfl
theorem bal_unless {a : List Int32} (ha : bal a) : bal ([15] ++ a ++ [14]) := fun s => by
  rw [rl_app, rl_app, show rl [15] s = some (15 :: s) from rfl]
  show ((rl a (15 :: s)).bind (rl [14])) = some s
  rw [ha]; rfl
/-- one word further, with e opened since the word b -/
theorem st_up {o : Int32} {e s : List Nat} {b : Nat} {l : List Int32} (ho : o = 12 ∨ o = 15) (h : (st1 o (e ++ b :: s)).bind (rl l) = some []) : ∃ e' : List Nat, e'.length = e.length + 1 ∧ rl l (e' ++ b :: s) = some [] := by
  rcases ho with rfl | rfl
  · exact ⟨12 :: e, rfl, h⟩
  · exact ⟨15 :: e, rfl, h⟩
theorem st_down {e s : List Nat} {b : Nat} {l : List Int32} {x : Int32} (hb : (b = 12 ∧ x = 13) ∨ ((b = 13 ∨ b = 15) ∧ x = 14)) (hx : ¬ (e = [] ∧ (14 : Int32) = x)) (h : (st1 14 (e ++ b :: s)).bind (rl l) = some []) : ∃ e' : List Nat, e.length = e'.length + 1 ∧ rl l (e' ++ b :: s) = some [] := by
  unfold st1 at h
  rw [if_neg (by decide), if_neg (by decide), if_neg (by decide), if_pos rfl] at h
  cases e with
  | nil =>
    rcases hb with ⟨rfl, rfl⟩ | ⟨-, rfl⟩
    · exact absurd h (by simp)
    · exact absurd ⟨rfl, rfl⟩ hx
  | cons a e' =>
    by_cases q : a = 13 ∨ a = 15
    · refine ⟨e', rfl, ?_⟩
      rw [if_pos (by simpa using q)] at h
      exact h
    · rw [if_neg (by simpa using q)] at h
      exact absurd h (by simp)
theorem st_same {o : Int32} {e s : List Nat} {b : Nat} {l : List Int32} {x : Int32} (hb : (b = 12 ∧ x = 13) ∨ ((b = 13 ∨ b = 15) ∧ x = 14)) (hx : ¬ (e = [] ∧ o = x)) (h12 : ¬ o = 12) (h15 : ¬ o = 15) (h14 : ¬ o = 14) (h : (st1 o (e ++ b :: s)).bind (rl l) = some []) : ∃ e' : List Nat, e'.length = e.length ∧ rl l (e' ++ b :: s) = some [] := by
  unfold st1 at h
  rw [if_neg h12, if_neg h15] at h
  by_cases h13 : o = 13
  · rw [if_pos h13] at h
    cases e with
    | nil =>
      rcases hb with ⟨rfl, rfl⟩ | ⟨hb, rfl⟩
      · exact absurd ⟨rfl, h13⟩ hx
      · rw [if_neg (by rcases hb with rfl | rfl <;> simp)] at h
        exact absurd h (by simp)
    | cons a e' =>
      by_cases q : a = 12
      · refine ⟨13 :: e', rfl, ?_⟩
        rw [if_pos (by simpa using q)] at h
        exact h
      · rw [if_neg (by simpa using q)] at h
        exact absurd h (by simp)
  · rw [if_neg h13, if_neg h14] at h
    exact ⟨e, rfl, h⟩
section SaMMach
variable {l : Launch} {D : va_G} {ca : Nat → ClassId}
abbrev b_MO_take : ByteArray := prog_10_method_48_code
def y_MO_take : MethodName := ⟨"PolicyForgeModel", "take", "()I"⟩
theorem d_MO_take_0 : decode b_MO_take 0 = .ok (.aload_n 0, 1) := by decide +kernel
theorem d_MO_take_1 : decode b_MO_take 1 = .ok (.getfield 117, 3) := by decide +kernel
theorem d_MO_take_4 : decode b_MO_take 4 = .ok (.ifCond .ne 10, 3) := by decide +kernel
theorem d_MO_take_7 : decode b_MO_take 7 = .ok (.aload_n 0, 1) := by decide +kernel
theorem d_MO_take_8 : decode b_MO_take 8 = .ok (.iconst 1, 1) := by decide +kernel
theorem d_MO_take_9 : decode b_MO_take 9 = .ok (.putfield 132, 3) := by decide +kernel
theorem d_MO_take_12 : decode b_MO_take 12 = .ok (.iconst 0, 1) := by decide +kernel
theorem d_MO_take_13 : decode b_MO_take 13 = .ok (.ireturn, 1) := by decide +kernel
theorem d_MO_take_14 : decode b_MO_take 14 = .ok (.aload_n 0, 1) := by decide +kernel
theorem d_MO_take_15 : decode b_MO_take 15 = .ok (.dup, 1) := by decide +kernel
theorem d_MO_take_16 : decode b_MO_take 16 = .ok (.getfield 117, 3) := by decide +kernel
theorem d_MO_take_19 : decode b_MO_take 19 = .ok (.iconst 1, 1) := by decide +kernel
theorem d_MO_take_20 : decode b_MO_take 20 = .ok (.isub, 1) := by decide +kernel
theorem d_MO_take_21 : decode b_MO_take 21 = .ok (.putfield 117, 3) := by decide +kernel
theorem d_MO_take_24 : decode b_MO_take 24 = .ok (.aload_n 0, 1) := by decide +kernel
theorem d_MO_take_25 : decode b_MO_take 25 = .ok (.getfield 114, 3) := by decide +kernel
theorem d_MO_take_28 : decode b_MO_take 28 = .ok (.aload_n 0, 1) := by decide +kernel
theorem d_MO_take_29 : decode b_MO_take 29 = .ok (.getfield 117, 3) := by decide +kernel
theorem d_MO_take_32 : decode b_MO_take 32 = .ok (.iaload, 1) := by decide +kernel
theorem d_MO_take_33 : decode b_MO_take 33 = .ok (.ireturn, 1) := by decide +kernel
set_option maxRecDepth 100000 in
set_option maxHeartbeats 1000000 in
theorem s_MO_take (u : ab_S) (t : Nat) (h : mR u.2.1) (ht : t ≤ 128) (et : u.1 17 0 35 = nI t) : ab_C false l D ca y_MO_take b_MO_take 1 (some FieldType.int) 0 ab_nQ u [ab_O 17 0] (fun u' v => (gP [35, 40] u u' ∧ u'.1 17 0 35 = nI (t - 1)) ∧ ∃ x : Int32, (t = 0 → x = 0) ∧ v = some (ab_I x)) := by
  refine ab_C.of (by decide) (Nat.le_of_ble_eq_true rfl) ?_
  intro p e s m args below meth c ad X hZ hr0 hlk
  have P0 : gP [35, 40] u u := gP.rf h
  refine ab_aload_n X 0 d_MO_take_0 rfl rfl ?_
  refine ab_gI X fl_MO_117 d_MO_take_1 (by first | assumption | decide | (show _ < 124; omega) | (show _ < 61; omega) | (show _ < 20; omega)) (et) ?_
  refine ab_if_ne X 14 d_MO_take_4 rfl (fun h4 => ?_) (fun h4 => ?_)
  ·
    have t0 : 0 < t := Nat.pos_of_ne_zero (fun q => h4 (by rw [q]; rfl))
    refine ab_aload_n X 0 d_MO_take_14 rfl rfl ?_
    refine ab_dup X d_MO_take_15 rfl ?_
    refine ab_gI X fl_MO_117 d_MO_take_16 (by first | assumption | decide | (show _ < 124; omega) | (show _ < 61; omega) | (show _ < 20; omega)) (et) ?_
    refine ab_iconst (v := 1) X d_MO_take_19 (by decide) ?_
    refine ab_isub X d_MO_take_20 ?_
    refine ab_top (nI_m1 t0) ?_
    refine ab_putI X fp_MO_117 d_MO_take_21 (by first | assumption | decide | (show _ < 124; omega) | (show _ < 61; omega) | (show _ < 20; omega)) rfl rfl ?_
    refine ab_gen (fun u21 e21 => ?_)
    have P21 : gP [35, 40] u u21 := by rw [e21]; exact P0.ui rfl (by decide)
    refine ab_aload_n X 0 d_MO_take_24 rfl rfl ?_
    refine ab_gR X fl_MO_114 d_MO_take_25 (by first | assumption | decide | (show _ < 124; omega) | (show _ < 61; omega) | (show _ < 20; omega)) (P21.1.mo34) ?_
    refine ab_aload_n X 0 d_MO_take_28 rfl rfl ?_
    refine ab_gI X fl_MO_117 d_MO_take_29 (by first | assumption | decide | (show _ < 124; omega) | (show _ < 61; omega) | (show _ < 20; omega)) ((show _ = nI (t - 1) by rw [e21]; simp [ab_up])) ?_
    refine ab_iald X (t - 1) ⟨rfl, rfl⟩ d_MO_take_32 (by first | assumption | decide | (show _ < 124; omega) | (show _ < 61; omega) | (show _ < 20; omega)) (rfl) (show t - 1 < 128 by omega) (ab_ln_lt _ _) ?_
    exact ab_reti X hr0 hlk d_MO_take_33 ⟨⟨P21, by rw [e21]; simp [ab_up]⟩, _, fun q => absurd q (by omega), rfl⟩
  ·
    have t0 : t = 0 := (nI_eq (b := 0) (by omega) (by omega)).mp h4
    refine ab_aload_n X 0 d_MO_take_7 rfl rfl ?_
    refine ab_iconst (v := 1) X d_MO_take_8 (by decide) ?_
    refine ab_putI X fp_MO_132 d_MO_take_9 (by first | assumption | decide | (show _ < 124; omega) | (show _ < 61; omega) | (show _ < 20; omega)) rfl rfl ?_
    refine ab_gen (fun u9 e9 => ?_)
    have P9 : gP [35, 40] u u9 := by rw [e9]; exact P0.ui rfl (by decide)
    refine ab_iconst (v := 0) X d_MO_take_12 (by decide) ?_
    exact ab_reti X hr0 hlk d_MO_take_13 ⟨⟨P9, by rw [e9, t0]; simpa [ab_up, t0] using et⟩, 0, fun _ => rfl, rfl⟩
abbrev b_MO_takeNumber : ByteArray := prog_10_method_49_code
def y_MO_takeNumber : MethodName := ⟨"PolicyForgeModel", "takeNumber", "()I"⟩
theorem d_MO_takeNumber_0 : decode b_MO_takeNumber 0 = .ok (.aload_n 0, 1) := by decide +kernel
theorem d_MO_takeNumber_1 : decode b_MO_takeNumber 1 = .ok (.invokevirtual 294, 3) := by decide +kernel
theorem d_MO_takeNumber_4 : decode b_MO_takeNumber 4 = .ok (.istore_n 1, 1) := by decide +kernel
theorem d_MO_takeNumber_5 : decode b_MO_takeNumber 5 = .ok (.iload_n 1, 1) := by decide +kernel
theorem d_MO_takeNumber_6 : decode b_MO_takeNumber 6 = .ok (.bipush 9, 2) := by decide +kernel
theorem d_MO_takeNumber_8 : decode b_MO_takeNumber 8 = .ok (.if_icmp .le 8, 3) := by decide +kernel
theorem d_MO_takeNumber_11 : decode b_MO_takeNumber 11 = .ok (.aload_n 0, 1) := by decide +kernel
theorem d_MO_takeNumber_12 : decode b_MO_takeNumber 12 = .ok (.iconst 1, 1) := by decide +kernel
theorem d_MO_takeNumber_13 : decode b_MO_takeNumber 13 = .ok (.putfield 132, 3) := by decide +kernel
theorem d_MO_takeNumber_16 : decode b_MO_takeNumber 16 = .ok (.iload_n 1, 1) := by decide +kernel
theorem d_MO_takeNumber_17 : decode b_MO_takeNumber 17 = .ok (.ireturn, 1) := by decide +kernel
theorem lk_MO_294 : ab_lk "PolicyForgeModel" 294 y_MO_take b_MO_take 1 (some FieldType.int) 0 17 := ⟨⟨rfl, T_MO, 44, rfl⟩, List.forall_mem_cons.mpr ⟨(ab_in 1301 (by decide +kernel) (by decide +kernel)), List.forall_mem_cons.mpr ⟨(ab_in 1303 (by decide +kernel) (by decide +kernel)), List.forall_mem_cons.mpr ⟨(ab_in 87 (by decide +kernel) (by decide +kernel)), List.forall_mem_cons.mpr ⟨(ab_in 100 (by decide +kernel) (by decide +kernel)), List.forall_mem_cons.mpr ⟨(ab_in 1304 (by decide +kernel) (by decide +kernel)), fun _ h => absurd h List.not_mem_nil⟩⟩⟩⟩⟩, ⟨by decide +kernel, by decide +kernel, by decide +kernel⟩, by decide⟩
set_option maxRecDepth 100000 in
set_option maxHeartbeats 1000000 in
theorem s_MO_takeNumber (u : ab_S) (t : Nat) (h : mR u.2.1) (ht : t ≤ 128) (et : u.1 17 0 35 = nI t) : ab_C false l D ca y_MO_takeNumber b_MO_takeNumber 2 (some FieldType.int) 1 ab_nQ u [ab_O 17 0] (fun u' v => (gP [35, 40] u u' ∧ u'.1 17 0 35 = nI (t - 1)) ∧ ∃ x : Int32, (t = 0 → x = 0) ∧ v = some (ab_I x)) := by
  refine ab_C.of (by decide) (Nat.le_of_ble_eq_true rfl) ?_
  intro p e s m args below meth c ad X hZ hr0 hlk
  have P0 : gP [35, 40] u u := gP.rf h
  refine ab_aload_n X 0 d_MO_takeNumber_0 rfl rfl ?_
  refine ab_callV (as := []) X (fun h => by cases h) (s_MO_take u t h ht et) lk_MO_294 d_MO_takeNumber_1 rfl rfl (by first | assumption | decide | (show _ < 124; omega) | (show _ < 61; omega) | (show _ < 20; omega)) ⟨by first | exact Nat.le_of_ble_eq_true rfl | (simp only [ab_rm]; omega), by first | exact Nat.le_of_ble_eq_true rfl | (simp only [ab_rm]; omega)⟩ ⟨by first | exact Nat.le_of_ble_eq_true rfl | (simp only [ab_rm]; omega), by first | exact Nat.le_of_ble_eq_true rfl | (simp only [ab_rm]; omega)⟩ (Nat.le_of_ble_eq_true rfl) (fun u1 r1 h1 => ?_)
  obtain ⟨⟨q1, a1⟩, x1, hx1, rfl⟩ := h1
  have P1 := P0.trans q1 (by decide)
  refine ab_istore_n1 X 0 d_MO_takeNumber_4 rfl (by decide) rfl rfl ?_
  refine ab_iload_n X 0 d_MO_takeNumber_5 rfl rfl ?_
  refine ab_bipush (v := 9) X d_MO_takeNumber_6 (by decide) ?_
  refine ab_icmp_le X 16 d_MO_takeNumber_8 rfl (fun h8 => ?_) (fun h8 => ?_)
  ·
    refine ab_iload_n X 0 d_MO_takeNumber_16 rfl rfl ?_
    first | exact ab_reti X hr0 hlk d_MO_takeNumber_17 ⟨⟨P1, a1⟩, x1, hx1, rfl⟩ | exact ab_reti X hr0 hlk d_MO_takeNumber_17 ⟨⟨P1, by rw [e13]; simpa [ab_up] using a1⟩, x1, hx1, rfl⟩
  ·
    refine ab_aload_n X 1 d_MO_takeNumber_11 rfl rfl ?_
    refine ab_iconst (v := 1) X d_MO_takeNumber_12 (by decide) ?_
    refine ab_putI X fp_MO_132 d_MO_takeNumber_13 (by first | assumption | decide | (show _ < 124; omega) | (show _ < 61; omega) | (show _ < 20; omega)) rfl rfl ?_
    refine ab_gen (fun u13 e13 => ?_)
    have P13 : gP [35, 40] u u13 := by rw [e13]; exact P1.ui rfl (by decide)
    refine ab_iload_n X 0 d_MO_takeNumber_16 rfl rfl ?_
    first | exact ab_reti X hr0 hlk d_MO_takeNumber_17 ⟨⟨P13, a1⟩, x1, hx1, rfl⟩ | exact ab_reti X hr0 hlk d_MO_takeNumber_17 ⟨⟨P13, by rw [e13]; simpa [ab_up] using a1⟩, x1, hx1, rfl⟩
theorem d_MO_putOn_0 : decode b_MO_putOn 0 = .ok (.aload_n 0, 1) := by decide +kernel
theorem d_MO_putOn_1 : decode b_MO_putOn 1 = .ok (.getfield 114, 3) := by decide +kernel
theorem d_MO_putOn_4 : decode b_MO_putOn 4 = .ok (.aload_n 0, 1) := by decide +kernel
theorem d_MO_putOn_5 : decode b_MO_putOn 5 = .ok (.getfield 117, 3) := by decide +kernel
theorem d_MO_putOn_8 : decode b_MO_putOn 8 = .ok (.iload_n 1, 1) := by decide +kernel
theorem d_MO_putOn_9 : decode b_MO_putOn 9 = .ok (.iastore, 1) := by decide +kernel
theorem d_MO_putOn_10 : decode b_MO_putOn 10 = .ok (.aload_n 0, 1) := by decide +kernel
theorem d_MO_putOn_11 : decode b_MO_putOn 11 = .ok (.dup, 1) := by decide +kernel
theorem d_MO_putOn_12 : decode b_MO_putOn 12 = .ok (.getfield 117, 3) := by decide +kernel
theorem d_MO_putOn_15 : decode b_MO_putOn 15 = .ok (.iconst 1, 1) := by decide +kernel
theorem d_MO_putOn_16 : decode b_MO_putOn 16 = .ok (.iadd, 1) := by decide +kernel
theorem d_MO_putOn_17 : decode b_MO_putOn 17 = .ok (.putfield 117, 3) := by decide +kernel
theorem d_MO_putOn_20 : decode b_MO_putOn 20 = .ok (.return_, 1) := by decide +kernel
set_option maxRecDepth 100000 in
set_option maxHeartbeats 1000000 in
theorem s_MO_putOn (u : ab_S) (x : Int32) (t : Nat) (h : mR u.2.1) (ht : t < 128) (et : u.1 17 0 35 = nI t) : ab_C false l D ca y_MO_putOn b_MO_putOn 2 none 0 ab_nQ u [ab_O 17 0, ab_I x] (fun u' v => (gP [35, 118] u u' ∧ u'.1 17 0 35 = nI (t + 1)) ∧ v = none) := by
  refine ab_C.of (by decide) (Nat.le_of_ble_eq_true rfl) ?_
  intro p e s m args below meth c ad X hZ hr0 hlk
  have P0 : gP [35, 118] u u := gP.rf h
  refine ab_aload_n X 0 d_MO_putOn_0 rfl rfl ?_
  refine ab_gR X fl_MO_114 d_MO_putOn_1 (by first | assumption | decide | (show _ < 124; omega) | (show _ < 61; omega) | (show _ < 20; omega)) (P0.1.mo34) ?_
  refine ab_aload_n X 0 d_MO_putOn_4 rfl rfl ?_
  refine ab_gI X fl_MO_117 d_MO_putOn_5 (by first | assumption | decide | (show _ < 124; omega) | (show _ < 61; omega) | (show _ < 20; omega)) (et) ?_
  refine ab_iload_n X 1 d_MO_putOn_8 rfl rfl ?_
  refine ab_iast X (t) ⟨rfl, rfl⟩ d_MO_putOn_9 (by first | assumption | decide | (show _ < 124; omega) | (show _ < 61; omega) | (show _ < 20; omega)) (rfl) (ht) (ab_ln_lt _ _) ?_
  refine ab_gen (fun u9 e9 => ?_)
  have P9 : gP [35, 118] u u9 := by rw [e9]; exact P0.ui rfl (by decide)
  refine ab_aload_n X 0 d_MO_putOn_10 rfl rfl ?_
  refine ab_dup X d_MO_putOn_11 rfl ?_
  refine ab_gI X fl_MO_117 d_MO_putOn_12 (by first | assumption | decide | (show _ < 124; omega) | (show _ < 61; omega) | (show _ < 20; omega)) ((show _ = nI t by rw [e9]; simpa [ab_up] using et)) ?_
  refine ab_iconst (v := 1) X d_MO_putOn_15 (by decide) ?_
  refine ab_iadd X d_MO_putOn_16 ?_
  refine ab_top (nI_1 _) ?_
  refine ab_putI X fp_MO_117 d_MO_putOn_17 (by first | assumption | decide | (show _ < 124; omega) | (show _ < 61; omega) | (show _ < 20; omega)) rfl rfl ?_
  refine ab_gen (fun u17 e17 => ?_)
  have P17 : gP [35, 118] u u17 := by rw [e17]; exact P9.ui rfl (by decide)
  exact ab_retv X hr0 hlk d_MO_putOn_20 ⟨⟨P17, by rw [e17]; simp [ab_up]⟩, rfl⟩
abbrev b_MO_join : ByteArray := prog_10_method_52_code
def y_MO_join : MethodName := ⟨"PolicyForgeModel", "join", "(I)V"⟩
theorem d_MO_join_0 : decode b_MO_join 0 = .ok (.aload_n 0, 1) := by decide +kernel
theorem d_MO_join_1 : decode b_MO_join 1 = .ok (.invokevirtual 298, 3) := by decide +kernel
theorem d_MO_join_4 : decode b_MO_join 4 = .ok (.istore_n 2, 1) := by decide +kernel
theorem d_MO_join_5 : decode b_MO_join 5 = .ok (.aload_n 0, 1) := by decide +kernel
theorem d_MO_join_6 : decode b_MO_join 6 = .ok (.invokevirtual 298, 3) := by decide +kernel
theorem d_MO_join_9 : decode b_MO_join 9 = .ok (.istore_n 3, 1) := by decide +kernel
theorem d_MO_join_10 : decode b_MO_join 10 = .ok (.aload_n 0, 1) := by decide +kernel
theorem d_MO_join_11 : decode b_MO_join 11 = .ok (.iload_n 1, 1) := by decide +kernel
theorem d_MO_join_12 : decode b_MO_join 12 = .ok (.bipush 8, 2) := by decide +kernel
theorem d_MO_join_14 : decode b_MO_join 14 = .ok (.if_icmp .ne 9, 3) := by decide +kernel
theorem d_MO_join_17 : decode b_MO_join 17 = .ok (.iload_n 3, 1) := by decide +kernel
theorem d_MO_join_18 : decode b_MO_join 18 = .ok (.iload_n 2, 1) := by decide +kernel
theorem d_MO_join_19 : decode b_MO_join 19 = .ok (.iadd, 1) := by decide +kernel
theorem d_MO_join_20 : decode b_MO_join 20 = .ok (.goto 38, 3) := by decide +kernel
theorem d_MO_join_23 : decode b_MO_join 23 = .ok (.iload_n 1, 1) := by decide +kernel
theorem d_MO_join_24 : decode b_MO_join 24 = .ok (.bipush 6, 2) := by decide +kernel
theorem d_MO_join_26 : decode b_MO_join 26 = .ok (.if_icmp .ne 19, 3) := by decide +kernel
theorem d_MO_join_29 : decode b_MO_join 29 = .ok (.iload_n 3, 1) := by decide +kernel
theorem d_MO_join_30 : decode b_MO_join 30 = .ok (.ifCond .eq 11, 3) := by decide +kernel
theorem d_MO_join_33 : decode b_MO_join 33 = .ok (.iload_n 2, 1) := by decide +kernel
theorem d_MO_join_34 : decode b_MO_join 34 = .ok (.ifCond .eq 7, 3) := by decide +kernel
theorem d_MO_join_37 : decode b_MO_join 37 = .ok (.iconst 1, 1) := by decide +kernel
theorem d_MO_join_38 : decode b_MO_join 38 = .ok (.goto 20, 3) := by decide +kernel
theorem d_MO_join_41 : decode b_MO_join 41 = .ok (.iconst 0, 1) := by decide +kernel
theorem d_MO_join_42 : decode b_MO_join 42 = .ok (.goto 16, 3) := by decide +kernel
theorem d_MO_join_45 : decode b_MO_join 45 = .ok (.iload_n 3, 1) := by decide +kernel
theorem d_MO_join_46 : decode b_MO_join 46 = .ok (.ifCond .ne 7, 3) := by decide +kernel
theorem d_MO_join_49 : decode b_MO_join 49 = .ok (.iload_n 2, 1) := by decide +kernel
theorem d_MO_join_50 : decode b_MO_join 50 = .ok (.ifCond .eq 7, 3) := by decide +kernel
theorem d_MO_join_53 : decode b_MO_join 53 = .ok (.iconst 1, 1) := by decide +kernel
theorem d_MO_join_54 : decode b_MO_join 54 = .ok (.goto 4, 3) := by decide +kernel
theorem d_MO_join_57 : decode b_MO_join 57 = .ok (.iconst 0, 1) := by decide +kernel
theorem d_MO_join_58 : decode b_MO_join 58 = .ok (.invokevirtual 301, 3) := by decide +kernel
theorem d_MO_join_61 : decode b_MO_join 61 = .ok (.return_, 1) := by decide +kernel
theorem lk_MO_298 : ab_lk "PolicyForgeModel" 298 y_MO_takeNumber b_MO_takeNumber 2 (some FieldType.int) 0 17 := ⟨⟨rfl, T_MO, 44, rfl⟩, List.forall_mem_cons.mpr ⟨(ab_in 1305 (by decide +kernel) (by decide +kernel)), List.forall_mem_cons.mpr ⟨(ab_in 1307 (by decide +kernel) (by decide +kernel)), List.forall_mem_cons.mpr ⟨(ab_in 88 (by decide +kernel) (by decide +kernel)), List.forall_mem_cons.mpr ⟨(ab_in 100 (by decide +kernel) (by decide +kernel)), List.forall_mem_cons.mpr ⟨(ab_in 1308 (by decide +kernel) (by decide +kernel)), fun _ h => absurd h List.not_mem_nil⟩⟩⟩⟩⟩, ⟨by decide +kernel, by decide +kernel, by decide +kernel⟩, by decide⟩
set_option maxRecDepth 100000 in
set_option maxHeartbeats 1000000 in
theorem s_MO_join (u : ab_S) (x : Int32) (t : Nat) (h : mR u.2.1) (ht : t < 128) (et : u.1 17 0 35 = nI t) : ab_C false l D ca y_MO_join b_MO_join 4 none 2 ab_nQ u [ab_O 17 0, ab_I x] (fun u' v => (gP [35, 40, 118] u u' ∧ ∃ t', t' ≤ t + 1 ∧ u'.1 17 0 35 = nI t') ∧ v = none) := by
  refine ab_C.of (by decide) (Nat.le_of_ble_eq_true rfl) ?_
  intro p e s m args below meth c ad X hZ hr0 hlk
  have P0 : gP [35, 40, 118] u u := gP.rf h
  refine ab_aload_n X 0 d_MO_join_0 rfl rfl ?_
  refine ab_callV (as := []) X (fun h => by cases h) (s_MO_takeNumber u t h (by omega) et) lk_MO_298 d_MO_join_1 rfl rfl (by first | assumption | decide | (show _ < 124; omega) | (show _ < 61; omega) | (show _ < 20; omega)) ⟨by first | exact Nat.le_of_ble_eq_true rfl | (simp only [ab_rm]; omega), by first | exact Nat.le_of_ble_eq_true rfl | (simp only [ab_rm]; omega)⟩ ⟨by first | exact Nat.le_of_ble_eq_true rfl | (simp only [ab_rm]; omega), by first | exact Nat.le_of_ble_eq_true rfl | (simp only [ab_rm]; omega)⟩ (Nat.le_of_ble_eq_true rfl) (fun u1 r1 h1 => ?_)
  obtain ⟨⟨q1, a1⟩, x1, hx1, rfl⟩ := h1
  have P1 := P0.trans q1 (by decide)
  refine ab_istore_n2 X 0 1 d_MO_join_4 rfl (by decide) rfl rfl rfl rfl ?_
  refine ab_aload_n X 1 d_MO_join_5 rfl rfl ?_
  refine ab_callV (as := []) X (fun h => by cases h) (s_MO_takeNumber u1 (t - 1) P1.1 (by omega) a1) lk_MO_298 d_MO_join_6 rfl rfl (by first | assumption | decide | (show _ < 124; omega) | (show _ < 61; omega) | (show _ < 20; omega)) ⟨by first | exact Nat.le_of_ble_eq_true rfl | (simp only [ab_rm]; omega), by first | exact Nat.le_of_ble_eq_true rfl | (simp only [ab_rm]; omega)⟩ ⟨by first | exact Nat.le_of_ble_eq_true rfl | (simp only [ab_rm]; omega), by first | exact Nat.le_of_ble_eq_true rfl | (simp only [ab_rm]; omega)⟩ (Nat.le_of_ble_eq_true rfl) (fun u6 r6 h6 => ?_)
  obtain ⟨⟨q6, a6⟩, x6, hx6, rfl⟩ := h6
  have P6 := P1.trans q6 (by decide)
  refine ab_istore_n3 X 0 1 2 d_MO_join_9 rfl (by decide) rfl rfl rfl rfl rfl rfl ?_
  refine ab_aload_n X 2 d_MO_join_10 rfl rfl ?_
  refine ab_iload_n X 3 d_MO_join_11 rfl rfl ?_
  refine ab_bipush (v := 8) X d_MO_join_12 (by decide) ?_
  refine ab_icmp_ne X 23 d_MO_join_14 rfl (fun h14 => ?_) (fun h14 => ?_)
  ·
    refine ab_iload_n X 3 d_MO_join_23 rfl rfl ?_
    refine ab_bipush (v := 6) X d_MO_join_24 (by decide) ?_
    refine ab_icmp_ne X 45 d_MO_join_26 rfl (fun h26 => ?_) (fun h26 => ?_)
    ·
      refine ab_iload_n X 0 d_MO_join_45 rfl rfl ?_
      refine ab_if_ne X 53 d_MO_join_46 rfl (fun h46 => ?_) (fun h46 => ?_)
      ·
        refine ab_iconst (v := 1) X d_MO_join_53 (by decide) ?_
        refine ab_goto X 58 d_MO_join_54 rfl ?_
        refine ab_callV (as := [ab_I _]) X (fun h => by cases h) (s_MO_putOn u6 _ (t - 1 - 1) P6.1 (by omega) a6) lk_MO_301 d_MO_join_58 rfl rfl (by first | assumption | decide | (show _ < 124; omega) | (show _ < 61; omega) | (show _ < 20; omega)) ⟨by first | exact Nat.le_of_ble_eq_true rfl | (simp only [ab_rm]; omega), by first | exact Nat.le_of_ble_eq_true rfl | (simp only [ab_rm]; omega)⟩ ⟨by first | exact Nat.le_of_ble_eq_true rfl | (simp only [ab_rm]; omega), by first | exact Nat.le_of_ble_eq_true rfl | (simp only [ab_rm]; omega)⟩ (Nat.le_of_ble_eq_true rfl) (fun u58 r58 h58 => ?_)
        obtain ⟨⟨q58, a58⟩, rfl⟩ := h58
        have P58 := P6.trans q58 (by decide)
        exact ab_retv X hr0 hlk d_MO_join_61 ⟨⟨P58, t - 1 - 1 + 1, by omega, a58⟩, rfl⟩
      ·
        refine ab_iload_n X 1 d_MO_join_49 rfl rfl ?_
        refine ab_if_eq X 57 d_MO_join_50 rfl (fun h50 => ?_) (fun h50 => ?_)
        ·
          refine ab_iconst (v := 0) X d_MO_join_57 (by decide) ?_
          refine ab_callV (as := [ab_I _]) X (fun h => by cases h) (s_MO_putOn u6 _ (t - 1 - 1) P6.1 (by omega) a6) lk_MO_301 d_MO_join_58 rfl rfl (by first | assumption | decide | (show _ < 124; omega) | (show _ < 61; omega) | (show _ < 20; omega)) ⟨by first | exact Nat.le_of_ble_eq_true rfl | (simp only [ab_rm]; omega), by first | exact Nat.le_of_ble_eq_true rfl | (simp only [ab_rm]; omega)⟩ ⟨by first | exact Nat.le_of_ble_eq_true rfl | (simp only [ab_rm]; omega), by first | exact Nat.le_of_ble_eq_true rfl | (simp only [ab_rm]; omega)⟩ (Nat.le_of_ble_eq_true rfl) (fun u58 r58 h58 => ?_)
          obtain ⟨⟨q58, a58⟩, rfl⟩ := h58
          have P58 := P6.trans q58 (by decide)
          exact ab_retv X hr0 hlk d_MO_join_61 ⟨⟨P58, t - 1 - 1 + 1, by omega, a58⟩, rfl⟩
        ·
          refine ab_iconst (v := 1) X d_MO_join_53 (by decide) ?_
          refine ab_goto X 58 d_MO_join_54 rfl ?_
          refine ab_callV (as := [ab_I _]) X (fun h => by cases h) (s_MO_putOn u6 _ (t - 1 - 1) P6.1 (by omega) a6) lk_MO_301 d_MO_join_58 rfl rfl (by first | assumption | decide | (show _ < 124; omega) | (show _ < 61; omega) | (show _ < 20; omega)) ⟨by first | exact Nat.le_of_ble_eq_true rfl | (simp only [ab_rm]; omega), by first | exact Nat.le_of_ble_eq_true rfl | (simp only [ab_rm]; omega)⟩ ⟨by first | exact Nat.le_of_ble_eq_true rfl | (simp only [ab_rm]; omega), by first | exact Nat.le_of_ble_eq_true rfl | (simp only [ab_rm]; omega)⟩ (Nat.le_of_ble_eq_true rfl) (fun u58 r58 h58 => ?_)
          obtain ⟨⟨q58, a58⟩, rfl⟩ := h58
          have P58 := P6.trans q58 (by decide)
          exact ab_retv X hr0 hlk d_MO_join_61 ⟨⟨P58, t - 1 - 1 + 1, by omega, a58⟩, rfl⟩
    ·
      refine ab_iload_n X 0 d_MO_join_29 rfl rfl ?_
      refine ab_if_eq X 41 d_MO_join_30 rfl (fun h30 => ?_) (fun h30 => ?_)
      ·
        refine ab_iconst (v := 0) X d_MO_join_41 (by decide) ?_
        refine ab_goto X 58 d_MO_join_42 rfl ?_
        refine ab_callV (as := [ab_I _]) X (fun h => by cases h) (s_MO_putOn u6 _ (t - 1 - 1) P6.1 (by omega) a6) lk_MO_301 d_MO_join_58 rfl rfl (by first | assumption | decide | (show _ < 124; omega) | (show _ < 61; omega) | (show _ < 20; omega)) ⟨by first | exact Nat.le_of_ble_eq_true rfl | (simp only [ab_rm]; omega), by first | exact Nat.le_of_ble_eq_true rfl | (simp only [ab_rm]; omega)⟩ ⟨by first | exact Nat.le_of_ble_eq_true rfl | (simp only [ab_rm]; omega), by first | exact Nat.le_of_ble_eq_true rfl | (simp only [ab_rm]; omega)⟩ (Nat.le_of_ble_eq_true rfl) (fun u58 r58 h58 => ?_)
        obtain ⟨⟨q58, a58⟩, rfl⟩ := h58
        have P58 := P6.trans q58 (by decide)
        exact ab_retv X hr0 hlk d_MO_join_61 ⟨⟨P58, t - 1 - 1 + 1, by omega, a58⟩, rfl⟩
      ·
        refine ab_iload_n X 1 d_MO_join_33 rfl rfl ?_
        refine ab_if_eq X 41 d_MO_join_34 rfl (fun h34 => ?_) (fun h34 => ?_)
        ·
          refine ab_iconst (v := 0) X d_MO_join_41 (by decide) ?_
          refine ab_goto X 58 d_MO_join_42 rfl ?_
          refine ab_callV (as := [ab_I _]) X (fun h => by cases h) (s_MO_putOn u6 _ (t - 1 - 1) P6.1 (by omega) a6) lk_MO_301 d_MO_join_58 rfl rfl (by first | assumption | decide | (show _ < 124; omega) | (show _ < 61; omega) | (show _ < 20; omega)) ⟨by first | exact Nat.le_of_ble_eq_true rfl | (simp only [ab_rm]; omega), by first | exact Nat.le_of_ble_eq_true rfl | (simp only [ab_rm]; omega)⟩ ⟨by first | exact Nat.le_of_ble_eq_true rfl | (simp only [ab_rm]; omega), by first | exact Nat.le_of_ble_eq_true rfl | (simp only [ab_rm]; omega)⟩ (Nat.le_of_ble_eq_true rfl) (fun u58 r58 h58 => ?_)
          obtain ⟨⟨q58, a58⟩, rfl⟩ := h58
          have P58 := P6.trans q58 (by decide)
          exact ab_retv X hr0 hlk d_MO_join_61 ⟨⟨P58, t - 1 - 1 + 1, by omega, a58⟩, rfl⟩
        ·
          refine ab_iconst (v := 1) X d_MO_join_37 (by decide) ?_
          refine ab_goto X 58 d_MO_join_38 rfl ?_
          refine ab_callV (as := [ab_I _]) X (fun h => by cases h) (s_MO_putOn u6 _ (t - 1 - 1) P6.1 (by omega) a6) lk_MO_301 d_MO_join_58 rfl rfl (by first | assumption | decide | (show _ < 124; omega) | (show _ < 61; omega) | (show _ < 20; omega)) ⟨by first | exact Nat.le_of_ble_eq_true rfl | (simp only [ab_rm]; omega), by first | exact Nat.le_of_ble_eq_true rfl | (simp only [ab_rm]; omega)⟩ ⟨by first | exact Nat.le_of_ble_eq_true rfl | (simp only [ab_rm]; omega), by first | exact Nat.le_of_ble_eq_true rfl | (simp only [ab_rm]; omega)⟩ (Nat.le_of_ble_eq_true rfl) (fun u58 r58 h58 => ?_)
          obtain ⟨⟨q58, a58⟩, rfl⟩ := h58
          have P58 := P6.trans q58 (by decide)
          exact ab_retv X hr0 hlk d_MO_join_61 ⟨⟨P58, t - 1 - 1 + 1, by omega, a58⟩, rfl⟩
  ·
    refine ab_iload_n X 0 d_MO_join_17 rfl rfl ?_
    refine ab_iload_n X 1 d_MO_join_18 rfl rfl ?_
    refine ab_iadd X d_MO_join_19 ?_
    refine ab_goto X 58 d_MO_join_20 rfl ?_
    refine ab_callV (as := [ab_I _]) X (fun h => by cases h) (s_MO_putOn u6 _ (t - 1 - 1) P6.1 (by omega) a6) lk_MO_301 d_MO_join_58 rfl rfl (by first | assumption | decide | (show _ < 124; omega) | (show _ < 61; omega) | (show _ < 20; omega)) ⟨by first | exact Nat.le_of_ble_eq_true rfl | (simp only [ab_rm]; omega), by first | exact Nat.le_of_ble_eq_true rfl | (simp only [ab_rm]; omega)⟩ ⟨by first | exact Nat.le_of_ble_eq_true rfl | (simp only [ab_rm]; omega), by first | exact Nat.le_of_ble_eq_true rfl | (simp only [ab_rm]; omega)⟩ (Nat.le_of_ble_eq_true rfl) (fun u58 r58 h58 => ?_)
    obtain ⟨⟨q58, a58⟩, rfl⟩ := h58
    have P58 := P6.trans q58 (by decide)
    exact ab_retv X hr0 hlk d_MO_join_61 ⟨⟨P58, t - 1 - 1 + 1, by omega, a58⟩, rfl⟩
abbrev b_MO_behind : ByteArray := prog_10_method_51_code
def y_MO_behind : MethodName := ⟨"PolicyForgeModel", "behind", "(II)I"⟩
theorem d_MO_behind_0 : decode b_MO_behind 0 = .ok (.iconst 0, 1) := by decide +kernel
theorem d_MO_behind_1 : decode b_MO_behind 1 = .ok (.istore_n 3, 1) := by decide +kernel
theorem d_MO_behind_2 : decode b_MO_behind 2 = .ok (.iload_n 1, 1) := by decide +kernel
theorem d_MO_behind_3 : decode b_MO_behind 3 = .ok (.iconst 1, 1) := by decide +kernel
theorem d_MO_behind_4 : decode b_MO_behind 4 = .ok (.iadd, 1) := by decide +kernel
theorem d_MO_behind_5 : decode b_MO_behind 5 = .ok (.istore 4, 2) := by decide +kernel
theorem d_MO_behind_7 : decode b_MO_behind 7 = .ok (.iload_n 3, 1) := by decide +kernel
theorem d_MO_behind_8 : decode b_MO_behind 8 = .ok (.ifCond .gt 18, 3) := by decide +kernel
theorem d_MO_behind_11 : decode b_MO_behind 11 = .ok (.aload_n 0, 1) := by decide +kernel
theorem d_MO_behind_12 : decode b_MO_behind 12 = .ok (.getfield 57, 3) := by decide +kernel
theorem d_MO_behind_15 : decode b_MO_behind 15 = .ok (.iload 4, 2) := by decide +kernel
theorem d_MO_behind_17 : decode b_MO_behind 17 = .ok (.iaload, 1) := by decide +kernel
theorem d_MO_behind_18 : decode b_MO_behind 18 = .ok (.sipush 1000, 3) := by decide +kernel
theorem d_MO_behind_21 : decode b_MO_behind 21 = .ok (.idiv, 1) := by decide +kernel
theorem d_MO_behind_22 : decode b_MO_behind 22 = .ok (.iload_n 2, 1) := by decide +kernel
theorem d_MO_behind_23 : decode b_MO_behind 23 = .ok (.if_icmp .eq 49, 3) := by decide +kernel
theorem d_MO_behind_26 : decode b_MO_behind 26 = .ok (.aload_n 0, 1) := by decide +kernel
theorem d_MO_behind_27 : decode b_MO_behind 27 = .ok (.getfield 57, 3) := by decide +kernel
theorem d_MO_behind_30 : decode b_MO_behind 30 = .ok (.iload 4, 2) := by decide +kernel
theorem d_MO_behind_32 : decode b_MO_behind 32 = .ok (.iaload, 1) := by decide +kernel
theorem d_MO_behind_33 : decode b_MO_behind 33 = .ok (.sipush 1000, 3) := by decide +kernel
theorem d_MO_behind_36 : decode b_MO_behind 36 = .ok (.idiv, 1) := by decide +kernel
theorem d_MO_behind_37 : decode b_MO_behind 37 = .ok (.istore 5, 2) := by decide +kernel
theorem d_MO_behind_39 : decode b_MO_behind 39 = .ok (.iload 5, 2) := by decide +kernel
theorem d_MO_behind_41 : decode b_MO_behind 41 = .ok (.bipush 12, 2) := by decide +kernel
theorem d_MO_behind_43 : decode b_MO_behind 43 = .ok (.if_icmp .eq 10, 3) := by decide +kernel
theorem d_MO_behind_46 : decode b_MO_behind 46 = .ok (.iload 5, 2) := by decide +kernel
theorem d_MO_behind_48 : decode b_MO_behind 48 = .ok (.bipush 15, 2) := by decide +kernel
theorem d_MO_behind_50 : decode b_MO_behind 50 = .ok (.if_icmp .ne 6, 3) := by decide +kernel
theorem d_MO_behind_53 : decode b_MO_behind 53 = .ok (.iinc 3 1, 3) := by decide +kernel
theorem d_MO_behind_56 : decode b_MO_behind 56 = .ok (.iload 5, 2) := by decide +kernel
theorem d_MO_behind_58 : decode b_MO_behind 58 = .ok (.bipush 14, 2) := by decide +kernel
theorem d_MO_behind_60 : decode b_MO_behind 60 = .ok (.if_icmp .ne 6, 3) := by decide +kernel
theorem d_MO_behind_63 : decode b_MO_behind 63 = .ok (.iinc 3 (-1), 3) := by decide +kernel
theorem d_MO_behind_66 : decode b_MO_behind 66 = .ok (.iinc 4 1, 3) := by decide +kernel
theorem d_MO_behind_69 : decode b_MO_behind 69 = .ok (.goto (-62), 3) := by decide +kernel
theorem d_MO_behind_72 : decode b_MO_behind 72 = .ok (.iload 4, 2) := by decide +kernel
theorem d_MO_behind_74 : decode b_MO_behind 74 = .ok (.iconst 1, 1) := by decide +kernel
theorem d_MO_behind_75 : decode b_MO_behind 75 = .ok (.iadd, 1) := by decide +kernel
theorem d_MO_behind_76 : decode b_MO_behind 76 = .ok (.ireturn, 1) := by decide +kernel
set_option maxRecDepth 100000 in
set_option maxHeartbeats 1000000 in
theorem t_MO_behind (u : ab_S) (i n b : Nat) (x : Int32) (s0 : List Nat) (h : mR u.2.1) (hi : i < n) (hn : n ≤ 100) (hb : (b = 12 ∧ x = 13) ∨ ((b = 13 ∨ b = 15) ∧ x = 14)) (hr : rl (ol u (i + 1) (n - (i + 1))) (b :: s0) = some []) : ab_C false l D ca y_MO_behind b_MO_behind 6 (some FieldType.int) 0 ab_nQ u [ab_O 17 0, ab_I (nI i), ab_I x] (fun u' v => u' = u ∧ ∃ a, i < a ∧ a ≤ n ∧ v = some (ab_I (nI a))) := by
  refine ab_C.of (by decide) (Nat.le_of_ble_eq_true rfl) ?_
  intro p e s m args below meth c ad X hZ hr0 hlk
  have P0 : gP [35, 37, 40, 118, 119] u u := gP.rf h
  have loop : ∀ (mm k : Nat) (ex : List Nat), k + mm = n → i < k → ex.length ≤ 100 + k → rl (ol u k mm) (ex ++ b :: s0) = some [] → ab_J p l e (ab_rm 0 0 0) s m args below meth c (MQ below (ab_Q D ca ad ab_nQ s.heap.size (fun u' v => u' = u ∧ ∃ a, i < a ∧ a ≤ n ∧ v = some (ab_I (nI a)))) args s 0 0 (ab_A ad ab_nQ s.heap.size)) D ca (ab_A ad ab_nQ s.heap.size) s.heap 6 0 0 ad ab_nQ u 7 [(4, ab_I (nI k)), (3, ab_I (nI ex.length)), (0, ab_O 17 0), (1, ab_I (nI i)), (2, ab_I x)] [] := by
    intro mm
    induction mm with
    | zero =>
      intro k ex hk hik hel hrl
      exact absurd (Option.some.inj hrl) (by simp)
    | succ mm ih =>
      intro k ex hk hik hel hrl
      have hst : (st1 (opv u k) (ex ++ b :: s0)).bind (rl (ol u (k + 1) mm)) = some [] := hrl
      by_cases hx : ex = [] ∧ opv u k = x
      ·
        refine ab_iload_n X 1 d_MO_behind_7 rfl rfl ?_
        refine ab_if_gt X 26 d_MO_behind_8 rfl (fun hb => absurd hb ((by rw [hx.1]; decide))) (fun _ => ?_)
        refine ab_aload_n X 2 d_MO_behind_11 rfl rfl ?_
        refine ab_gR X fl_MO_57 d_MO_behind_12 (by first | assumption | decide | (show _ < 124; omega) | (show _ < 61; omega) | (show _ < 20; omega)) (P0.1.mo15) ?_
        refine ab_iload X 0 d_MO_behind_15 rfl ?_
        refine ab_iald X (k) ⟨rfl, rfl⟩ d_MO_behind_17 (by first | assumption | decide | (show _ < 124; omega) | (show _ < 61; omega) | (show _ < 20; omega)) (rfl) (show k < 7200 by omega) (ab_ln_lt _ _) ?_
        refine ab_sipush (v := 1000) X d_MO_behind_18 (by decide) ?_
        refine ab_idiv X d_MO_behind_21 (by decide) ?_
        refine ab_iload_n X 4 d_MO_behind_22 rfl rfl ?_
        refine ab_icmp_eq X 72 d_MO_behind_23 rfl (fun _ => ?_) (fun hb => absurd (hx.2) hb)
        refine ab_iload X 0 d_MO_behind_72 rfl ?_
        refine ab_iconst (v := 1) X d_MO_behind_74 (by decide) ?_
        refine ab_iadd X d_MO_behind_75 ?_
        refine ab_top (nI_1 _) ?_
        exact ab_reti X hr0 hlk d_MO_behind_76 ⟨rfl, k + 1, by omega, by omega, rfl⟩
      · have e0 : ¬ 0 < nI ex.length → ex = [] := fun q => List.length_eq_zero_iff.mp (by
          apply Classical.byContradiction
          intro z
          exact q (nI_lt (a := 0) (by omega) (by omega)))
        by_cases h12 : opv u k = 12
        · obtain ⟨e', el, er⟩ := st_up (Or.inl h12) hst
          refine ab_iload_n X 1 d_MO_behind_7 rfl rfl ?_
          refine ab_if_gt X 26 d_MO_behind_8 rfl (fun h8 => ?_) (fun h8 => ?_)
          ·
            refine ab_aload_n X 2 d_MO_behind_26 rfl rfl ?_
            refine ab_gR X fl_MO_57 d_MO_behind_27 (by first | assumption | decide | (show _ < 124; omega) | (show _ < 61; omega) | (show _ < 20; omega)) (P0.1.mo15) ?_
            refine ab_iload X 0 d_MO_behind_30 rfl ?_
            refine ab_iald X (k) ⟨rfl, rfl⟩ d_MO_behind_32 (by first | assumption | decide | (show _ < 124; omega) | (show _ < 61; omega) | (show _ < 20; omega)) (rfl) (show k < 7200 by omega) (ab_ln_lt _ _) ?_
            refine ab_sipush (v := 1000) X d_MO_behind_33 (by decide) ?_
            refine ab_idiv X d_MO_behind_36 (by decide) ?_
            refine ab_istore5 X 0 1 2 3 4 d_MO_behind_37 (by decide) rfl rfl rfl rfl rfl rfl rfl rfl rfl rfl ?_
            refine ab_iload X 0 d_MO_behind_39 rfl ?_
            refine ab_bipush (v := 12) X d_MO_behind_41 (by decide) ?_
            refine ab_icmp_eq X 53 d_MO_behind_43 rfl (fun _ => ?_) (fun hb => absurd (h12) hb)
            refine ab_iinc5 X 2 0 1 3 4 5 d_MO_behind_53 rfl (by decide) rfl rfl rfl rfl rfl rfl rfl rfl rfl rfl ?_
            refine ab_iload X 1 d_MO_behind_56 rfl ?_
            refine ab_bipush (v := 14) X d_MO_behind_58 (by decide) ?_
            refine ab_icmp_ne X 66 d_MO_behind_60 rfl (fun _ => ?_) (fun hb => absurd hb ((fun q => absurd (h12.symm.trans q) (by decide))))
            refine ab_iinc5 X 2 0 1 3 4 5 d_MO_behind_66 rfl (by decide) rfl rfl rfl rfl rfl rfl rfl rfl rfl rfl ?_
            refine ab_goto X 7 d_MO_behind_69 rfl ?_
            refine ab_lv (List.forall_mem_cons.mpr ⟨List.mem_of_getElem? (i := 0) rfl, List.forall_mem_cons.mpr ⟨List.mem_of_getElem? (i := 1) rfl, List.forall_mem_cons.mpr ⟨List.mem_of_getElem? (i := 3) rfl, List.forall_mem_cons.mpr ⟨List.mem_of_getElem? (i := 4) rfl, List.forall_mem_cons.mpr ⟨List.mem_of_getElem? (i := 5) rfl, fun _ h => absurd h List.not_mem_nil⟩⟩⟩⟩⟩) ?_
            rw [show nI k + Int32.ofInt 1 = nI (k + 1) from nI_1 k, show nI ex.length + Int32.ofInt 1 = nI e'.length from (nI_1 _).trans (by rw [el])]
            exact ih (k + 1) e' (by omega) (by omega) (by omega) er
          ·
            have he := e0 h8
            refine ab_aload_n X 2 d_MO_behind_11 rfl rfl ?_
            refine ab_gR X fl_MO_57 d_MO_behind_12 (by first | assumption | decide | (show _ < 124; omega) | (show _ < 61; omega) | (show _ < 20; omega)) (P0.1.mo15) ?_
            refine ab_iload X 0 d_MO_behind_15 rfl ?_
            refine ab_iald X (k) ⟨rfl, rfl⟩ d_MO_behind_17 (by first | assumption | decide | (show _ < 124; omega) | (show _ < 61; omega) | (show _ < 20; omega)) (rfl) (show k < 7200 by omega) (ab_ln_lt _ _) ?_
            refine ab_sipush (v := 1000) X d_MO_behind_18 (by decide) ?_
            refine ab_idiv X d_MO_behind_21 (by decide) ?_
            refine ab_iload_n X 4 d_MO_behind_22 rfl rfl ?_
            refine ab_icmp_eq X 72 d_MO_behind_23 rfl (fun h23 => ?_) (fun h23 => ?_)
            ·
              exact absurd (And.intro he h23) hx
            ·
              refine ab_aload_n X 2 d_MO_behind_26 rfl rfl ?_
              refine ab_gR X fl_MO_57 d_MO_behind_27 (by first | assumption | decide | (show _ < 124; omega) | (show _ < 61; omega) | (show _ < 20; omega)) (P0.1.mo15) ?_
              refine ab_iload X 0 d_MO_behind_30 rfl ?_
              refine ab_iald X (k) ⟨rfl, rfl⟩ d_MO_behind_32 (by first | assumption | decide | (show _ < 124; omega) | (show _ < 61; omega) | (show _ < 20; omega)) (rfl) (show k < 7200 by omega) (ab_ln_lt _ _) ?_
              refine ab_sipush (v := 1000) X d_MO_behind_33 (by decide) ?_
              refine ab_idiv X d_MO_behind_36 (by decide) ?_
              refine ab_istore5 X 0 1 2 3 4 d_MO_behind_37 (by decide) rfl rfl rfl rfl rfl rfl rfl rfl rfl rfl ?_
              refine ab_iload X 0 d_MO_behind_39 rfl ?_
              refine ab_bipush (v := 12) X d_MO_behind_41 (by decide) ?_
              refine ab_icmp_eq X 53 d_MO_behind_43 rfl (fun _ => ?_) (fun hb => absurd (h12) hb)
              refine ab_iinc5 X 2 0 1 3 4 5 d_MO_behind_53 rfl (by decide) rfl rfl rfl rfl rfl rfl rfl rfl rfl rfl ?_
              refine ab_iload X 1 d_MO_behind_56 rfl ?_
              refine ab_bipush (v := 14) X d_MO_behind_58 (by decide) ?_
              refine ab_icmp_ne X 66 d_MO_behind_60 rfl (fun _ => ?_) (fun hb => absurd hb ((fun q => absurd (h12.symm.trans q) (by decide))))
              refine ab_iinc5 X 2 0 1 3 4 5 d_MO_behind_66 rfl (by decide) rfl rfl rfl rfl rfl rfl rfl rfl rfl rfl ?_
              refine ab_goto X 7 d_MO_behind_69 rfl ?_
              refine ab_lv (List.forall_mem_cons.mpr ⟨List.mem_of_getElem? (i := 0) rfl, List.forall_mem_cons.mpr ⟨List.mem_of_getElem? (i := 1) rfl, List.forall_mem_cons.mpr ⟨List.mem_of_getElem? (i := 3) rfl, List.forall_mem_cons.mpr ⟨List.mem_of_getElem? (i := 4) rfl, List.forall_mem_cons.mpr ⟨List.mem_of_getElem? (i := 5) rfl, fun _ h => absurd h List.not_mem_nil⟩⟩⟩⟩⟩) ?_
              rw [show nI k + Int32.ofInt 1 = nI (k + 1) from nI_1 k, show nI ex.length + Int32.ofInt 1 = nI e'.length from (nI_1 _).trans (by rw [el])]
              exact ih (k + 1) e' (by omega) (by omega) (by omega) er
        · by_cases h15 : opv u k = 15
          · obtain ⟨e', el, er⟩ := st_up (Or.inr h15) hst
            refine ab_iload_n X 1 d_MO_behind_7 rfl rfl ?_
            refine ab_if_gt X 26 d_MO_behind_8 rfl (fun h8 => ?_) (fun h8 => ?_)
            ·
              refine ab_aload_n X 2 d_MO_behind_26 rfl rfl ?_
              refine ab_gR X fl_MO_57 d_MO_behind_27 (by first | assumption | decide | (show _ < 124; omega) | (show _ < 61; omega) | (show _ < 20; omega)) (P0.1.mo15) ?_
              refine ab_iload X 0 d_MO_behind_30 rfl ?_
              refine ab_iald X (k) ⟨rfl, rfl⟩ d_MO_behind_32 (by first | assumption | decide | (show _ < 124; omega) | (show _ < 61; omega) | (show _ < 20; omega)) (rfl) (show k < 7200 by omega) (ab_ln_lt _ _) ?_
              refine ab_sipush (v := 1000) X d_MO_behind_33 (by decide) ?_
              refine ab_idiv X d_MO_behind_36 (by decide) ?_
              refine ab_istore5 X 0 1 2 3 4 d_MO_behind_37 (by decide) rfl rfl rfl rfl rfl rfl rfl rfl rfl rfl ?_
              refine ab_iload X 0 d_MO_behind_39 rfl ?_
              refine ab_bipush (v := 12) X d_MO_behind_41 (by decide) ?_
              refine ab_icmp_eq X 53 d_MO_behind_43 rfl (fun hb => absurd hb (h12)) (fun _ => ?_)
              refine ab_iload X 0 d_MO_behind_46 rfl ?_
              refine ab_bipush (v := 15) X d_MO_behind_48 (by decide) ?_
              refine ab_icmp_ne X 56 d_MO_behind_50 rfl (fun hb => absurd (h15) hb) (fun _ => ?_)
              refine ab_iinc5 X 2 0 1 3 4 5 d_MO_behind_53 rfl (by decide) rfl rfl rfl rfl rfl rfl rfl rfl rfl rfl ?_
              refine ab_iload X 1 d_MO_behind_56 rfl ?_
              refine ab_bipush (v := 14) X d_MO_behind_58 (by decide) ?_
              refine ab_icmp_ne X 66 d_MO_behind_60 rfl (fun _ => ?_) (fun hb => absurd hb ((fun q => absurd (h15.symm.trans q) (by decide))))
              refine ab_iinc5 X 2 0 1 3 4 5 d_MO_behind_66 rfl (by decide) rfl rfl rfl rfl rfl rfl rfl rfl rfl rfl ?_
              refine ab_goto X 7 d_MO_behind_69 rfl ?_
              refine ab_lv (List.forall_mem_cons.mpr ⟨List.mem_of_getElem? (i := 0) rfl, List.forall_mem_cons.mpr ⟨List.mem_of_getElem? (i := 1) rfl, List.forall_mem_cons.mpr ⟨List.mem_of_getElem? (i := 3) rfl, List.forall_mem_cons.mpr ⟨List.mem_of_getElem? (i := 4) rfl, List.forall_mem_cons.mpr ⟨List.mem_of_getElem? (i := 5) rfl, fun _ h => absurd h List.not_mem_nil⟩⟩⟩⟩⟩) ?_
              rw [show nI k + Int32.ofInt 1 = nI (k + 1) from nI_1 k, show nI ex.length + Int32.ofInt 1 = nI e'.length from (nI_1 _).trans (by rw [el])]
              exact ih (k + 1) e' (by omega) (by omega) (by omega) er
            ·
              have he := e0 h8
              refine ab_aload_n X 2 d_MO_behind_11 rfl rfl ?_
              refine ab_gR X fl_MO_57 d_MO_behind_12 (by first | assumption | decide | (show _ < 124; omega) | (show _ < 61; omega) | (show _ < 20; omega)) (P0.1.mo15) ?_
              refine ab_iload X 0 d_MO_behind_15 rfl ?_
              refine ab_iald X (k) ⟨rfl, rfl⟩ d_MO_behind_17 (by first | assumption | decide | (show _ < 124; omega) | (show _ < 61; omega) | (show _ < 20; omega)) (rfl) (show k < 7200 by omega) (ab_ln_lt _ _) ?_
              refine ab_sipush (v := 1000) X d_MO_behind_18 (by decide) ?_
              refine ab_idiv X d_MO_behind_21 (by decide) ?_
              refine ab_iload_n X 4 d_MO_behind_22 rfl rfl ?_
              refine ab_icmp_eq X 72 d_MO_behind_23 rfl (fun h23 => ?_) (fun h23 => ?_)
              ·
                exact absurd (And.intro he h23) hx
              ·
                refine ab_aload_n X 2 d_MO_behind_26 rfl rfl ?_
                refine ab_gR X fl_MO_57 d_MO_behind_27 (by first | assumption | decide | (show _ < 124; omega) | (show _ < 61; omega) | (show _ < 20; omega)) (P0.1.mo15) ?_
                refine ab_iload X 0 d_MO_behind_30 rfl ?_
                refine ab_iald X (k) ⟨rfl, rfl⟩ d_MO_behind_32 (by first | assumption | decide | (show _ < 124; omega) | (show _ < 61; omega) | (show _ < 20; omega)) (rfl) (show k < 7200 by omega) (ab_ln_lt _ _) ?_
                refine ab_sipush (v := 1000) X d_MO_behind_33 (by decide) ?_
                refine ab_idiv X d_MO_behind_36 (by decide) ?_
                refine ab_istore5 X 0 1 2 3 4 d_MO_behind_37 (by decide) rfl rfl rfl rfl rfl rfl rfl rfl rfl rfl ?_
                refine ab_iload X 0 d_MO_behind_39 rfl ?_
                refine ab_bipush (v := 12) X d_MO_behind_41 (by decide) ?_
                refine ab_icmp_eq X 53 d_MO_behind_43 rfl (fun hb => absurd hb (h12)) (fun _ => ?_)
                refine ab_iload X 0 d_MO_behind_46 rfl ?_
                refine ab_bipush (v := 15) X d_MO_behind_48 (by decide) ?_
                refine ab_icmp_ne X 56 d_MO_behind_50 rfl (fun hb => absurd (h15) hb) (fun _ => ?_)
                refine ab_iinc5 X 2 0 1 3 4 5 d_MO_behind_53 rfl (by decide) rfl rfl rfl rfl rfl rfl rfl rfl rfl rfl ?_
                refine ab_iload X 1 d_MO_behind_56 rfl ?_
                refine ab_bipush (v := 14) X d_MO_behind_58 (by decide) ?_
                refine ab_icmp_ne X 66 d_MO_behind_60 rfl (fun _ => ?_) (fun hb => absurd hb ((fun q => absurd (h15.symm.trans q) (by decide))))
                refine ab_iinc5 X 2 0 1 3 4 5 d_MO_behind_66 rfl (by decide) rfl rfl rfl rfl rfl rfl rfl rfl rfl rfl ?_
                refine ab_goto X 7 d_MO_behind_69 rfl ?_
                refine ab_lv (List.forall_mem_cons.mpr ⟨List.mem_of_getElem? (i := 0) rfl, List.forall_mem_cons.mpr ⟨List.mem_of_getElem? (i := 1) rfl, List.forall_mem_cons.mpr ⟨List.mem_of_getElem? (i := 3) rfl, List.forall_mem_cons.mpr ⟨List.mem_of_getElem? (i := 4) rfl, List.forall_mem_cons.mpr ⟨List.mem_of_getElem? (i := 5) rfl, fun _ h => absurd h List.not_mem_nil⟩⟩⟩⟩⟩) ?_
                rw [show nI k + Int32.ofInt 1 = nI (k + 1) from nI_1 k, show nI ex.length + Int32.ofInt 1 = nI e'.length from (nI_1 _).trans (by rw [el])]
                exact ih (k + 1) e' (by omega) (by omega) (by omega) er
          · by_cases h14 : opv u k = 14
            · rw [h14] at hst
              obtain ⟨e', el, er⟩ := st_down hb (fun q => hx ⟨q.1, h14.trans q.2⟩) hst
              refine ab_iload_n X 1 d_MO_behind_7 rfl rfl ?_
              refine ab_if_gt X 26 d_MO_behind_8 rfl (fun h8 => ?_) (fun h8 => ?_)
              ·
                refine ab_aload_n X 2 d_MO_behind_26 rfl rfl ?_
                refine ab_gR X fl_MO_57 d_MO_behind_27 (by first | assumption | decide | (show _ < 124; omega) | (show _ < 61; omega) | (show _ < 20; omega)) (P0.1.mo15) ?_
                refine ab_iload X 0 d_MO_behind_30 rfl ?_
                refine ab_iald X (k) ⟨rfl, rfl⟩ d_MO_behind_32 (by first | assumption | decide | (show _ < 124; omega) | (show _ < 61; omega) | (show _ < 20; omega)) (rfl) (show k < 7200 by omega) (ab_ln_lt _ _) ?_
                refine ab_sipush (v := 1000) X d_MO_behind_33 (by decide) ?_
                refine ab_idiv X d_MO_behind_36 (by decide) ?_
                refine ab_istore5 X 0 1 2 3 4 d_MO_behind_37 (by decide) rfl rfl rfl rfl rfl rfl rfl rfl rfl rfl ?_
                refine ab_iload X 0 d_MO_behind_39 rfl ?_
                refine ab_bipush (v := 12) X d_MO_behind_41 (by decide) ?_
                refine ab_icmp_eq X 53 d_MO_behind_43 rfl (fun hb => absurd hb (h12)) (fun _ => ?_)
                refine ab_iload X 0 d_MO_behind_46 rfl ?_
                refine ab_bipush (v := 15) X d_MO_behind_48 (by decide) ?_
                refine ab_icmp_ne X 56 d_MO_behind_50 rfl (fun _ => ?_) (fun hb => absurd hb (h15))
                refine ab_iload X 0 d_MO_behind_56 rfl ?_
                refine ab_bipush (v := 14) X d_MO_behind_58 (by decide) ?_
                refine ab_icmp_ne X 66 d_MO_behind_60 rfl (fun hb => absurd (h14) hb) (fun _ => ?_)
                refine ab_iinc5 X 2 0 1 3 4 5 d_MO_behind_63 rfl (by decide) rfl rfl rfl rfl rfl rfl rfl rfl rfl rfl ?_
                refine ab_iinc5 X 2 0 1 3 4 5 d_MO_behind_66 rfl (by decide) rfl rfl rfl rfl rfl rfl rfl rfl rfl rfl ?_
                refine ab_goto X 7 d_MO_behind_69 rfl ?_
                refine ab_lv (List.forall_mem_cons.mpr ⟨List.mem_of_getElem? (i := 0) rfl, List.forall_mem_cons.mpr ⟨List.mem_of_getElem? (i := 1) rfl, List.forall_mem_cons.mpr ⟨List.mem_of_getElem? (i := 3) rfl, List.forall_mem_cons.mpr ⟨List.mem_of_getElem? (i := 4) rfl, List.forall_mem_cons.mpr ⟨List.mem_of_getElem? (i := 5) rfl, fun _ h => absurd h List.not_mem_nil⟩⟩⟩⟩⟩) ?_
                rw [show nI k + Int32.ofInt 1 = nI (k + 1) from nI_1 k, show nI ex.length + Int32.ofInt (-1) = nI e'.length from (by rw [el]; exact pk_m1 _)]
                exact ih (k + 1) e' (by omega) (by omega) (by omega) er
              ·
                have he := e0 h8
                refine ab_aload_n X 2 d_MO_behind_11 rfl rfl ?_
                refine ab_gR X fl_MO_57 d_MO_behind_12 (by first | assumption | decide | (show _ < 124; omega) | (show _ < 61; omega) | (show _ < 20; omega)) (P0.1.mo15) ?_
                refine ab_iload X 0 d_MO_behind_15 rfl ?_
                refine ab_iald X (k) ⟨rfl, rfl⟩ d_MO_behind_17 (by first | assumption | decide | (show _ < 124; omega) | (show _ < 61; omega) | (show _ < 20; omega)) (rfl) (show k < 7200 by omega) (ab_ln_lt _ _) ?_
                refine ab_sipush (v := 1000) X d_MO_behind_18 (by decide) ?_
                refine ab_idiv X d_MO_behind_21 (by decide) ?_
                refine ab_iload_n X 4 d_MO_behind_22 rfl rfl ?_
                refine ab_icmp_eq X 72 d_MO_behind_23 rfl (fun h23 => ?_) (fun h23 => ?_)
                ·
                  exact absurd (And.intro he h23) hx
                ·
                  refine ab_aload_n X 2 d_MO_behind_26 rfl rfl ?_
                  refine ab_gR X fl_MO_57 d_MO_behind_27 (by first | assumption | decide | (show _ < 124; omega) | (show _ < 61; omega) | (show _ < 20; omega)) (P0.1.mo15) ?_
                  refine ab_iload X 0 d_MO_behind_30 rfl ?_
                  refine ab_iald X (k) ⟨rfl, rfl⟩ d_MO_behind_32 (by first | assumption | decide | (show _ < 124; omega) | (show _ < 61; omega) | (show _ < 20; omega)) (rfl) (show k < 7200 by omega) (ab_ln_lt _ _) ?_
                  refine ab_sipush (v := 1000) X d_MO_behind_33 (by decide) ?_
                  refine ab_idiv X d_MO_behind_36 (by decide) ?_
                  refine ab_istore5 X 0 1 2 3 4 d_MO_behind_37 (by decide) rfl rfl rfl rfl rfl rfl rfl rfl rfl rfl ?_
                  refine ab_iload X 0 d_MO_behind_39 rfl ?_
                  refine ab_bipush (v := 12) X d_MO_behind_41 (by decide) ?_
                  refine ab_icmp_eq X 53 d_MO_behind_43 rfl (fun hb => absurd hb (h12)) (fun _ => ?_)
                  refine ab_iload X 0 d_MO_behind_46 rfl ?_
                  refine ab_bipush (v := 15) X d_MO_behind_48 (by decide) ?_
                  refine ab_icmp_ne X 56 d_MO_behind_50 rfl (fun _ => ?_) (fun hb => absurd hb (h15))
                  refine ab_iload X 0 d_MO_behind_56 rfl ?_
                  refine ab_bipush (v := 14) X d_MO_behind_58 (by decide) ?_
                  refine ab_icmp_ne X 66 d_MO_behind_60 rfl (fun hb => absurd (h14) hb) (fun _ => ?_)
                  refine ab_iinc5 X 2 0 1 3 4 5 d_MO_behind_63 rfl (by decide) rfl rfl rfl rfl rfl rfl rfl rfl rfl rfl ?_
                  refine ab_iinc5 X 2 0 1 3 4 5 d_MO_behind_66 rfl (by decide) rfl rfl rfl rfl rfl rfl rfl rfl rfl rfl ?_
                  refine ab_goto X 7 d_MO_behind_69 rfl ?_
                  refine ab_lv (List.forall_mem_cons.mpr ⟨List.mem_of_getElem? (i := 0) rfl, List.forall_mem_cons.mpr ⟨List.mem_of_getElem? (i := 1) rfl, List.forall_mem_cons.mpr ⟨List.mem_of_getElem? (i := 3) rfl, List.forall_mem_cons.mpr ⟨List.mem_of_getElem? (i := 4) rfl, List.forall_mem_cons.mpr ⟨List.mem_of_getElem? (i := 5) rfl, fun _ h => absurd h List.not_mem_nil⟩⟩⟩⟩⟩) ?_
                  rw [show nI k + Int32.ofInt 1 = nI (k + 1) from nI_1 k, show nI ex.length + Int32.ofInt (-1) = nI e'.length from (by rw [el]; exact pk_m1 _)]
                  exact ih (k + 1) e' (by omega) (by omega) (by omega) er
            · obtain ⟨e', el, er⟩ := st_same hb hx h12 h15 h14 hst
              refine ab_iload_n X 1 d_MO_behind_7 rfl rfl ?_
              refine ab_if_gt X 26 d_MO_behind_8 rfl (fun h8 => ?_) (fun h8 => ?_)
              ·
                refine ab_aload_n X 2 d_MO_behind_26 rfl rfl ?_
                refine ab_gR X fl_MO_57 d_MO_behind_27 (by first | assumption | decide | (show _ < 124; omega) | (show _ < 61; omega) | (show _ < 20; omega)) (P0.1.mo15) ?_
                refine ab_iload X 0 d_MO_behind_30 rfl ?_
                refine ab_iald X (k) ⟨rfl, rfl⟩ d_MO_behind_32 (by first | assumption | decide | (show _ < 124; omega) | (show _ < 61; omega) | (show _ < 20; omega)) (rfl) (show k < 7200 by omega) (ab_ln_lt _ _) ?_
                refine ab_sipush (v := 1000) X d_MO_behind_33 (by decide) ?_
                refine ab_idiv X d_MO_behind_36 (by decide) ?_
                refine ab_istore5 X 0 1 2 3 4 d_MO_behind_37 (by decide) rfl rfl rfl rfl rfl rfl rfl rfl rfl rfl ?_
                refine ab_iload X 0 d_MO_behind_39 rfl ?_
                refine ab_bipush (v := 12) X d_MO_behind_41 (by decide) ?_
                refine ab_icmp_eq X 53 d_MO_behind_43 rfl (fun hb => absurd hb (h12)) (fun _ => ?_)
                refine ab_iload X 0 d_MO_behind_46 rfl ?_
                refine ab_bipush (v := 15) X d_MO_behind_48 (by decide) ?_
                refine ab_icmp_ne X 56 d_MO_behind_50 rfl (fun _ => ?_) (fun hb => absurd hb (h15))
                refine ab_iload X 0 d_MO_behind_56 rfl ?_
                refine ab_bipush (v := 14) X d_MO_behind_58 (by decide) ?_
                refine ab_icmp_ne X 66 d_MO_behind_60 rfl (fun _ => ?_) (fun hb => absurd hb (h14))
                refine ab_iinc5 X 1 0 2 3 4 5 d_MO_behind_66 rfl (by decide) rfl rfl rfl rfl rfl rfl rfl rfl rfl rfl ?_
                refine ab_goto X 7 d_MO_behind_69 rfl ?_
                refine ab_lv (List.forall_mem_cons.mpr ⟨List.mem_of_getElem? (i := 0) rfl, List.forall_mem_cons.mpr ⟨List.mem_of_getElem? (i := 2) rfl, List.forall_mem_cons.mpr ⟨List.mem_of_getElem? (i := 3) rfl, List.forall_mem_cons.mpr ⟨List.mem_of_getElem? (i := 4) rfl, List.forall_mem_cons.mpr ⟨List.mem_of_getElem? (i := 5) rfl, fun _ h => absurd h List.not_mem_nil⟩⟩⟩⟩⟩) ?_
                rw [show nI k + Int32.ofInt 1 = nI (k + 1) from nI_1 k, show nI ex.length = nI e'.length from (by rw [el])]
                exact ih (k + 1) e' (by omega) (by omega) (by omega) er
              ·
                have he := e0 h8
                refine ab_aload_n X 2 d_MO_behind_11 rfl rfl ?_
                refine ab_gR X fl_MO_57 d_MO_behind_12 (by first | assumption | decide | (show _ < 124; omega) | (show _ < 61; omega) | (show _ < 20; omega)) (P0.1.mo15) ?_
                refine ab_iload X 0 d_MO_behind_15 rfl ?_
                refine ab_iald X (k) ⟨rfl, rfl⟩ d_MO_behind_17 (by first | assumption | decide | (show _ < 124; omega) | (show _ < 61; omega) | (show _ < 20; omega)) (rfl) (show k < 7200 by omega) (ab_ln_lt _ _) ?_
                refine ab_sipush (v := 1000) X d_MO_behind_18 (by decide) ?_
                refine ab_idiv X d_MO_behind_21 (by decide) ?_
                refine ab_iload_n X 4 d_MO_behind_22 rfl rfl ?_
                refine ab_icmp_eq X 72 d_MO_behind_23 rfl (fun h23 => ?_) (fun h23 => ?_)
                ·
                  exact absurd (And.intro he h23) hx
                ·
                  refine ab_aload_n X 2 d_MO_behind_26 rfl rfl ?_
                  refine ab_gR X fl_MO_57 d_MO_behind_27 (by first | assumption | decide | (show _ < 124; omega) | (show _ < 61; omega) | (show _ < 20; omega)) (P0.1.mo15) ?_
                  refine ab_iload X 0 d_MO_behind_30 rfl ?_
                  refine ab_iald X (k) ⟨rfl, rfl⟩ d_MO_behind_32 (by first | assumption | decide | (show _ < 124; omega) | (show _ < 61; omega) | (show _ < 20; omega)) (rfl) (show k < 7200 by omega) (ab_ln_lt _ _) ?_
                  refine ab_sipush (v := 1000) X d_MO_behind_33 (by decide) ?_
                  refine ab_idiv X d_MO_behind_36 (by decide) ?_
                  refine ab_istore5 X 0 1 2 3 4 d_MO_behind_37 (by decide) rfl rfl rfl rfl rfl rfl rfl rfl rfl rfl ?_
                  refine ab_iload X 0 d_MO_behind_39 rfl ?_
                  refine ab_bipush (v := 12) X d_MO_behind_41 (by decide) ?_
                  refine ab_icmp_eq X 53 d_MO_behind_43 rfl (fun hb => absurd hb (h12)) (fun _ => ?_)
                  refine ab_iload X 0 d_MO_behind_46 rfl ?_
                  refine ab_bipush (v := 15) X d_MO_behind_48 (by decide) ?_
                  refine ab_icmp_ne X 56 d_MO_behind_50 rfl (fun _ => ?_) (fun hb => absurd hb (h15))
                  refine ab_iload X 0 d_MO_behind_56 rfl ?_
                  refine ab_bipush (v := 14) X d_MO_behind_58 (by decide) ?_
                  refine ab_icmp_ne X 66 d_MO_behind_60 rfl (fun _ => ?_) (fun hb => absurd hb (h14))
                  refine ab_iinc5 X 1 0 2 3 4 5 d_MO_behind_66 rfl (by decide) rfl rfl rfl rfl rfl rfl rfl rfl rfl rfl ?_
                  refine ab_goto X 7 d_MO_behind_69 rfl ?_
                  refine ab_lv (List.forall_mem_cons.mpr ⟨List.mem_of_getElem? (i := 0) rfl, List.forall_mem_cons.mpr ⟨List.mem_of_getElem? (i := 2) rfl, List.forall_mem_cons.mpr ⟨List.mem_of_getElem? (i := 3) rfl, List.forall_mem_cons.mpr ⟨List.mem_of_getElem? (i := 4) rfl, List.forall_mem_cons.mpr ⟨List.mem_of_getElem? (i := 5) rfl, fun _ h => absurd h List.not_mem_nil⟩⟩⟩⟩⟩) ?_
                  rw [show nI k + Int32.ofInt 1 = nI (k + 1) from nI_1 k, show nI ex.length = nI e'.length from (by rw [el])]
                  exact ih (k + 1) e' (by omega) (by omega) (by omega) er
  refine ab_iconst (v := 0) X d_MO_behind_0 (by decide) ?_
  refine ab_istore_n3 X 0 1 2 d_MO_behind_1 rfl (by decide) rfl rfl rfl rfl rfl rfl ?_
  refine ab_iload_n X 2 d_MO_behind_2 rfl rfl ?_
  refine ab_iconst (v := 1) X d_MO_behind_3 (by decide) ?_
  refine ab_iadd X d_MO_behind_4 ?_
  refine ab_top (nI_1 _) ?_
  refine ab_istore4 X 0 1 2 3 d_MO_behind_5 (by decide) rfl rfl rfl rfl rfl rfl rfl rfl ?_
  exact loop (n - (i + 1)) (i + 1) [] (by omega) (by omega) (Nat.zero_le _) hr
end SaMMach

