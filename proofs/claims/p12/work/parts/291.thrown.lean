/-! thrown -/
section AbMTh
variable {l : Launch} {D : va_G} {ca : Nat → ClassId} {N : Nat → Nat}
abbrev b_MO_thrown : ByteArray := prog_10_method_54_code
def y_MO_thrown : MethodName := ⟨"PolicyForgeModel", "thrown", "()I"⟩
theorem d_MO_thrown_0 : decode b_MO_thrown 0 = .ok (.aload_n 0, 1) := by decide +kernel
theorem d_MO_thrown_1 : decode b_MO_thrown 1 = .ok (.getfield 7, 3) := by decide +kernel
theorem d_MO_thrown_4 : decode b_MO_thrown 4 = .ok (.ireturn, 1) := by decide +kernel
theorem c_MO_thrown (u : ab_S) (h17 : 0 < N 17) : ab_C false l D ca y_MO_thrown b_MO_thrown 1 (some .int) 0 N u [ab_O 17 0] (fun u' v => u' = u ∧ v = some (ab_I (u.1 17 0 0))) := by
  refine ab_C.of (by decide) (Nat.le_of_ble_eq_true rfl) ?_
  intro p e s m args below meth c ad X hZ hr0 hlk
  refine ab_aload_n X 0 d_MO_thrown_0 rfl rfl ?_
  refine ab_gI X fl_MO_7 d_MO_thrown_1 (by first | assumption | decide) (rfl) ?_
  exact ab_reti X hr0 hlk d_MO_thrown_4 ⟨rfl, rfl⟩
end AbMTh

