/-! The reader: every call comes to its end. -/
theorem nI_ltl {a b : Nat} (h : nI a < nI b) (ha : a < 2 ^ 31) : a < b := Nat.lt_of_not_le fun q => absurd h (Int32.not_lt.mpr (nI_le q ha))
section SaRead
variable {l : Launch} {D : va_G} {ca : Nat → ClassId}
theorem s_RD_refuse (u : ab_S) (x : Int32) (h : CI u) : ab_C false l D ca y_RD_refuse b_RD_refuse 2 (some .boolean) 0 ab_nQ u [ab_O 1 0, ab_I x] (fun u' v => cP [1, 2, 10] u u' ∧ ∃ b : Int32, (b = 0 ∨ b = 1) ∧ v = some (ab_I b)) := by
  refine ab_C_mono (c_RD_refuse u x (by decide)) ?_
  rintro u' v ⟨rfl, rfl⟩
  exact ⟨(cQ.rf h : cP [1, 2, 10] u u).ui rfl (by decide), 0, Or.inl rfl, rfl⟩
end SaRead

