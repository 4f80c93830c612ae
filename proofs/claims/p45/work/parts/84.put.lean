/-! part 84: put, element -/
theorem i8_kj (b : Int8) : ∃ v : Int, -128 ≤ v ∧ v < 128 ∧ b.toInt32.toInt64 = kj v := by
  have h1 := b.le_toInt
  have h2 := b.toInt_lt
  refine ⟨b.toInt, by omega, by omega, ?_⟩
  apply Int64.toInt_inj.mp
  rw [Int32.toInt_toInt64, Int8.toInt_toInt32, kj_ti (by omega) (by omega)]
