theorem t1 (x : Int32) (h : 0 ≤ x) (h2 : x < 30) : x + 1 ≤ 30 := by grind
theorem t2 (x : Int32) (h : 0 ≤ x) (h2 : x < 30) : x / 5 < 6 := by grind
theorem t3 (x : Int32) (h : 0 ≤ x) (h2 : x < 30) : ¬ (x < 0 ∨ 30 ≤ x.toNatClampNeg) := by grind
theorem t4 (x y : Int32) (h : 0 ≤ x) (h2 : x < 30) (h3 : 0 ≤ y) (h4 : y < 6) : x - y < 30 := by grind
theorem t5 (k : Nat) (h : k < 30) : Int32.ofNat k / 5 = Int32.ofNat (k / 5) := by grind
theorem t6 (k : Nat) (h : k < 30) : (Int32.ofNat k).toNatClampNeg = k := by grind
theorem t7 (k : Nat) (h : k < 30) : Int32.ofNat k < 30 := by grind
theorem t8 (k : Nat) (h : k < 30) : Int32.ofNat k + 1 = Int32.ofNat (k + 1) := by simp
theorem t9 (k : Nat) (h : k < 30) : Int32.ofNat k + 1 = Int32.ofNat (k + 1) := by grind
theorem t10 : (17 : Int32) / 5 = 3 := by simp
theorem t11 : ((17 : Int32) - 17 / 5 * 5).toNatClampNeg = 2 := by simp
theorem t12 : ((17 : Int32) - 17 / 5 * 5).toNatClampNeg = 2 := by decide
theorem t13 (f : Nat → Int32) (h : f 3 ≤ 5) (g : 0 ≤ f 3): f 3 + 1 ≤ 6 := by grind
theorem t14 (x : Int32) (h : 0 ≤ x) (h2 : x < 30) : (x / 5).toInt = x.toInt / 5 := by
  rw [Int32.toInt_div]
  sorry
