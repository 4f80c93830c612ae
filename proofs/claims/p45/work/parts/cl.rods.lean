/-! part cl: what rods says: Long.bitCount -/
theorem tbd (m i : Nat) : m.testBit i = true ↔ m / 2 ^ i % 2 = 1 := by
  rw [Nat.testBit_eq_decide_div_mod_eq, decide_eq_true_eq]
theorem kjb (n : Nat) : (kj (n : Int)).toBitVec = BitVec.ofNat 64 n := by
  show BitVec.ofInt 64 (n : Int) = _
  exact BitVec.ofInt_natCast ..
theorem kj_and {x y : Nat} (hx : x < 2 ^ 64) (hy : y < 2 ^ 64) : kj (x : Int) &&& kj (y : Int) = kj ((x &&& y : Nat) : Int) := by
  apply Int64.toBitVec.inj
  show (kj (x : Int)).toBitVec &&& (kj (y : Int)).toBitVec = _
  rw [kjb, kjb, kjb]
  apply BitVec.eq_of_toNat_eq
  have h : x &&& y < 2 ^ 64 := Nat.and_lt_two_pow _ hy
  rw [BitVec.toNat_and, BitVec.toNat_ofNat, BitVec.toNat_ofNat, BitVec.toNat_ofNat, Nat.mod_eq_of_lt hx, Nat.mod_eq_of_lt hy, Nat.mod_eq_of_lt h]
theorem kj_add (x y : Nat) : kj (x : Int) + kj (y : Int) = kj ((x + y : Nat) : Int) := by
  apply Int64.toBitVec.inj
  show (kj (x : Int)).toBitVec + (kj (y : Int)).toBitVec = _
  rw [kjb, kjb, kjb, BitVec.ofNat_add]
theorem kj_sub {x y : Nat} (h : y ≤ x) : kj (x : Int) - kj (y : Int) = kj ((x - y : Nat) : Int) := by
  obtain ⟨t, rfl⟩ : ∃ t, x = t + y := ⟨x - y, by omega⟩
  rw [← kj_add, Nat.add_sub_cancel]
  apply Int64.toBitVec.inj
  show ((kj (t : Int)).toBitVec + (kj (y : Int)).toBitVec) - (kj (y : Int)).toBitVec = _
  rw [BitVec.add_sub_cancel]
theorem kj_shr {x : Nat} (hx : x < 2 ^ 63) {c : UInt64} {j : Nat} (hj : j < 64) (hc : c.toBitVec = BitVec.ofNat 64 j) : ((kj (x : Int)).toUInt64 >>> c).toInt64 = kj ((x / 2 ^ j : Nat) : Int) := by
  apply Int64.toBitVec.inj
  show (kj (x : Int)).toBitVec >>> (c.toBitVec % 64) = _
  rw [hc, kjb, kjb]
  apply BitVec.eq_of_toNat_eq
  have e : ((BitVec.ofNat 64 j) % 64).toNat = j := by
    rw [BitVec.toNat_umod, BitVec.toNat_ofNat]
    show j % 2 ^ 64 % 64 = j
    omega
  have h : x / 2 ^ j < 2 ^ 64 := Nat.lt_of_le_of_lt (Nat.div_le_self _ _) (by omega)
  rw [BitVec.ushiftRight_eq', e, BitVec.toNat_ushiftRight, BitVec.toNat_ofNat, BitVec.toNat_ofNat, Nat.mod_eq_of_lt (by omega), Nat.mod_eq_of_lt h, Nat.shiftRight_eq_div_pow]
def pq3 (x : Nat) : Nat := x - (x / 2 ^ 1 &&& 6148914691236517205)
def pq7 (x : Nat) : Nat := (pq3 x &&& 3689348814741910323) + (pq3 x / 2 ^ 2 &&& 3689348814741910323)
def pq10 (x : Nat) : Nat := pq7 x + pq7 x / 2 ^ 4 &&& 1085102592571150095
def pq12 (x : Nat) : Nat := pq10 x + pq10 x / 2 ^ 8
def pq14 (x : Nat) : Nat := pq12 x + pq12 x / 2 ^ 16
def pq16 (x : Nat) : Nat := pq14 x + pq14 x / 2 ^ 32
theorem v127 (x : Nat) : ki (x : Int) &&& (127 : Int32) = ki ((x % 128 : Nat) : Int) := by
  apply Int32.toBitVec.inj
  show (ki (x : Int)).toBitVec &&& (127 : Int32).toBitVec = _
  rw [kn_bv, kn_bv]
  apply BitVec.eq_of_toNat_eq
  rw [BitVec.toNat_and, BitVec.toNat_ofNat, BitVec.toNat_ofNat]
  show x % 2 ^ 32 &&& 127 = x % 128 % 2 ^ 32
  rw [show (127 : Nat) = 2 ^ 7 - 1 from rfl, Nat.and_two_pow_sub_one_eq_mod]
  omega
theorem x_bj {S : xSt} {x : Nat} (hx : x < 1073741824) : f_J13_bitCount_95d88 S (kj (x : Int)) = some (S, ki ((pq16 x % 128 : Nat) : Int)) := by
  have b3 : pq3 x ≤ x := Nat.sub_le _ _
  have a1 : pq3 x &&& 3689348814741910323 ≤ pq3 x := Nat.and_le_left
  have a2 : pq3 x / 2 ^ 2 &&& 3689348814741910323 ≤ pq3 x / 2 ^ 2 := Nat.and_le_left
  have b7 : pq7 x ≤ 2 * x := by unfold pq7; omega
  have a3 : pq7 x + pq7 x / 2 ^ 4 &&& 1085102592571150095 ≤ pq7 x + pq7 x / 2 ^ 4 := Nat.and_le_left
  have b10 : pq10 x ≤ 4 * x := by unfold pq10; omega
  have b12 : pq12 x ≤ 8 * x := by unfold pq12; omega
  have b14 : pq14 x ≤ 16 * x := by unfold pq14; omega
  have b16 : pq16 x ≤ 32 * x := by unfold pq16; omega
  have h1 : x / 2 ^ 1 &&& 6148914691236517205 ≤ x := Nat.le_trans Nat.and_le_left (by omega)
  have e5 : (6148914691236517205 : Int64) = kj ((6148914691236517205 : Nat) : Int) := by decide
  have e3 : (3689348814741910323 : Int64) = kj ((3689348814741910323 : Nat) : Int) := by decide
  have ef : (1085102592571150095 : Int64) = kj ((1085102592571150095 : Nat) : Int) := by decide
  apply wp_eq
  unfold f_J13_bitCount_95d88 f_J13_bitCount_95d88_0
  refine wp_bd (kj_shr (j := 1) (by omega) (by omega) (by decide)) ?_
  refine wp_bd (x' := kj ((x / 2 ^ 1 &&& 6148914691236517205 : Nat) : Int)) (by rw [e5]; exact kj_and (by omega) (by omega)) ?_
  refine wp_bd (kj_sub h1) ?_
  refine wp_bd (x' := kj ((pq3 x &&& 3689348814741910323 : Nat) : Int)) (by rw [e3]; exact kj_and (x := pq3 x) (by omega) (by omega)) ?_
  refine wp_bd (kj_shr (x := pq3 x) (j := 2) (by omega) (by omega) (by decide)) ?_
  refine wp_bd (x' := kj ((pq3 x / 2 ^ 2 &&& 3689348814741910323 : Nat) : Int)) (by rw [e3]; exact kj_and (by omega) (by omega)) ?_
  refine wp_bd (kj_add _ _) ?_
  refine wp_bd (kj_shr (x := pq7 x) (j := 4) (by omega) (by omega) (by decide)) ?_
  refine wp_bd (kj_add (pq7 x) _) ?_
  refine wp_bd (x' := kj ((pq7 x + pq7 x / 2 ^ 4 &&& 1085102592571150095 : Nat) : Int)) (by rw [ef]; exact kj_and (by omega) (by omega)) ?_
  refine wp_bd (kj_shr (x := pq10 x) (j := 8) (by omega) (by omega) (by decide)) ?_
  refine wp_bd (kj_add (pq10 x) _) ?_
  refine wp_bd (kj_shr (x := pq12 x) (j := 16) (by omega) (by omega) (by decide)) ?_
  refine wp_bd (kj_add (pq12 x) _) ?_
  refine wp_bd (kj_shr (x := pq14 x) (j := 32) (by omega) (by omega) (by decide)) ?_
  refine wp_bd (kj_add (pq14 x) _) ?_
  refine wp_bd (kj_32 _) ?_
  refine wp_bd (v127 (pq16 x)) ?_
  exact ⟨_, rfl, rfl⟩
