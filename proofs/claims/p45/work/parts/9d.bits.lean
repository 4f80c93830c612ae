/-! part 9d: sets of cells as bits -/
theorem kn_or {a b : Nat} (ha : a < 1073741824) (hb : b < 1073741824) : ki (a : Int) ||| ki (b : Int) = ki ((a ||| b : Nat) : Int) := by
  have hc : a ||| b < 1073741824 := Nat.or_lt_two_pow (n := 30) ha hb
  apply Int32.toBitVec.inj
  show (ki (a : Int)).toBitVec ||| (ki (b : Int)).toBitVec = _
  rw [kn_bv, kn_bv, kn_bv]
  apply BitVec.eq_of_toNat_eq
  rw [BitVec.toNat_or, BitVec.toNat_ofNat, BitVec.toNat_ofNat, BitVec.toNat_ofNat, Nat.mod_eq_of_lt (a := a) (by omega), Nat.mod_eq_of_lt (a := b) (by omega), Nat.mod_eq_of_lt (a := a ||| b) (by omega)]
def dN (a b : Nat) : Nat := a &&& (b ^^^ 4294967295)
theorem dN_lt {a b : Nat} (ha : a < 1073741824) : dN a b < 1073741824 := Nat.lt_of_le_of_lt Nat.and_le_left ha
theorem hi_f {a i : Nat} (ha : a < 1073741824) (hi : 30 ≤ i) : a.testBit i = false := Nat.testBit_lt_two_pow (Nat.lt_of_lt_of_le (show a < 2 ^ 30 from ha) (Nat.pow_le_pow_right (by omega) hi))
theorem dN_tb {a b i : Nat} (ha : a < 1073741824) : (dN a b).testBit i = (a.testBit i && !b.testBit i) := by
  unfold dN
  rw [Nat.testBit_and, Nat.testBit_xor, show (4294967295 : Nat) = 2 ^ 32 - 1 from rfl, Nat.testBit_two_pow_sub_one]
  by_cases h : i < 32
  · rw [decide_eq_true h]; cases a.testBit i <;> cases b.testBit i <;> rfl
  · rw [hi_f ha (by omega)]; rfl
theorem xor_m32 {b : Nat} (hb : b < 1073741824) : b ^^^ 4294967295 < 4294967296 := Nat.xor_lt_two_pow (n := 32) (show b < 2 ^ 32 by omega) (by decide)
theorem kn_dif {a b : Nat} (ha : a < 1073741824) (hb : b < 1073741824) : ki (a : Int) &&& (ki (b : Int) ^^^ ki (-1)) = ki ((dN a b : Nat) : Int) := by
  have hc := dN_lt (b := b) ha
  have hx := xor_m32 hb
  have em : (ki (-1)).toBitVec = BitVec.ofNat 32 4294967295 := rfl
  apply Int32.toBitVec.inj
  show (ki (a : Int)).toBitVec &&& ((ki (b : Int)).toBitVec ^^^ (ki (-1)).toBitVec) = _
  rw [kn_bv, kn_bv, kn_bv, em]
  apply BitVec.eq_of_toNat_eq
  rw [BitVec.toNat_and, BitVec.toNat_xor, BitVec.toNat_ofNat, BitVec.toNat_ofNat, BitVec.toNat_ofNat, BitVec.toNat_ofNat, Nat.mod_eq_of_lt (a := a) (by omega), Nat.mod_eq_of_lt (a := b) (by omega), Nat.mod_eq_of_lt (a := dN a b) (by omega), Nat.mod_eq_of_lt (a := 4294967295) (by decide)]
  rfl
theorem kn_1 : ∀ c : Nat, c < 30 → ki 1 <<< (ki (c : Int) &&& ki 31) = ki ((2 ^ c : Nat) : Int) ∧ kj 1 <<< ((ki (c : Int)).toInt64 &&& kj 63) = kj ((2 ^ c : Nat) : Int) ∧ 2 ^ c < 1073741824 := by decide +kernel
theorem kn_tb {a c : Nat} (ha : a < 1073741824) (hc : c < 30) : (ki (a : Int) >>> (ki (c : Int) &&& ki 31)) &&& ki 1 = ki (if a.testBit c = true then 1 else 0) := by
  rw [ki_sr (by omega) (by omega) (by omega), ki_and1 (Int.ediv_nonneg (by omega) (Int.natCast_nonneg _)) (Int.lt_of_le_of_lt (Int.ediv_le_self _ (by omega)) (by omega))]
  congr 1
  rw [Nat.testBit_eq_decide_div_mod_eq]
  have e : ((a : Int) / ((2 ^ c : Nat) : Int) % 2) = ((a / 2 ^ c % 2 : Nat) : Int) := by
    rw [Int.natCast_emod, Int.natCast_ediv]; rfl
  rw [e]
  have h2 : a / 2 ^ c % 2 < 2 := Nat.mod_lt _ (by omega)
  by_cases h : a / 2 ^ c % 2 = 1
  · rw [if_pos (decide_eq_true h), h]; rfl
  · rw [if_neg (by rw [decide_eq_false h]; decide), show a / 2 ^ c % 2 = 0 by omega]; rfl
/-- the lowest bit -/
theorem odd_p : ∀ u : Nat, u ≠ 0 → ∃ i q, u = 2 ^ i * (2 * q + 1) := by
  intro u
  induction u using Nat.strongRecOn with
  | _ u ih =>
    intro h
    by_cases e : u % 2 = 1
    · exact ⟨0, u / 2, by omega⟩
    · obtain ⟨i, q, hq⟩ := ih (u / 2) (by omega) (by omega)
      refine ⟨i + 1, q, ?_⟩
      rw [Nat.pow_succ, Nat.mul_assoc, Nat.mul_comm 2, ← Nat.mul_assoc, ← hq]
      omega
theorem tb_odd (i q j : Nat) : (2 ^ i * (2 * q + 1)).testBit j = (decide (j = i) || (decide (i < j) && q.testBit (j - i - 1))) := by
  have h := Nat.testBit_two_pow_mul_add (2 * q + 1) (b := 0) (i := i) (Nat.pow_pos (by omega)) j
  rw [Nat.add_zero] at h
  rw [h]
  by_cases h1 : j < i
  · rw [if_pos h1, Nat.zero_testBit, decide_eq_false (by omega), decide_eq_false (by omega)]; rfl
  · rw [if_neg h1]
    by_cases h2 : j = i
    · subst h2
      rw [Nat.sub_self, Nat.testBit_zero, decide_eq_true (by omega), decide_eq_true rfl]; rfl
    · obtain ⟨d, hd⟩ : ∃ d, j - i = d + 1 := ⟨j - i - 1, by omega⟩
      rw [hd, Nat.testBit_succ, show (2 * q + 1) / 2 = q by omega, decide_eq_false h2, decide_eq_true (by omega), show d + 1 - 1 = d by omega]; rfl
theorem low_n {u : Nat} (h0 : u ≠ 0) (h1 : u < 1073741824) : ∃ i, i < 30 ∧ u.testBit i = true ∧ u &&& (4294967296 - u) = 2 ^ i := by
  obtain ⟨i, q, e⟩ := odd_p u h0
  have hp : 0 < 2 ^ i := Nat.pow_pos (by omega)
  have hle : 2 ^ i ≤ u := by rw [e]; exact Nat.le_mul_of_pos_right _ (by omega)
  have hi : i < 30 := by
    refine Classical.byContradiction (fun hq => ?_)
    have := Nat.pow_le_pow_right (n := 2) (by omega) (show 30 ≤ i by omega)
    omega
  have h32 : 2 ^ i * 2 ^ (31 - i) * 2 = 4294967296 := by
    rw [← Nat.pow_add, show i + (31 - i) = 31 by omega]
  have hq : q < 2 ^ (31 - i) := by
    refine Classical.byContradiction (fun hn => ?_)
    have a1 : 2 ^ i * 2 ^ (31 - i) ≤ 2 ^ i * q := Nat.mul_le_mul_left _ (by omega)
    have a2 : 2 ^ i * (2 * q + 1) = 2 * (2 ^ i * q) + 2 ^ i := by rw [Nat.mul_add, Nat.mul_one, Nat.mul_left_comm]
    omega
  have e2 : 4294967296 - u = 2 ^ i * (2 * (2 ^ (31 - i) - (q + 1)) + 1) := by
    have a2 : 2 ^ i * (2 * q + 1) = 2 * (2 ^ i * q) + 2 ^ i := by rw [Nat.mul_add, Nat.mul_one, Nat.mul_left_comm]
    have a3 : 2 ^ i * (2 * (2 ^ (31 - i) - (q + 1)) + 1) = 2 * (2 ^ i * (2 ^ (31 - i) - (q + 1))) + 2 ^ i := by rw [Nat.mul_add, Nat.mul_one, Nat.mul_left_comm]
    have a4 : 2 ^ i * (2 ^ (31 - i) - (q + 1)) = 2 ^ i * 2 ^ (31 - i) - (2 ^ i * q + 2 ^ i) := by rw [Nat.mul_sub, Nat.mul_add, Nat.mul_one]
    have a5 : 2 ^ i * (q + 1) ≤ 2 ^ i * 2 ^ (31 - i) := Nat.mul_le_mul_left _ hq
    rw [Nat.mul_add, Nat.mul_one] at a5
    rw [e, a2, a3, a4]
    omega
  refine ⟨i, hi, ?_, ?_⟩
  · rw [e, tb_odd, decide_eq_true rfl]; rfl
  · refine Nat.eq_of_testBit_eq (fun j => ?_)
    rw [e2, Nat.testBit_and, Nat.testBit_two_pow]
    conv => lhs; arg 1; rw [e]
    rw [tb_odd, tb_odd, Nat.testBit_two_pow_sub_succ hq]
    by_cases h2 : j = i
    · subst h2; rw [decide_eq_true rfl]; rfl
    · rw [decide_eq_false h2, decide_eq_false (show ¬ i = j from fun w => h2 w.symm)]
      cases decide (i < j) <;> cases q.testBit (j - i - 1) <;> cases decide (j - i - 1 < 31 - i) <;> rfl
theorem bcL_dec : ∀ i : Nat, i < 30 → (f_J6_bitCount_0f7a4 S00 (ki ((2 ^ i : Nat) : Int) - ki 1)).map (fun q => q.2) = some (ki (i : Int)) := by decide +kernel
def LwB (u : Nat) : Nat := Nat.log2 (u &&& (4294967296 - u))
theorem x_lowB {S : xSt} {u : Nat} (h0 : u ≠ 0) (h1 : u < 1073741824) : ∃ i : Nat, i < 30 ∧ LwB u = i ∧ f_X11_lowestBit S (ki (u : Int)) = some (S, ki (i : Int)) := by
  obtain ⟨i, hi, ht, e⟩ := low_n h0 h1
  refine ⟨i, hi, by unfold LwB; rw [e, Nat.log2_two_pow], ?_⟩
  have hp := (kn_1 i hi).2.2
  have en : ki (u : Int) &&& -ki (u : Int) = ki ((2 ^ i : Nat) : Int) := by
    apply Int32.toBitVec.inj
    show (ki (u : Int)).toBitVec &&& -(ki (u : Int)).toBitVec = _
    rw [kn_bv, kn_bv]
    apply BitVec.eq_of_toNat_eq
    rw [BitVec.toNat_and, BitVec.toNat_neg, BitVec.toNat_ofNat, BitVec.toNat_ofNat, Nat.mod_eq_of_lt (a := u) (by omega), Nat.mod_eq_of_lt (a := 2 ^ i) (by omega), Nat.mod_eq_of_lt (a := 2 ^ 32 - u) (by omega)]
    exact e
  have en' : ki (u : Int) &&& ki (-(u : Int)) = ki ((2 ^ i : Nat) : Int) := by
    rw [← ki_neg]; exact en
  have hb := bcL_dec i hi
  have hb' : f_J6_bitCount_0f7a4 S (ki (((2 ^ i : Nat) : Int) - 1)) = some (S, ki (i : Int)) := by
    rw [bc_any, ← ki_sub]
    cases h : f_J6_bitCount_0f7a4 S00 (ki ((2 ^ i : Nat) : Int) - ki 1) with
    | none => rw [h] at hb; cases hb
    | some q =>
      rw [h] at hb
      have hq : q.2 = ki (i : Int) := by injection hb
      show (some (S, q.2) : Option (xSt × Int32)) = _
      rw [hq]
  generalize 2 ^ i = w at *
  clear e hb en
  unfold f_X11_lowestBit f_X11_lowestBit_0
  apply wp_eq
  repeat' first
    | with_reducible apply wp_bd
      · (try simp (disch := omega) only [bi, Int.add_zero, Int.zero_add, true_or, or_true, true_and, and_true, not_false_eq_true, not_true_eq_false, if_true, if_false, if_pos, if_neg, ki_add, ki_sub, ki_mul, ki_neg, ki_lt, ki_le, ki_eq, ki_cl, ki_div, ki_ite, ck5, kl_0, kl_1, kl_2, kl_3, kl_4, kl_5, kl_6, kl_7, kl_8, kl_9, kl_10, kl_11, kl_12, kl_13, kl_14, kl_16, kl_20, kl_21, kl_30, kl_31, kl_32, kl_33, kl_35, kl_37, kl_38, kl_39, kl_40, kl_41, kl_42, kl_43, kl_45, kl_47, kl_48, kl_50, kl_57, kl_59, kl_60, kl_61, kl_62, kl_63, kl_64, kl_97, kl_98, kl_99, kl_100, kl_101, kl_102, kl_103, kl_104, kl_105, kl_106, kl_107, kl_108, kl_109, kl_110, kl_111, kl_112, kl_113, kl_114, kl_115, kl_120, kl_124, kl_126, kl_127, kl_255, kl_720, kl_2048, kl_252645135, kl_858993459, kl_1431655765, kl_1640531535, kl_2000000000, en', hb'])
        rfl
    | with_reducible apply wp_in
      · (try simp (disch := omega) only [bi, Int.add_zero, Int.zero_add, true_or, or_true, true_and, and_true, not_false_eq_true, not_true_eq_false, if_true, if_false, if_pos, if_neg, ki_add, ki_sub, ki_mul, ki_neg, ki_lt, ki_le, ki_eq, ki_cl, ki_div, ki_ite, ck5, kl_0, kl_1, kl_2, kl_3, kl_4, kl_5, kl_6, kl_7, kl_8, kl_9, kl_10, kl_11, kl_12, kl_13, kl_14, kl_16, kl_20, kl_21, kl_30, kl_31, kl_32, kl_33, kl_35, kl_37, kl_38, kl_39, kl_40, kl_41, kl_42, kl_43, kl_45, kl_47, kl_48, kl_50, kl_57, kl_59, kl_60, kl_61, kl_62, kl_63, kl_64, kl_97, kl_98, kl_99, kl_100, kl_101, kl_102, kl_103, kl_104, kl_105, kl_106, kl_107, kl_108, kl_109, kl_110, kl_111, kl_112, kl_113, kl_114, kl_115, kl_120, kl_124, kl_126, kl_127, kl_255, kl_720, kl_2048, kl_252645135, kl_858993459, kl_1431655765, kl_1640531535, kl_2000000000, en', hb'])
        rfl
      · decide
      · omega
      · omega
    | with_reducible apply wp_gd
      · (try simp (disch := omega) only [bi, Int.add_zero, Int.zero_add, true_or, or_true, true_and, and_true, not_false_eq_true, not_true_eq_false, if_true, if_false, if_pos, if_neg, ki_add, ki_sub, ki_mul, ki_neg, ki_lt, ki_le, ki_eq, ki_cl, ki_div, ki_ite, ck5, kl_0, kl_1, kl_2, kl_3, kl_4, kl_5, kl_6, kl_7, kl_8, kl_9, kl_10, kl_11, kl_12, kl_13, kl_14, kl_16, kl_20, kl_21, kl_30, kl_31, kl_32, kl_33, kl_35, kl_37, kl_38, kl_39, kl_40, kl_41, kl_42, kl_43, kl_45, kl_47, kl_48, kl_50, kl_57, kl_59, kl_60, kl_61, kl_62, kl_63, kl_64, kl_97, kl_98, kl_99, kl_100, kl_101, kl_102, kl_103, kl_104, kl_105, kl_106, kl_107, kl_108, kl_109, kl_110, kl_111, kl_112, kl_113, kl_114, kl_115, kl_120, kl_124, kl_126, kl_127, kl_255, kl_720, kl_2048, kl_252645135, kl_858993459, kl_1431655765, kl_1640531535, kl_2000000000, en', hb'])
        rfl
      · first | exact True.intro | omega | assumption
    | with_reducible apply wp_is
      · (try simp (disch := omega) only [bi, Int.add_zero, Int.zero_add, true_or, or_true, true_and, and_true, not_false_eq_true, not_true_eq_false, if_true, if_false, if_pos, if_neg, ki_add, ki_sub, ki_mul, ki_neg, ki_lt, ki_le, ki_eq, ki_cl, ki_div, ki_ite, ck5, kl_0, kl_1, kl_2, kl_3, kl_4, kl_5, kl_6, kl_7, kl_8, kl_9, kl_10, kl_11, kl_12, kl_13, kl_14, kl_16, kl_20, kl_21, kl_30, kl_31, kl_32, kl_33, kl_35, kl_37, kl_38, kl_39, kl_40, kl_41, kl_42, kl_43, kl_45, kl_47, kl_48, kl_50, kl_57, kl_59, kl_60, kl_61, kl_62, kl_63, kl_64, kl_97, kl_98, kl_99, kl_100, kl_101, kl_102, kl_103, kl_104, kl_105, kl_106, kl_107, kl_108, kl_109, kl_110, kl_111, kl_112, kl_113, kl_114, kl_115, kl_120, kl_124, kl_126, kl_127, kl_255, kl_720, kl_2048, kl_252645135, kl_858993459, kl_1431655765, kl_1640531535, kl_2000000000, en', hb'])
        rfl
      all_goals intro _
      all_goals try (exfalso; first | (rename_i q; exact q trivial) | (rename_i q; exact q) | omega)
    | with_reducible apply wp_mr
    | with_reducible apply wp_b
      · simp (disch := omega) only [Int.add_zero, Int.zero_add, true_or, or_true, true_and, and_true, not_false_eq_true, not_true_eq_false, if_true, if_false, if_pos, if_neg, ki_add, ki_sub, ki_mul, ki_neg, ki_lt, ki_le, ki_eq, ki_cl, ki_div, ki_ite, ck5, kl_0, kl_1, kl_2, kl_3, kl_4, kl_5, kl_6, kl_7, kl_8, kl_9, kl_10, kl_11, kl_12, kl_13, kl_14, kl_16, kl_20, kl_21, kl_30, kl_31, kl_32, kl_33, kl_35, kl_37, kl_38, kl_39, kl_40, kl_41, kl_42, kl_43, kl_45, kl_47, kl_48, kl_50, kl_57, kl_59, kl_60, kl_61, kl_62, kl_63, kl_64, kl_97, kl_98, kl_99, kl_100, kl_101, kl_102, kl_103, kl_104, kl_105, kl_106, kl_107, kl_108, kl_109, kl_110, kl_111, kl_112, kl_113, kl_114, kl_115, kl_120, kl_124, kl_126, kl_127, kl_255, kl_720, kl_2048, kl_252645135, kl_858993459, kl_1431655765, kl_1640531535, kl_2000000000, en', hb']
        rfl
      all_goals intro _
      all_goals try (exfalso; first | (rename_i q; exact q trivial) | (rename_i q; exact q) | omega)
    | with_reducible apply wp_oe
      · simp (disch := omega) only [Int.add_zero, Int.zero_add, true_or, or_true, true_and, and_true, not_false_eq_true, not_true_eq_false, if_true, if_false, if_pos, if_neg, ki_add, ki_sub, ki_mul, ki_neg, ki_lt, ki_le, ki_eq, ki_cl, ki_div, ki_ite, ck5, kl_0, kl_1, kl_2, kl_3, kl_4, kl_5, kl_6, kl_7, kl_8, kl_9, kl_10, kl_11, kl_12, kl_13, kl_14, kl_16, kl_20, kl_21, kl_30, kl_31, kl_32, kl_33, kl_35, kl_37, kl_38, kl_39, kl_40, kl_41, kl_42, kl_43, kl_45, kl_47, kl_48, kl_50, kl_57, kl_59, kl_60, kl_61, kl_62, kl_63, kl_64, kl_97, kl_98, kl_99, kl_100, kl_101, kl_102, kl_103, kl_104, kl_105, kl_106, kl_107, kl_108, kl_109, kl_110, kl_111, kl_112, kl_113, kl_114, kl_115, kl_120, kl_124, kl_126, kl_127, kl_255, kl_720, kl_2048, kl_252645135, kl_858993459, kl_1431655765, kl_1640531535, kl_2000000000, en', hb']
        try rfl
    | with_reducible apply wp_sv
      · (try simp (disch := omega) only [bi, Int.add_zero, Int.zero_add, true_or, or_true, true_and, and_true, not_false_eq_true, not_true_eq_false, if_true, if_false, if_pos, if_neg, ki_add, ki_sub, ki_mul, ki_neg, ki_lt, ki_le, ki_eq, ki_cl, ki_div, ki_ite, ck5, kl_0, kl_1, kl_2, kl_3, kl_4, kl_5, kl_6, kl_7, kl_8, kl_9, kl_10, kl_11, kl_12, kl_13, kl_14, kl_16, kl_20, kl_21, kl_30, kl_31, kl_32, kl_33, kl_35, kl_37, kl_38, kl_39, kl_40, kl_41, kl_42, kl_43, kl_45, kl_47, kl_48, kl_50, kl_57, kl_59, kl_60, kl_61, kl_62, kl_63, kl_64, kl_97, kl_98, kl_99, kl_100, kl_101, kl_102, kl_103, kl_104, kl_105, kl_106, kl_107, kl_108, kl_109, kl_110, kl_111, kl_112, kl_113, kl_114, kl_115, kl_120, kl_124, kl_126, kl_127, kl_255, kl_720, kl_2048, kl_252645135, kl_858993459, kl_1431655765, kl_1640531535, kl_2000000000, en', hb'])
        rfl
    | with_reducible apply wp_so
  all_goals rfl
