/-! part 9w: law: both alike -/
theorem xcpi_9 {S : xSt} {ks kd n k j : Nat} : (xcpi S ks 0 kd 0 n).1 k j = if k = kd ∧ 0 ≤ j ∧ j < 0 + n then S.1 ks (0 + (j - 0)) else S.1 k j := rfl
theorem xcpi_y {S : xSt} {ks kd n j : Nat} (h : j < n) : (xcpi S ks 0 kd 0 n).1 kd j = S.1 ks j := by
  rw [xcpi_9, if_pos ⟨rfl, by omega, by omega⟩, show 0 + (j - 0) = j by omega]
theorem xcpi_n {S : xSt} {ks kd n k j : Nat} (h : k ≠ kd) : (xcpi S ks 0 kd 0 n).1 k j = S.1 k j := by
  rw [xcpi_9, if_neg (fun q => h q.1)]
theorem x_become {S : xSt} : wp (f_X5_become S) (fun q => eq_ (fun k _ => (8 ≤ k ∧ k ≤ 12) ∨ k = 15) S q.1 ∧ q.1.2 = S.2 ∧ q.1.1 8 0 = S.1 2 7 ∧ (∀ j, j < 120 → q.1.1 9 j = S.1 4 j ∧ q.1.1 10 j = S.1 5 j ∧ q.1.1 11 j = S.1 6 j ∧ q.1.1 12 j = S.1 7 j) ∧ (∀ j, j < 2048 → q.1.1 15 j = ki 0)) := by
  obtain ⟨v, ev, v0, v1⟩ := ki_of (S.1 2 7)
  have kz : (0 : Int).toNat = 0 := rfl
  have k12 : (120 : Int).toNat = 120 := rfl
  obtain ⟨S6, e6⟩ : ∃ S6, xcpi (xcpi (xcpi (xcpi (xsi S 8 0 (ki v)) 4 0 9 0 120) 5 0 10 0 120) 6 0 11 0 120) 7 0 12 0 120 = S6 := ⟨_, rfl⟩
  have f6 : eq_ (fun k _ => (8 ≤ k ∧ k ≤ 12) ∨ k = 15) S S6 := fun k j q => by
    rw [← e6, xcpi_n (by omega), xcpi_n (by omega), xcpi_n (by omega), xcpi_n (by omega), xsi_r, if_neg (by omega)]
  have g8 : S6.1 8 0 = ki v := by
    rw [← e6, xcpi_n (by omega), xcpi_n (by omega), xcpi_n (by omega), xcpi_n (by omega), xsi_r, if_pos ⟨rfl, rfl⟩]
  have gA : ∀ j, j < 120 → S6.1 9 j = S.1 4 j ∧ S6.1 10 j = S.1 5 j ∧ S6.1 11 j = S.1 6 j ∧ S6.1 12 j = S.1 7 j := fun j hj => by
    rw [← e6]
    refine ⟨?_, ?_, ?_, ?_⟩
    · rw [xcpi_n (by omega), xcpi_n (by omega), xcpi_n (by omega), xcpi_y hj, xsi_r, if_neg (by omega)]
    · rw [xcpi_n (by omega), xcpi_n (by omega), xcpi_y hj, xcpi_n (by omega), xsi_r, if_neg (by omega)]
    · rw [xcpi_n (by omega), xcpi_y hj, xcpi_n (by omega), xcpi_n (by omega), xsi_r, if_neg (by omega)]
    · rw [xcpi_y hj, xcpi_n (by omega), xcpi_n (by omega), xcpi_n (by omega), xsi_r, if_neg (by omega)]
  have s6 : S6.2 = S.2 := by rw [← e6]; rfl
  unfold f_X5_become f_X5_become_0
  repeat' first
    | with_reducible apply wp_bd
      · (try simp (disch := omega) only [bi, Int.add_zero, Int.zero_add, true_or, or_true, true_and, and_true, not_false_eq_true, not_true_eq_false, if_true, if_false, if_pos, if_neg, ki_add, ki_sub, ki_mul, ki_neg, ki_lt, ki_le, ki_eq, ki_cl, ki_div, ki_ite, ck5, kl_0, kl_1, kl_2, kl_3, kl_4, kl_5, kl_6, kl_7, kl_8, kl_9, kl_10, kl_11, kl_12, kl_13, kl_14, kl_16, kl_20, kl_21, kl_30, kl_31, kl_32, kl_33, kl_35, kl_37, kl_38, kl_39, kl_40, kl_41, kl_42, kl_43, kl_45, kl_47, kl_48, kl_50, kl_57, kl_59, kl_60, kl_61, kl_62, kl_63, kl_64, kl_97, kl_98, kl_99, kl_100, kl_101, kl_102, kl_103, kl_104, kl_105, kl_106, kl_107, kl_108, kl_109, kl_110, kl_111, kl_112, kl_113, kl_114, kl_115, kl_120, kl_124, kl_126, kl_127, kl_255, kl_720, kl_2048, kl_252645135, kl_858993459, kl_1431655765, kl_1640531535, kl_2000000000, ev, kz, k12, e6])
        rfl
    | with_reducible apply wp_in
      · (try simp (disch := omega) only [bi, Int.add_zero, Int.zero_add, true_or, or_true, true_and, and_true, not_false_eq_true, not_true_eq_false, if_true, if_false, if_pos, if_neg, ki_add, ki_sub, ki_mul, ki_neg, ki_lt, ki_le, ki_eq, ki_cl, ki_div, ki_ite, ck5, kl_0, kl_1, kl_2, kl_3, kl_4, kl_5, kl_6, kl_7, kl_8, kl_9, kl_10, kl_11, kl_12, kl_13, kl_14, kl_16, kl_20, kl_21, kl_30, kl_31, kl_32, kl_33, kl_35, kl_37, kl_38, kl_39, kl_40, kl_41, kl_42, kl_43, kl_45, kl_47, kl_48, kl_50, kl_57, kl_59, kl_60, kl_61, kl_62, kl_63, kl_64, kl_97, kl_98, kl_99, kl_100, kl_101, kl_102, kl_103, kl_104, kl_105, kl_106, kl_107, kl_108, kl_109, kl_110, kl_111, kl_112, kl_113, kl_114, kl_115, kl_120, kl_124, kl_126, kl_127, kl_255, kl_720, kl_2048, kl_252645135, kl_858993459, kl_1431655765, kl_1640531535, kl_2000000000, ev, kz, k12, e6])
        rfl
      · decide
      · omega
      · omega
    | with_reducible apply wp_gd
      · (try simp (disch := omega) only [bi, Int.add_zero, Int.zero_add, true_or, or_true, true_and, and_true, not_false_eq_true, not_true_eq_false, if_true, if_false, if_pos, if_neg, ki_add, ki_sub, ki_mul, ki_neg, ki_lt, ki_le, ki_eq, ki_cl, ki_div, ki_ite, ck5, kl_0, kl_1, kl_2, kl_3, kl_4, kl_5, kl_6, kl_7, kl_8, kl_9, kl_10, kl_11, kl_12, kl_13, kl_14, kl_16, kl_20, kl_21, kl_30, kl_31, kl_32, kl_33, kl_35, kl_37, kl_38, kl_39, kl_40, kl_41, kl_42, kl_43, kl_45, kl_47, kl_48, kl_50, kl_57, kl_59, kl_60, kl_61, kl_62, kl_63, kl_64, kl_97, kl_98, kl_99, kl_100, kl_101, kl_102, kl_103, kl_104, kl_105, kl_106, kl_107, kl_108, kl_109, kl_110, kl_111, kl_112, kl_113, kl_114, kl_115, kl_120, kl_124, kl_126, kl_127, kl_255, kl_720, kl_2048, kl_252645135, kl_858993459, kl_1431655765, kl_1640531535, kl_2000000000, ev, kz, k12, e6])
        rfl
      · first | exact True.intro | omega | assumption
    | with_reducible apply wp_is
      · (try simp (disch := omega) only [bi, Int.add_zero, Int.zero_add, true_or, or_true, true_and, and_true, not_false_eq_true, not_true_eq_false, if_true, if_false, if_pos, if_neg, ki_add, ki_sub, ki_mul, ki_neg, ki_lt, ki_le, ki_eq, ki_cl, ki_div, ki_ite, ck5, kl_0, kl_1, kl_2, kl_3, kl_4, kl_5, kl_6, kl_7, kl_8, kl_9, kl_10, kl_11, kl_12, kl_13, kl_14, kl_16, kl_20, kl_21, kl_30, kl_31, kl_32, kl_33, kl_35, kl_37, kl_38, kl_39, kl_40, kl_41, kl_42, kl_43, kl_45, kl_47, kl_48, kl_50, kl_57, kl_59, kl_60, kl_61, kl_62, kl_63, kl_64, kl_97, kl_98, kl_99, kl_100, kl_101, kl_102, kl_103, kl_104, kl_105, kl_106, kl_107, kl_108, kl_109, kl_110, kl_111, kl_112, kl_113, kl_114, kl_115, kl_120, kl_124, kl_126, kl_127, kl_255, kl_720, kl_2048, kl_252645135, kl_858993459, kl_1431655765, kl_1640531535, kl_2000000000, ev, kz, k12, e6])
        rfl
      all_goals intro _
      all_goals try (exfalso; first | (rename_i q; exact q trivial) | (rename_i q; exact q) | omega)
    | with_reducible apply wp_mr
    | with_reducible apply wp_b
      · simp (disch := omega) only [Int.add_zero, Int.zero_add, true_or, or_true, true_and, and_true, not_false_eq_true, not_true_eq_false, if_true, if_false, if_pos, if_neg, ki_add, ki_sub, ki_mul, ki_neg, ki_lt, ki_le, ki_eq, ki_cl, ki_div, ki_ite, ck5, kl_0, kl_1, kl_2, kl_3, kl_4, kl_5, kl_6, kl_7, kl_8, kl_9, kl_10, kl_11, kl_12, kl_13, kl_14, kl_16, kl_20, kl_21, kl_30, kl_31, kl_32, kl_33, kl_35, kl_37, kl_38, kl_39, kl_40, kl_41, kl_42, kl_43, kl_45, kl_47, kl_48, kl_50, kl_57, kl_59, kl_60, kl_61, kl_62, kl_63, kl_64, kl_97, kl_98, kl_99, kl_100, kl_101, kl_102, kl_103, kl_104, kl_105, kl_106, kl_107, kl_108, kl_109, kl_110, kl_111, kl_112, kl_113, kl_114, kl_115, kl_120, kl_124, kl_126, kl_127, kl_255, kl_720, kl_2048, kl_252645135, kl_858993459, kl_1431655765, kl_1640531535, kl_2000000000, ev, kz, k12, e6]
        rfl
      all_goals intro _
      all_goals try (exfalso; first | (rename_i q; exact q trivial) | (rename_i q; exact q) | omega)
    | with_reducible apply wp_oe
      · simp (disch := omega) only [Int.add_zero, Int.zero_add, true_or, or_true, true_and, and_true, not_false_eq_true, not_true_eq_false, if_true, if_false, if_pos, if_neg, ki_add, ki_sub, ki_mul, ki_neg, ki_lt, ki_le, ki_eq, ki_cl, ki_div, ki_ite, ck5, kl_0, kl_1, kl_2, kl_3, kl_4, kl_5, kl_6, kl_7, kl_8, kl_9, kl_10, kl_11, kl_12, kl_13, kl_14, kl_16, kl_20, kl_21, kl_30, kl_31, kl_32, kl_33, kl_35, kl_37, kl_38, kl_39, kl_40, kl_41, kl_42, kl_43, kl_45, kl_47, kl_48, kl_50, kl_57, kl_59, kl_60, kl_61, kl_62, kl_63, kl_64, kl_97, kl_98, kl_99, kl_100, kl_101, kl_102, kl_103, kl_104, kl_105, kl_106, kl_107, kl_108, kl_109, kl_110, kl_111, kl_112, kl_113, kl_114, kl_115, kl_120, kl_124, kl_126, kl_127, kl_255, kl_720, kl_2048, kl_252645135, kl_858993459, kl_1431655765, kl_1640531535, kl_2000000000, ev, kz, k12, e6]
        try rfl
    | with_reducible apply wp_sv
      · (try simp (disch := omega) only [bi, Int.add_zero, Int.zero_add, true_or, or_true, true_and, and_true, not_false_eq_true, not_true_eq_false, if_true, if_false, if_pos, if_neg, ki_add, ki_sub, ki_mul, ki_neg, ki_lt, ki_le, ki_eq, ki_cl, ki_div, ki_ite, ck5, kl_0, kl_1, kl_2, kl_3, kl_4, kl_5, kl_6, kl_7, kl_8, kl_9, kl_10, kl_11, kl_12, kl_13, kl_14, kl_16, kl_20, kl_21, kl_30, kl_31, kl_32, kl_33, kl_35, kl_37, kl_38, kl_39, kl_40, kl_41, kl_42, kl_43, kl_45, kl_47, kl_48, kl_50, kl_57, kl_59, kl_60, kl_61, kl_62, kl_63, kl_64, kl_97, kl_98, kl_99, kl_100, kl_101, kl_102, kl_103, kl_104, kl_105, kl_106, kl_107, kl_108, kl_109, kl_110, kl_111, kl_112, kl_113, kl_114, kl_115, kl_120, kl_124, kl_126, kl_127, kl_255, kl_720, kl_2048, kl_252645135, kl_858993459, kl_1431655765, kl_1640531535, kl_2000000000, ev, kz, k12, e6])
        rfl
    | with_reducible apply wp_so
  refine wp_lp (fun (n : Nat) (q : xSt × Int32) => ∃ j : Nat, q.2 = ki j ∧ j + n = 2048 ∧ eq_ (fun k _ => k = 15) S6 q.1 ∧ q.1.2 = S6.2 ∧ ∀ i, i < j → q.1.1 15 i = ki 0) 2048 ?_ ⟨0, kl_0, by omega, eq_rf _ _, rfl, fun i hi => absurd hi (by omega)⟩ (by omega)
  intro n q hI
  obtain ⟨S1, y⟩ := q
  obtain ⟨j, hy, jn, ff, s1, hz⟩ := hI
  dsimp only at hy ff s1 hz
  subst hy
  show wp (f_X5_become_70 S1 (ki j)) _
  have kt : ((j : Nat) : Int).toNat = j := by omega
  unfold f_X5_become_70
  cases n with
  | zero =>
    have ej : j = 2048 := by omega
    subst ej
    have fin : eq_ (fun k _ => (8 ≤ k ∧ k ≤ 12) ∨ k = 15) S S1 ∧ S1.2 = S.2 ∧ S1.1 8 0 = ki v ∧ (∀ j, j < 120 → S1.1 9 j = S.1 4 j ∧ S1.1 10 j = S.1 5 j ∧ S1.1 11 j = S.1 6 j ∧ S1.1 12 j = S.1 7 j) ∧ (∀ j, j < 2048 → S1.1 15 j = ki 0) := by
      refine ⟨eq_tr f6 (fun k i q => ff k i (fun w => q (Or.inr w))), s1.trans s6, by rw [ff 8 0 (by omega)]; exact g8, fun i hi => ?_, hz⟩
      rw [ff 9 _ (by omega), ff 10 _ (by omega), ff 11 _ (by omega), ff 12 _ (by omega)]
      exact gA i hi
    clear hz gA f6
    repeat' first
      | with_reducible apply wp_bd
        · (try simp (disch := omega) only [bi, Int.add_zero, Int.zero_add, true_or, or_true, true_and, and_true, not_false_eq_true, not_true_eq_false, if_true, if_false, if_pos, if_neg, ki_add, ki_sub, ki_mul, ki_neg, ki_lt, ki_le, ki_eq, ki_cl, ki_div, ki_ite, ck5, kl_0, kl_1, kl_2, kl_3, kl_4, kl_5, kl_6, kl_7, kl_8, kl_9, kl_10, kl_11, kl_12, kl_13, kl_14, kl_16, kl_20, kl_21, kl_30, kl_31, kl_32, kl_33, kl_35, kl_37, kl_38, kl_39, kl_40, kl_41, kl_42, kl_43, kl_45, kl_47, kl_48, kl_50, kl_57, kl_59, kl_60, kl_61, kl_62, kl_63, kl_64, kl_97, kl_98, kl_99, kl_100, kl_101, kl_102, kl_103, kl_104, kl_105, kl_106, kl_107, kl_108, kl_109, kl_110, kl_111, kl_112, kl_113, kl_114, kl_115, kl_120, kl_124, kl_126, kl_127, kl_255, kl_720, kl_2048, kl_252645135, kl_858993459, kl_1431655765, kl_1640531535, kl_2000000000])
          rfl
      | with_reducible apply wp_in
        · (try simp (disch := omega) only [bi, Int.add_zero, Int.zero_add, true_or, or_true, true_and, and_true, not_false_eq_true, not_true_eq_false, if_true, if_false, if_pos, if_neg, ki_add, ki_sub, ki_mul, ki_neg, ki_lt, ki_le, ki_eq, ki_cl, ki_div, ki_ite, ck5, kl_0, kl_1, kl_2, kl_3, kl_4, kl_5, kl_6, kl_7, kl_8, kl_9, kl_10, kl_11, kl_12, kl_13, kl_14, kl_16, kl_20, kl_21, kl_30, kl_31, kl_32, kl_33, kl_35, kl_37, kl_38, kl_39, kl_40, kl_41, kl_42, kl_43, kl_45, kl_47, kl_48, kl_50, kl_57, kl_59, kl_60, kl_61, kl_62, kl_63, kl_64, kl_97, kl_98, kl_99, kl_100, kl_101, kl_102, kl_103, kl_104, kl_105, kl_106, kl_107, kl_108, kl_109, kl_110, kl_111, kl_112, kl_113, kl_114, kl_115, kl_120, kl_124, kl_126, kl_127, kl_255, kl_720, kl_2048, kl_252645135, kl_858993459, kl_1431655765, kl_1640531535, kl_2000000000])
          rfl
        · decide
        · omega
        · omega
      | with_reducible apply wp_gd
        · (try simp (disch := omega) only [bi, Int.add_zero, Int.zero_add, true_or, or_true, true_and, and_true, not_false_eq_true, not_true_eq_false, if_true, if_false, if_pos, if_neg, ki_add, ki_sub, ki_mul, ki_neg, ki_lt, ki_le, ki_eq, ki_cl, ki_div, ki_ite, ck5, kl_0, kl_1, kl_2, kl_3, kl_4, kl_5, kl_6, kl_7, kl_8, kl_9, kl_10, kl_11, kl_12, kl_13, kl_14, kl_16, kl_20, kl_21, kl_30, kl_31, kl_32, kl_33, kl_35, kl_37, kl_38, kl_39, kl_40, kl_41, kl_42, kl_43, kl_45, kl_47, kl_48, kl_50, kl_57, kl_59, kl_60, kl_61, kl_62, kl_63, kl_64, kl_97, kl_98, kl_99, kl_100, kl_101, kl_102, kl_103, kl_104, kl_105, kl_106, kl_107, kl_108, kl_109, kl_110, kl_111, kl_112, kl_113, kl_114, kl_115, kl_120, kl_124, kl_126, kl_127, kl_255, kl_720, kl_2048, kl_252645135, kl_858993459, kl_1431655765, kl_1640531535, kl_2000000000])
          rfl
        · first | exact True.intro | omega | assumption
      | with_reducible apply wp_is
        · (try simp (disch := omega) only [bi, Int.add_zero, Int.zero_add, true_or, or_true, true_and, and_true, not_false_eq_true, not_true_eq_false, if_true, if_false, if_pos, if_neg, ki_add, ki_sub, ki_mul, ki_neg, ki_lt, ki_le, ki_eq, ki_cl, ki_div, ki_ite, ck5, kl_0, kl_1, kl_2, kl_3, kl_4, kl_5, kl_6, kl_7, kl_8, kl_9, kl_10, kl_11, kl_12, kl_13, kl_14, kl_16, kl_20, kl_21, kl_30, kl_31, kl_32, kl_33, kl_35, kl_37, kl_38, kl_39, kl_40, kl_41, kl_42, kl_43, kl_45, kl_47, kl_48, kl_50, kl_57, kl_59, kl_60, kl_61, kl_62, kl_63, kl_64, kl_97, kl_98, kl_99, kl_100, kl_101, kl_102, kl_103, kl_104, kl_105, kl_106, kl_107, kl_108, kl_109, kl_110, kl_111, kl_112, kl_113, kl_114, kl_115, kl_120, kl_124, kl_126, kl_127, kl_255, kl_720, kl_2048, kl_252645135, kl_858993459, kl_1431655765, kl_1640531535, kl_2000000000])
          rfl
        all_goals intro _
        all_goals try (exfalso; first | (rename_i q; exact q trivial) | (rename_i q; exact q) | omega)
      | with_reducible apply wp_mr
      | with_reducible apply wp_b
        · simp (disch := omega) only [Int.add_zero, Int.zero_add, true_or, or_true, true_and, and_true, not_false_eq_true, not_true_eq_false, if_true, if_false, if_pos, if_neg, ki_add, ki_sub, ki_mul, ki_neg, ki_lt, ki_le, ki_eq, ki_cl, ki_div, ki_ite, ck5, kl_0, kl_1, kl_2, kl_3, kl_4, kl_5, kl_6, kl_7, kl_8, kl_9, kl_10, kl_11, kl_12, kl_13, kl_14, kl_16, kl_20, kl_21, kl_30, kl_31, kl_32, kl_33, kl_35, kl_37, kl_38, kl_39, kl_40, kl_41, kl_42, kl_43, kl_45, kl_47, kl_48, kl_50, kl_57, kl_59, kl_60, kl_61, kl_62, kl_63, kl_64, kl_97, kl_98, kl_99, kl_100, kl_101, kl_102, kl_103, kl_104, kl_105, kl_106, kl_107, kl_108, kl_109, kl_110, kl_111, kl_112, kl_113, kl_114, kl_115, kl_120, kl_124, kl_126, kl_127, kl_255, kl_720, kl_2048, kl_252645135, kl_858993459, kl_1431655765, kl_1640531535, kl_2000000000]
          rfl
        all_goals intro _
        all_goals try (exfalso; first | (rename_i q; exact q trivial) | (rename_i q; exact q) | omega)
      | with_reducible apply wp_oe
        · simp (disch := omega) only [Int.add_zero, Int.zero_add, true_or, or_true, true_and, and_true, not_false_eq_true, not_true_eq_false, if_true, if_false, if_pos, if_neg, ki_add, ki_sub, ki_mul, ki_neg, ki_lt, ki_le, ki_eq, ki_cl, ki_div, ki_ite, ck5, kl_0, kl_1, kl_2, kl_3, kl_4, kl_5, kl_6, kl_7, kl_8, kl_9, kl_10, kl_11, kl_12, kl_13, kl_14, kl_16, kl_20, kl_21, kl_30, kl_31, kl_32, kl_33, kl_35, kl_37, kl_38, kl_39, kl_40, kl_41, kl_42, kl_43, kl_45, kl_47, kl_48, kl_50, kl_57, kl_59, kl_60, kl_61, kl_62, kl_63, kl_64, kl_97, kl_98, kl_99, kl_100, kl_101, kl_102, kl_103, kl_104, kl_105, kl_106, kl_107, kl_108, kl_109, kl_110, kl_111, kl_112, kl_113, kl_114, kl_115, kl_120, kl_124, kl_126, kl_127, kl_255, kl_720, kl_2048, kl_252645135, kl_858993459, kl_1431655765, kl_1640531535, kl_2000000000]
          try rfl
      | with_reducible apply wp_sv
        · (try simp (disch := omega) only [bi, Int.add_zero, Int.zero_add, true_or, or_true, true_and, and_true, not_false_eq_true, not_true_eq_false, if_true, if_false, if_pos, if_neg, ki_add, ki_sub, ki_mul, ki_neg, ki_lt, ki_le, ki_eq, ki_cl, ki_div, ki_ite, ck5, kl_0, kl_1, kl_2, kl_3, kl_4, kl_5, kl_6, kl_7, kl_8, kl_9, kl_10, kl_11, kl_12, kl_13, kl_14, kl_16, kl_20, kl_21, kl_30, kl_31, kl_32, kl_33, kl_35, kl_37, kl_38, kl_39, kl_40, kl_41, kl_42, kl_43, kl_45, kl_47, kl_48, kl_50, kl_57, kl_59, kl_60, kl_61, kl_62, kl_63, kl_64, kl_97, kl_98, kl_99, kl_100, kl_101, kl_102, kl_103, kl_104, kl_105, kl_106, kl_107, kl_108, kl_109, kl_110, kl_111, kl_112, kl_113, kl_114, kl_115, kl_120, kl_124, kl_126, kl_127, kl_255, kl_720, kl_2048, kl_252645135, kl_858993459, kl_1431655765, kl_1640531535, kl_2000000000])
          rfl
      | with_reducible apply wp_so
    exact qr (by rw [ev]; exact fin)
  | succ n =>
    have go : ∃ j' : Nat, ki ((j : Int) + 1) = ki j' ∧ j' + n = 2048 ∧ eq_ (fun k _ => k = 15) S6 (xsi S1 15 j (ki 0)) ∧ (xsi S1 15 j (ki 0)).2 = S6.2 ∧ ∀ i, i < j' → (xsi S1 15 j (ki 0)).1 15 i = ki 0 := ⟨j + 1, nc_1n j, by omega, eq_tr ff (eq_i rfl), s1, fun i hi => by
      rw [xsi_r]
      by_cases ei : i = j
      · rw [if_pos ⟨rfl, ei⟩]
      · rw [if_neg (fun w => ei w.2)]; exact hz i (by omega)⟩
    clear hz gA f6 ff
    repeat' first
      | with_reducible apply wp_bd
        · (try simp (disch := omega) only [bi, Int.add_zero, Int.zero_add, true_or, or_true, true_and, and_true, not_false_eq_true, not_true_eq_false, if_true, if_false, if_pos, if_neg, ki_add, ki_sub, ki_mul, ki_neg, ki_lt, ki_le, ki_eq, ki_cl, ki_div, ki_ite, ck5, kl_0, kl_1, kl_2, kl_3, kl_4, kl_5, kl_6, kl_7, kl_8, kl_9, kl_10, kl_11, kl_12, kl_13, kl_14, kl_16, kl_20, kl_21, kl_30, kl_31, kl_32, kl_33, kl_35, kl_37, kl_38, kl_39, kl_40, kl_41, kl_42, kl_43, kl_45, kl_47, kl_48, kl_50, kl_57, kl_59, kl_60, kl_61, kl_62, kl_63, kl_64, kl_97, kl_98, kl_99, kl_100, kl_101, kl_102, kl_103, kl_104, kl_105, kl_106, kl_107, kl_108, kl_109, kl_110, kl_111, kl_112, kl_113, kl_114, kl_115, kl_120, kl_124, kl_126, kl_127, kl_255, kl_720, kl_2048, kl_252645135, kl_858993459, kl_1431655765, kl_1640531535, kl_2000000000, kt])
          rfl
      | with_reducible apply wp_in
        · (try simp (disch := omega) only [bi, Int.add_zero, Int.zero_add, true_or, or_true, true_and, and_true, not_false_eq_true, not_true_eq_false, if_true, if_false, if_pos, if_neg, ki_add, ki_sub, ki_mul, ki_neg, ki_lt, ki_le, ki_eq, ki_cl, ki_div, ki_ite, ck5, kl_0, kl_1, kl_2, kl_3, kl_4, kl_5, kl_6, kl_7, kl_8, kl_9, kl_10, kl_11, kl_12, kl_13, kl_14, kl_16, kl_20, kl_21, kl_30, kl_31, kl_32, kl_33, kl_35, kl_37, kl_38, kl_39, kl_40, kl_41, kl_42, kl_43, kl_45, kl_47, kl_48, kl_50, kl_57, kl_59, kl_60, kl_61, kl_62, kl_63, kl_64, kl_97, kl_98, kl_99, kl_100, kl_101, kl_102, kl_103, kl_104, kl_105, kl_106, kl_107, kl_108, kl_109, kl_110, kl_111, kl_112, kl_113, kl_114, kl_115, kl_120, kl_124, kl_126, kl_127, kl_255, kl_720, kl_2048, kl_252645135, kl_858993459, kl_1431655765, kl_1640531535, kl_2000000000, kt])
          rfl
        · decide
        · omega
        · omega
      | with_reducible apply wp_gd
        · (try simp (disch := omega) only [bi, Int.add_zero, Int.zero_add, true_or, or_true, true_and, and_true, not_false_eq_true, not_true_eq_false, if_true, if_false, if_pos, if_neg, ki_add, ki_sub, ki_mul, ki_neg, ki_lt, ki_le, ki_eq, ki_cl, ki_div, ki_ite, ck5, kl_0, kl_1, kl_2, kl_3, kl_4, kl_5, kl_6, kl_7, kl_8, kl_9, kl_10, kl_11, kl_12, kl_13, kl_14, kl_16, kl_20, kl_21, kl_30, kl_31, kl_32, kl_33, kl_35, kl_37, kl_38, kl_39, kl_40, kl_41, kl_42, kl_43, kl_45, kl_47, kl_48, kl_50, kl_57, kl_59, kl_60, kl_61, kl_62, kl_63, kl_64, kl_97, kl_98, kl_99, kl_100, kl_101, kl_102, kl_103, kl_104, kl_105, kl_106, kl_107, kl_108, kl_109, kl_110, kl_111, kl_112, kl_113, kl_114, kl_115, kl_120, kl_124, kl_126, kl_127, kl_255, kl_720, kl_2048, kl_252645135, kl_858993459, kl_1431655765, kl_1640531535, kl_2000000000, kt])
          rfl
        · first | exact True.intro | omega | assumption
      | with_reducible apply wp_is
        · (try simp (disch := omega) only [bi, Int.add_zero, Int.zero_add, true_or, or_true, true_and, and_true, not_false_eq_true, not_true_eq_false, if_true, if_false, if_pos, if_neg, ki_add, ki_sub, ki_mul, ki_neg, ki_lt, ki_le, ki_eq, ki_cl, ki_div, ki_ite, ck5, kl_0, kl_1, kl_2, kl_3, kl_4, kl_5, kl_6, kl_7, kl_8, kl_9, kl_10, kl_11, kl_12, kl_13, kl_14, kl_16, kl_20, kl_21, kl_30, kl_31, kl_32, kl_33, kl_35, kl_37, kl_38, kl_39, kl_40, kl_41, kl_42, kl_43, kl_45, kl_47, kl_48, kl_50, kl_57, kl_59, kl_60, kl_61, kl_62, kl_63, kl_64, kl_97, kl_98, kl_99, kl_100, kl_101, kl_102, kl_103, kl_104, kl_105, kl_106, kl_107, kl_108, kl_109, kl_110, kl_111, kl_112, kl_113, kl_114, kl_115, kl_120, kl_124, kl_126, kl_127, kl_255, kl_720, kl_2048, kl_252645135, kl_858993459, kl_1431655765, kl_1640531535, kl_2000000000, kt])
          rfl
        all_goals intro _
        all_goals try (exfalso; first | (rename_i q; exact q trivial) | (rename_i q; exact q) | omega)
      | with_reducible apply wp_mr
      | with_reducible apply wp_b
        · simp (disch := omega) only [Int.add_zero, Int.zero_add, true_or, or_true, true_and, and_true, not_false_eq_true, not_true_eq_false, if_true, if_false, if_pos, if_neg, ki_add, ki_sub, ki_mul, ki_neg, ki_lt, ki_le, ki_eq, ki_cl, ki_div, ki_ite, ck5, kl_0, kl_1, kl_2, kl_3, kl_4, kl_5, kl_6, kl_7, kl_8, kl_9, kl_10, kl_11, kl_12, kl_13, kl_14, kl_16, kl_20, kl_21, kl_30, kl_31, kl_32, kl_33, kl_35, kl_37, kl_38, kl_39, kl_40, kl_41, kl_42, kl_43, kl_45, kl_47, kl_48, kl_50, kl_57, kl_59, kl_60, kl_61, kl_62, kl_63, kl_64, kl_97, kl_98, kl_99, kl_100, kl_101, kl_102, kl_103, kl_104, kl_105, kl_106, kl_107, kl_108, kl_109, kl_110, kl_111, kl_112, kl_113, kl_114, kl_115, kl_120, kl_124, kl_126, kl_127, kl_255, kl_720, kl_2048, kl_252645135, kl_858993459, kl_1431655765, kl_1640531535, kl_2000000000, kt]
          rfl
        all_goals intro _
        all_goals try (exfalso; first | (rename_i q; exact q trivial) | (rename_i q; exact q) | omega)
      | with_reducible apply wp_oe
        · simp (disch := omega) only [Int.add_zero, Int.zero_add, true_or, or_true, true_and, and_true, not_false_eq_true, not_true_eq_false, if_true, if_false, if_pos, if_neg, ki_add, ki_sub, ki_mul, ki_neg, ki_lt, ki_le, ki_eq, ki_cl, ki_div, ki_ite, ck5, kl_0, kl_1, kl_2, kl_3, kl_4, kl_5, kl_6, kl_7, kl_8, kl_9, kl_10, kl_11, kl_12, kl_13, kl_14, kl_16, kl_20, kl_21, kl_30, kl_31, kl_32, kl_33, kl_35, kl_37, kl_38, kl_39, kl_40, kl_41, kl_42, kl_43, kl_45, kl_47, kl_48, kl_50, kl_57, kl_59, kl_60, kl_61, kl_62, kl_63, kl_64, kl_97, kl_98, kl_99, kl_100, kl_101, kl_102, kl_103, kl_104, kl_105, kl_106, kl_107, kl_108, kl_109, kl_110, kl_111, kl_112, kl_113, kl_114, kl_115, kl_120, kl_124, kl_126, kl_127, kl_255, kl_720, kl_2048, kl_252645135, kl_858993459, kl_1431655765, kl_1640531535, kl_2000000000, kt]
          try rfl
      | with_reducible apply wp_sv
        · (try simp (disch := omega) only [bi, Int.add_zero, Int.zero_add, true_or, or_true, true_and, and_true, not_false_eq_true, not_true_eq_false, if_true, if_false, if_pos, if_neg, ki_add, ki_sub, ki_mul, ki_neg, ki_lt, ki_le, ki_eq, ki_cl, ki_div, ki_ite, ck5, kl_0, kl_1, kl_2, kl_3, kl_4, kl_5, kl_6, kl_7, kl_8, kl_9, kl_10, kl_11, kl_12, kl_13, kl_14, kl_16, kl_20, kl_21, kl_30, kl_31, kl_32, kl_33, kl_35, kl_37, kl_38, kl_39, kl_40, kl_41, kl_42, kl_43, kl_45, kl_47, kl_48, kl_50, kl_57, kl_59, kl_60, kl_61, kl_62, kl_63, kl_64, kl_97, kl_98, kl_99, kl_100, kl_101, kl_102, kl_103, kl_104, kl_105, kl_106, kl_107, kl_108, kl_109, kl_110, kl_111, kl_112, kl_113, kl_114, kl_115, kl_120, kl_124, kl_126, kl_127, kl_255, kl_720, kl_2048, kl_252645135, kl_858993459, kl_1431655765, kl_1640531535, kl_2000000000, kt])
          rfl
      | with_reducible apply wp_so
    exact ql ⟨n, Nat.lt_succ_self n, go⟩
/-- a list over what stands in an array -/
def ovr (o : List Sp2) (f : Sp2 → Int) (c : Nat → Int32) (z : Int) : Int := match o[z.toNat]? with | some s => f s | none => (c z.toNat).toInt
theorem ovr_v {o : List Sp2} {f : Sp2 → Int} {c : Nat → Int32} (h : ∀ (j : Nat) (s : Sp2), o[j]? = some s → c j = ki (f s)) (z : Int) : c z.toNat = ki (ovr o f c z) := by
  unfold ovr
  cases e : o[z.toNat]? with
  | none => exact (ki_self _).symm
  | some s => exact h _ s e
theorem ovr_a {o : List Sp2} {f : Sp2 → Int} {c : Nat → Int32} {j : Nat} {s : Sp2} (h : o[j]? = some s) : ovr o f c ((0 + j : Nat) : Int) = f s := by
  unfold ovr
  rw [show ((0 + j : Nat) : Int).toNat = j by omega, h]
theorem law_new {o : List Sp2} {es : List (Int × Int)} {SX SM : xSt} (hl : lnF 0 o es) (ho : o.length ≤ 120) (h1 : 1 ≤ es.length) (h2 : es.length ≤ 61) (x8 : SX.1 8 0 = ki (es.length : Nat)) (xA : ∀ (j : Nat) (s : Sp2), o[j]? = some s → SX.1 9 j = ki s.1 ∧ SX.1 10 j = ki s.2) (xE : ∀ (j : Nat) (e : Int × Int), es[j]? = some e → SX.1 11 j = ki e.1 ∧ SX.1 12 j = ki e.2) (xK : ∀ j, j < 2048 → SX.1 15 j = ki 0)
    (m29 : SM.1 0 29 = ki 1) (m17 : SM.1 17 0 = ki (es.length : Nat)) (mA : ∀ (j : Nat) (s : Sp2), o[j]? = some s → SM.1 15 j = ki (mc s.1) ∧ SM.1 16 j = ki s.2) (mE : ∀ (j : Nat) (e : Int × Int), es[j]? = some e → SM.1 18 j = ki e.1 ∧ SM.1 19 j = ki e.2) : ∃ gn, lawX gn SX ∧ lawM gn SM := by
  have ax : agO (ovr o Prod.fst (SX.1 9)) (ovr o Prod.snd (SX.1 10)) 0 o := fun j s hj => ⟨ovr_a hj, ovr_a hj⟩
  have ex : agE (ovr es Prod.fst (SX.1 11)) (ovr es Prod.snd (SX.1 12)) 0 es := fun j s hj => ⟨ovr_a hj, ovr_a hj⟩
  have am : agO (fun z => mc (ovr o (fun s => mc s.1) (SM.1 15) z)) (ovr o Prod.snd (SM.1 16)) 0 o := fun j s hj => ⟨by
    show mc (ovr o (fun s => mc s.1) (SM.1 15) ((0 + j : Nat) : Int)) = s.1
    rw [ovr_a hj]; exact mc_mc _, ovr_a hj⟩
  have em : agE (ovr es Prod.fst (SM.1 18)) (ovr es Prod.snd (SM.1 19)) 0 es := fun j s hj => ⟨ovr_a hj, ovr_a hj⟩
  have lx := lw_of hl ax ex (by omega)
  have lm := lw_of hl am em (by omega)
  refine ⟨gnL es.length (ovr o Prod.fst (SX.1 9)) (ovr o Prod.snd (SX.1 10)) (ovr es Prod.fst (SX.1 11)) (ovr es Prod.snd (SX.1 12)), Or.inr ⟨es.length, _, _, _, _, h1, h2, x8, fun z _ _ => ovr_v (fun j s hj => (xA j s hj).1) z, fun z _ _ => ovr_v (fun j s hj => (xA j s hj).2) z, fun z _ _ => ovr_v (fun j s hj => (xE j s hj).1) z, fun z _ _ => ovr_v (fun j s hj => (xE j s hj).2) z, lx, rfl, fun z z0 z1 => ⟨0, 0, ?_, by omega, by omega, by omega, by omega, Or.inl rfl⟩⟩, Or.inr ⟨es.length, _, _, _, _, h1, h2, m29, m17, fun z _ _ => ?_, fun z _ _ => ovr_v (fun j s hj => (mA j s hj).2) z, fun z _ _ => ovr_v (fun j s hj => (mE j s hj).1) z, fun z _ _ => ovr_v (fun j s hj => (mE j s hj).2) z, lm, ?_⟩⟩
  · rw [xK _ (by omega)]; rfl
  · show SM.1 15 z.toNat = ki (mc (mc (ovr o (fun s => mc s.1) (SM.1 15) z)))
    rw [mc_mc]
    exact ovr_v (f := fun s => mc s.1) (fun j s hj => (mA j s hj).1) z
  · funext f
    unfold gnL
    have q := lv_cg (fa := f) hl ax ex am em
    have q' : lvn (ovr o Prod.fst (SX.1 9)) (ovr o Prod.snd (SX.1 10)) (ovr es Prod.fst (SX.1 11)) (ovr es Prod.snd (SX.1 12)) f es.length 0 0 = lvn (fun z => mc (ovr o (fun s => mc s.1) (SM.1 15) z)) (ovr o Prod.snd (SM.1 16)) (ovr es Prod.fst (SM.1 18)) (ovr es Prod.snd (SM.1 19)) f es.length 0 0 := q
    rw [q']
