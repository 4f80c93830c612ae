/-! part 80: image, back -/
theorem vw_sn {S : xSt} {k : Nat} {g : Int → Int} {c : Int} {v : Int32} (h : vw S k c g) (c0 : 0 ≤ c) (hv : v = ki (g c)) : vw (xsi S k c.toNat v) k (c + 1) g := by
  intro z z0 z1
  by_cases e : z = c
  · subst e; rw [xsi_r, if_pos ⟨rfl, rfl⟩]; exact hv
  · rw [xsi_r, if_neg (by omega)]; exact h z z0 (by omega)
theorem m_va5 {S : xSt} {w z : Int} (w0 : 0 ≤ w) (w1 : w < 5) (z0 : 0 ≤ z) (z1 : z < 30) : f_X12_valueAt S (ki w) (ki z) = some (S, S.1 (2 + w.toNat) z.toNat) := by
  have hq : w = 0 ∨ w = 1 ∨ w = 2 ∨ w = 3 ∨ w = 4 := by omega
  apply wp_eq
  unfold f_X12_valueAt f_X12_valueAt_0
  rcases hq with e | e | e | e | e
  all_goals subst e
  all_goals
    repeat' first
      | with_reducible apply wp_bd
        · (try simp (disch := omega) only [bi, Int.add_zero, Int.zero_add, true_or, or_true, true_and, and_true, not_false_eq_true, not_true_eq_false, if_true, if_false, if_pos, if_neg, ki_add, ki_sub, ki_mul, ki_neg, ki_lt, ki_le, ki_eq, ki_cl, ki_div, ki_ite, ck5, kl_0, kl_1, kl_2, kl_3, kl_4, kl_5, kl_6, kl_7, kl_8, kl_9, kl_10, kl_11, kl_12, kl_13, kl_14, kl_16, kl_20, kl_21, kl_24, kl_29, kl_30, kl_31, kl_33, kl_35, kl_37, kl_38, kl_39, kl_40, kl_41, kl_42, kl_43, kl_44, kl_45, kl_46, kl_47, kl_48, kl_49, kl_50, kl_51, kl_52, kl_53, kl_54, kl_55, kl_56, kl_57, kl_58, kl_59, kl_60, kl_61, kl_62, kl_63, kl_64, kl_70, kl_80, kl_81, kl_97, kl_98, kl_99, kl_100, kl_101, kl_102, kl_103, kl_104, kl_105, kl_106, kl_107, kl_108, kl_109, kl_110, kl_111, kl_112, kl_113, kl_114, kl_115, kl_120, kl_124, kl_126, kl_130, kl_255, kl_720, kl_2048, kl_10000, kl_12345, kl_252645135, kl_858993459, kl_1103515245, kl_1431655765, kl_1640531535, kl_2000000000])
          rfl
      | with_reducible apply wp_in
        · (try simp (disch := omega) only [bi, Int.add_zero, Int.zero_add, true_or, or_true, true_and, and_true, not_false_eq_true, not_true_eq_false, if_true, if_false, if_pos, if_neg, ki_add, ki_sub, ki_mul, ki_neg, ki_lt, ki_le, ki_eq, ki_cl, ki_div, ki_ite, ck5, kl_0, kl_1, kl_2, kl_3, kl_4, kl_5, kl_6, kl_7, kl_8, kl_9, kl_10, kl_11, kl_12, kl_13, kl_14, kl_16, kl_20, kl_21, kl_24, kl_29, kl_30, kl_31, kl_33, kl_35, kl_37, kl_38, kl_39, kl_40, kl_41, kl_42, kl_43, kl_44, kl_45, kl_46, kl_47, kl_48, kl_49, kl_50, kl_51, kl_52, kl_53, kl_54, kl_55, kl_56, kl_57, kl_58, kl_59, kl_60, kl_61, kl_62, kl_63, kl_64, kl_70, kl_80, kl_81, kl_97, kl_98, kl_99, kl_100, kl_101, kl_102, kl_103, kl_104, kl_105, kl_106, kl_107, kl_108, kl_109, kl_110, kl_111, kl_112, kl_113, kl_114, kl_115, kl_120, kl_124, kl_126, kl_130, kl_255, kl_720, kl_2048, kl_10000, kl_12345, kl_252645135, kl_858993459, kl_1103515245, kl_1431655765, kl_1640531535, kl_2000000000])
          rfl
        · decide
        · omega
        · omega
      | with_reducible apply wp_gd
        · (try simp (disch := omega) only [bi, Int.add_zero, Int.zero_add, true_or, or_true, true_and, and_true, not_false_eq_true, not_true_eq_false, if_true, if_false, if_pos, if_neg, ki_add, ki_sub, ki_mul, ki_neg, ki_lt, ki_le, ki_eq, ki_cl, ki_div, ki_ite, ck5, kl_0, kl_1, kl_2, kl_3, kl_4, kl_5, kl_6, kl_7, kl_8, kl_9, kl_10, kl_11, kl_12, kl_13, kl_14, kl_16, kl_20, kl_21, kl_24, kl_29, kl_30, kl_31, kl_33, kl_35, kl_37, kl_38, kl_39, kl_40, kl_41, kl_42, kl_43, kl_44, kl_45, kl_46, kl_47, kl_48, kl_49, kl_50, kl_51, kl_52, kl_53, kl_54, kl_55, kl_56, kl_57, kl_58, kl_59, kl_60, kl_61, kl_62, kl_63, kl_64, kl_70, kl_80, kl_81, kl_97, kl_98, kl_99, kl_100, kl_101, kl_102, kl_103, kl_104, kl_105, kl_106, kl_107, kl_108, kl_109, kl_110, kl_111, kl_112, kl_113, kl_114, kl_115, kl_120, kl_124, kl_126, kl_130, kl_255, kl_720, kl_2048, kl_10000, kl_12345, kl_252645135, kl_858993459, kl_1103515245, kl_1431655765, kl_1640531535, kl_2000000000])
          rfl
        · first | exact True.intro | omega | assumption
      | with_reducible apply wp_is
        · (try simp (disch := omega) only [bi, Int.add_zero, Int.zero_add, true_or, or_true, true_and, and_true, not_false_eq_true, not_true_eq_false, if_true, if_false, if_pos, if_neg, ki_add, ki_sub, ki_mul, ki_neg, ki_lt, ki_le, ki_eq, ki_cl, ki_div, ki_ite, ck5, kl_0, kl_1, kl_2, kl_3, kl_4, kl_5, kl_6, kl_7, kl_8, kl_9, kl_10, kl_11, kl_12, kl_13, kl_14, kl_16, kl_20, kl_21, kl_24, kl_29, kl_30, kl_31, kl_33, kl_35, kl_37, kl_38, kl_39, kl_40, kl_41, kl_42, kl_43, kl_44, kl_45, kl_46, kl_47, kl_48, kl_49, kl_50, kl_51, kl_52, kl_53, kl_54, kl_55, kl_56, kl_57, kl_58, kl_59, kl_60, kl_61, kl_62, kl_63, kl_64, kl_70, kl_80, kl_81, kl_97, kl_98, kl_99, kl_100, kl_101, kl_102, kl_103, kl_104, kl_105, kl_106, kl_107, kl_108, kl_109, kl_110, kl_111, kl_112, kl_113, kl_114, kl_115, kl_120, kl_124, kl_126, kl_130, kl_255, kl_720, kl_2048, kl_10000, kl_12345, kl_252645135, kl_858993459, kl_1103515245, kl_1431655765, kl_1640531535, kl_2000000000])
          rfl
        all_goals intro _
        all_goals try (exfalso; first | (rename_i q; exact q trivial) | (rename_i q; exact q) | omega)
      | with_reducible apply wp_mr
      | with_reducible apply wp_b
        · simp (disch := omega) only [Int.add_zero, Int.zero_add, true_or, or_true, true_and, and_true, not_false_eq_true, not_true_eq_false, if_true, if_false, if_pos, if_neg, ki_add, ki_sub, ki_mul, ki_neg, ki_lt, ki_le, ki_eq, ki_cl, ki_div, ki_ite, ck5, kl_0, kl_1, kl_2, kl_3, kl_4, kl_5, kl_6, kl_7, kl_8, kl_9, kl_10, kl_11, kl_12, kl_13, kl_14, kl_16, kl_20, kl_21, kl_24, kl_29, kl_30, kl_31, kl_33, kl_35, kl_37, kl_38, kl_39, kl_40, kl_41, kl_42, kl_43, kl_44, kl_45, kl_46, kl_47, kl_48, kl_49, kl_50, kl_51, kl_52, kl_53, kl_54, kl_55, kl_56, kl_57, kl_58, kl_59, kl_60, kl_61, kl_62, kl_63, kl_64, kl_70, kl_80, kl_81, kl_97, kl_98, kl_99, kl_100, kl_101, kl_102, kl_103, kl_104, kl_105, kl_106, kl_107, kl_108, kl_109, kl_110, kl_111, kl_112, kl_113, kl_114, kl_115, kl_120, kl_124, kl_126, kl_130, kl_255, kl_720, kl_2048, kl_10000, kl_12345, kl_252645135, kl_858993459, kl_1103515245, kl_1431655765, kl_1640531535, kl_2000000000]
          rfl
        all_goals intro _
        all_goals try (exfalso; first | (rename_i q; exact q trivial) | (rename_i q; exact q) | omega)
      | with_reducible apply wp_oe
        · simp (disch := omega) only [Int.add_zero, Int.zero_add, true_or, or_true, true_and, and_true, not_false_eq_true, not_true_eq_false, if_true, if_false, if_pos, if_neg, ki_add, ki_sub, ki_mul, ki_neg, ki_lt, ki_le, ki_eq, ki_cl, ki_div, ki_ite, ck5, kl_0, kl_1, kl_2, kl_3, kl_4, kl_5, kl_6, kl_7, kl_8, kl_9, kl_10, kl_11, kl_12, kl_13, kl_14, kl_16, kl_20, kl_21, kl_24, kl_29, kl_30, kl_31, kl_33, kl_35, kl_37, kl_38, kl_39, kl_40, kl_41, kl_42, kl_43, kl_44, kl_45, kl_46, kl_47, kl_48, kl_49, kl_50, kl_51, kl_52, kl_53, kl_54, kl_55, kl_56, kl_57, kl_58, kl_59, kl_60, kl_61, kl_62, kl_63, kl_64, kl_70, kl_80, kl_81, kl_97, kl_98, kl_99, kl_100, kl_101, kl_102, kl_103, kl_104, kl_105, kl_106, kl_107, kl_108, kl_109, kl_110, kl_111, kl_112, kl_113, kl_114, kl_115, kl_120, kl_124, kl_126, kl_130, kl_255, kl_720, kl_2048, kl_10000, kl_12345, kl_252645135, kl_858993459, kl_1103515245, kl_1431655765, kl_1640531535, kl_2000000000]
          try rfl
      | with_reducible apply wp_sv
        · (try simp (disch := omega) only [bi, Int.add_zero, Int.zero_add, true_or, or_true, true_and, and_true, not_false_eq_true, not_true_eq_false, if_true, if_false, if_pos, if_neg, ki_add, ki_sub, ki_mul, ki_neg, ki_lt, ki_le, ki_eq, ki_cl, ki_div, ki_ite, ck5, kl_0, kl_1, kl_2, kl_3, kl_4, kl_5, kl_6, kl_7, kl_8, kl_9, kl_10, kl_11, kl_12, kl_13, kl_14, kl_16, kl_20, kl_21, kl_24, kl_29, kl_30, kl_31, kl_33, kl_35, kl_37, kl_38, kl_39, kl_40, kl_41, kl_42, kl_43, kl_44, kl_45, kl_46, kl_47, kl_48, kl_49, kl_50, kl_51, kl_52, kl_53, kl_54, kl_55, kl_56, kl_57, kl_58, kl_59, kl_60, kl_61, kl_62, kl_63, kl_64, kl_70, kl_80, kl_81, kl_97, kl_98, kl_99, kl_100, kl_101, kl_102, kl_103, kl_104, kl_105, kl_106, kl_107, kl_108, kl_109, kl_110, kl_111, kl_112, kl_113, kl_114, kl_115, kl_120, kl_124, kl_126, kl_130, kl_255, kl_720, kl_2048, kl_10000, kl_12345, kl_252645135, kl_858993459, kl_1103515245, kl_1431655765, kl_1640531535, kl_2000000000])
          rfl
      | with_reducible apply wp_so
  all_goals rfl
theorem m_ly5 {S : xSt} {w z : Int} {v : Int32} (w0 : 0 ≤ w) (w1 : w < 5) (z0 : 0 ≤ z) (z1 : z < 30) : f_X12_lays S (ki w) (ki z) v = some (xsi S (2 + w.toNat) z.toNat v, ()) := by
  have hq : w = 0 ∨ w = 1 ∨ w = 2 ∨ w = 3 ∨ w = 4 := by omega
  apply wp_eq
  unfold f_X12_lays f_X12_lays_0
  rcases hq with e | e | e | e | e
  all_goals subst e
  all_goals
    repeat' first
      | with_reducible apply wp_bd
        · (try simp (disch := omega) only [bi, Int.add_zero, Int.zero_add, true_or, or_true, true_and, and_true, not_false_eq_true, not_true_eq_false, if_true, if_false, if_pos, if_neg, ki_add, ki_sub, ki_mul, ki_neg, ki_lt, ki_le, ki_eq, ki_cl, ki_div, ki_ite, ck5, kl_0, kl_1, kl_2, kl_3, kl_4, kl_5, kl_6, kl_7, kl_8, kl_9, kl_10, kl_11, kl_12, kl_13, kl_14, kl_16, kl_20, kl_21, kl_24, kl_29, kl_30, kl_31, kl_33, kl_35, kl_37, kl_38, kl_39, kl_40, kl_41, kl_42, kl_43, kl_44, kl_45, kl_46, kl_47, kl_48, kl_49, kl_50, kl_51, kl_52, kl_53, kl_54, kl_55, kl_56, kl_57, kl_58, kl_59, kl_60, kl_61, kl_62, kl_63, kl_64, kl_70, kl_80, kl_81, kl_97, kl_98, kl_99, kl_100, kl_101, kl_102, kl_103, kl_104, kl_105, kl_106, kl_107, kl_108, kl_109, kl_110, kl_111, kl_112, kl_113, kl_114, kl_115, kl_120, kl_124, kl_126, kl_130, kl_255, kl_720, kl_2048, kl_10000, kl_12345, kl_252645135, kl_858993459, kl_1103515245, kl_1431655765, kl_1640531535, kl_2000000000])
          rfl
      | with_reducible apply wp_in
        · (try simp (disch := omega) only [bi, Int.add_zero, Int.zero_add, true_or, or_true, true_and, and_true, not_false_eq_true, not_true_eq_false, if_true, if_false, if_pos, if_neg, ki_add, ki_sub, ki_mul, ki_neg, ki_lt, ki_le, ki_eq, ki_cl, ki_div, ki_ite, ck5, kl_0, kl_1, kl_2, kl_3, kl_4, kl_5, kl_6, kl_7, kl_8, kl_9, kl_10, kl_11, kl_12, kl_13, kl_14, kl_16, kl_20, kl_21, kl_24, kl_29, kl_30, kl_31, kl_33, kl_35, kl_37, kl_38, kl_39, kl_40, kl_41, kl_42, kl_43, kl_44, kl_45, kl_46, kl_47, kl_48, kl_49, kl_50, kl_51, kl_52, kl_53, kl_54, kl_55, kl_56, kl_57, kl_58, kl_59, kl_60, kl_61, kl_62, kl_63, kl_64, kl_70, kl_80, kl_81, kl_97, kl_98, kl_99, kl_100, kl_101, kl_102, kl_103, kl_104, kl_105, kl_106, kl_107, kl_108, kl_109, kl_110, kl_111, kl_112, kl_113, kl_114, kl_115, kl_120, kl_124, kl_126, kl_130, kl_255, kl_720, kl_2048, kl_10000, kl_12345, kl_252645135, kl_858993459, kl_1103515245, kl_1431655765, kl_1640531535, kl_2000000000])
          rfl
        · decide
        · omega
        · omega
      | with_reducible apply wp_gd
        · (try simp (disch := omega) only [bi, Int.add_zero, Int.zero_add, true_or, or_true, true_and, and_true, not_false_eq_true, not_true_eq_false, if_true, if_false, if_pos, if_neg, ki_add, ki_sub, ki_mul, ki_neg, ki_lt, ki_le, ki_eq, ki_cl, ki_div, ki_ite, ck5, kl_0, kl_1, kl_2, kl_3, kl_4, kl_5, kl_6, kl_7, kl_8, kl_9, kl_10, kl_11, kl_12, kl_13, kl_14, kl_16, kl_20, kl_21, kl_24, kl_29, kl_30, kl_31, kl_33, kl_35, kl_37, kl_38, kl_39, kl_40, kl_41, kl_42, kl_43, kl_44, kl_45, kl_46, kl_47, kl_48, kl_49, kl_50, kl_51, kl_52, kl_53, kl_54, kl_55, kl_56, kl_57, kl_58, kl_59, kl_60, kl_61, kl_62, kl_63, kl_64, kl_70, kl_80, kl_81, kl_97, kl_98, kl_99, kl_100, kl_101, kl_102, kl_103, kl_104, kl_105, kl_106, kl_107, kl_108, kl_109, kl_110, kl_111, kl_112, kl_113, kl_114, kl_115, kl_120, kl_124, kl_126, kl_130, kl_255, kl_720, kl_2048, kl_10000, kl_12345, kl_252645135, kl_858993459, kl_1103515245, kl_1431655765, kl_1640531535, kl_2000000000])
          rfl
        · first | exact True.intro | omega | assumption
      | with_reducible apply wp_is
        · (try simp (disch := omega) only [bi, Int.add_zero, Int.zero_add, true_or, or_true, true_and, and_true, not_false_eq_true, not_true_eq_false, if_true, if_false, if_pos, if_neg, ki_add, ki_sub, ki_mul, ki_neg, ki_lt, ki_le, ki_eq, ki_cl, ki_div, ki_ite, ck5, kl_0, kl_1, kl_2, kl_3, kl_4, kl_5, kl_6, kl_7, kl_8, kl_9, kl_10, kl_11, kl_12, kl_13, kl_14, kl_16, kl_20, kl_21, kl_24, kl_29, kl_30, kl_31, kl_33, kl_35, kl_37, kl_38, kl_39, kl_40, kl_41, kl_42, kl_43, kl_44, kl_45, kl_46, kl_47, kl_48, kl_49, kl_50, kl_51, kl_52, kl_53, kl_54, kl_55, kl_56, kl_57, kl_58, kl_59, kl_60, kl_61, kl_62, kl_63, kl_64, kl_70, kl_80, kl_81, kl_97, kl_98, kl_99, kl_100, kl_101, kl_102, kl_103, kl_104, kl_105, kl_106, kl_107, kl_108, kl_109, kl_110, kl_111, kl_112, kl_113, kl_114, kl_115, kl_120, kl_124, kl_126, kl_130, kl_255, kl_720, kl_2048, kl_10000, kl_12345, kl_252645135, kl_858993459, kl_1103515245, kl_1431655765, kl_1640531535, kl_2000000000])
          rfl
        all_goals intro _
        all_goals try (exfalso; first | (rename_i q; exact q trivial) | (rename_i q; exact q) | omega)
      | with_reducible apply wp_mr
      | with_reducible apply wp_b
        · simp (disch := omega) only [Int.add_zero, Int.zero_add, true_or, or_true, true_and, and_true, not_false_eq_true, not_true_eq_false, if_true, if_false, if_pos, if_neg, ki_add, ki_sub, ki_mul, ki_neg, ki_lt, ki_le, ki_eq, ki_cl, ki_div, ki_ite, ck5, kl_0, kl_1, kl_2, kl_3, kl_4, kl_5, kl_6, kl_7, kl_8, kl_9, kl_10, kl_11, kl_12, kl_13, kl_14, kl_16, kl_20, kl_21, kl_24, kl_29, kl_30, kl_31, kl_33, kl_35, kl_37, kl_38, kl_39, kl_40, kl_41, kl_42, kl_43, kl_44, kl_45, kl_46, kl_47, kl_48, kl_49, kl_50, kl_51, kl_52, kl_53, kl_54, kl_55, kl_56, kl_57, kl_58, kl_59, kl_60, kl_61, kl_62, kl_63, kl_64, kl_70, kl_80, kl_81, kl_97, kl_98, kl_99, kl_100, kl_101, kl_102, kl_103, kl_104, kl_105, kl_106, kl_107, kl_108, kl_109, kl_110, kl_111, kl_112, kl_113, kl_114, kl_115, kl_120, kl_124, kl_126, kl_130, kl_255, kl_720, kl_2048, kl_10000, kl_12345, kl_252645135, kl_858993459, kl_1103515245, kl_1431655765, kl_1640531535, kl_2000000000]
          rfl
        all_goals intro _
        all_goals try (exfalso; first | (rename_i q; exact q trivial) | (rename_i q; exact q) | omega)
      | with_reducible apply wp_oe
        · simp (disch := omega) only [Int.add_zero, Int.zero_add, true_or, or_true, true_and, and_true, not_false_eq_true, not_true_eq_false, if_true, if_false, if_pos, if_neg, ki_add, ki_sub, ki_mul, ki_neg, ki_lt, ki_le, ki_eq, ki_cl, ki_div, ki_ite, ck5, kl_0, kl_1, kl_2, kl_3, kl_4, kl_5, kl_6, kl_7, kl_8, kl_9, kl_10, kl_11, kl_12, kl_13, kl_14, kl_16, kl_20, kl_21, kl_24, kl_29, kl_30, kl_31, kl_33, kl_35, kl_37, kl_38, kl_39, kl_40, kl_41, kl_42, kl_43, kl_44, kl_45, kl_46, kl_47, kl_48, kl_49, kl_50, kl_51, kl_52, kl_53, kl_54, kl_55, kl_56, kl_57, kl_58, kl_59, kl_60, kl_61, kl_62, kl_63, kl_64, kl_70, kl_80, kl_81, kl_97, kl_98, kl_99, kl_100, kl_101, kl_102, kl_103, kl_104, kl_105, kl_106, kl_107, kl_108, kl_109, kl_110, kl_111, kl_112, kl_113, kl_114, kl_115, kl_120, kl_124, kl_126, kl_130, kl_255, kl_720, kl_2048, kl_10000, kl_12345, kl_252645135, kl_858993459, kl_1103515245, kl_1431655765, kl_1640531535, kl_2000000000]
          try rfl
      | with_reducible apply wp_sv
        · (try simp (disch := omega) only [bi, Int.add_zero, Int.zero_add, true_or, or_true, true_and, and_true, not_false_eq_true, not_true_eq_false, if_true, if_false, if_pos, if_neg, ki_add, ki_sub, ki_mul, ki_neg, ki_lt, ki_le, ki_eq, ki_cl, ki_div, ki_ite, ck5, kl_0, kl_1, kl_2, kl_3, kl_4, kl_5, kl_6, kl_7, kl_8, kl_9, kl_10, kl_11, kl_12, kl_13, kl_14, kl_16, kl_20, kl_21, kl_24, kl_29, kl_30, kl_31, kl_33, kl_35, kl_37, kl_38, kl_39, kl_40, kl_41, kl_42, kl_43, kl_44, kl_45, kl_46, kl_47, kl_48, kl_49, kl_50, kl_51, kl_52, kl_53, kl_54, kl_55, kl_56, kl_57, kl_58, kl_59, kl_60, kl_61, kl_62, kl_63, kl_64, kl_70, kl_80, kl_81, kl_97, kl_98, kl_99, kl_100, kl_101, kl_102, kl_103, kl_104, kl_105, kl_106, kl_107, kl_108, kl_109, kl_110, kl_111, kl_112, kl_113, kl_114, kl_115, kl_120, kl_124, kl_126, kl_130, kl_255, kl_720, kl_2048, kl_10000, kl_12345, kl_252645135, kl_858993459, kl_1103515245, kl_1431655765, kl_1640531535, kl_2000000000])
          rfl
      | with_reducible apply wp_so
  all_goals rfl
/-- a row of cells copied, place by place, and on -/
theorem m_im3 {S0 S : xSt} {l : Int} (hl : l = 5) (g : Int → Int) (h9 : vw S0 9 5 g) (hf : eq_ (fun k _ => k = 34) S0 S) (hv : vw S 34 l g) : wp (f_X12_image_94 S (ki l)) (fun s => s = .inr (S, ki (g 4))) := by
  subst hl
  have r : S.1 9 (4 : Int).toNat = ki (g 4) := by rw [hf 9 _ (by omega)]; exact h9 4 (by omega) (by omega)
  unfold f_X12_image_94 f_X12_image_117
  repeat' first
    | with_reducible apply wp_bd
      · (try simp (disch := omega) only [bi, Int.add_zero, Int.zero_add, true_or, or_true, true_and, and_true, not_false_eq_true, not_true_eq_false, if_true, if_false, if_pos, if_neg, ki_add, ki_sub, ki_mul, ki_neg, ki_lt, ki_le, ki_eq, ki_cl, ki_div, ki_ite, ck5, kl_0, kl_1, kl_2, kl_3, kl_4, kl_5, kl_6, kl_7, kl_8, kl_9, kl_10, kl_11, kl_12, kl_13, kl_14, kl_16, kl_20, kl_21, kl_24, kl_29, kl_30, kl_31, kl_33, kl_35, kl_37, kl_38, kl_39, kl_40, kl_41, kl_42, kl_43, kl_44, kl_45, kl_46, kl_47, kl_48, kl_49, kl_50, kl_51, kl_52, kl_53, kl_54, kl_55, kl_56, kl_57, kl_58, kl_59, kl_60, kl_61, kl_62, kl_63, kl_64, kl_70, kl_80, kl_81, kl_97, kl_98, kl_99, kl_100, kl_101, kl_102, kl_103, kl_104, kl_105, kl_106, kl_107, kl_108, kl_109, kl_110, kl_111, kl_112, kl_113, kl_114, kl_115, kl_120, kl_124, kl_126, kl_130, kl_255, kl_720, kl_2048, kl_10000, kl_12345, kl_252645135, kl_858993459, kl_1103515245, kl_1431655765, kl_1640531535, kl_2000000000, r])
        rfl
    | with_reducible apply wp_in
      · (try simp (disch := omega) only [bi, Int.add_zero, Int.zero_add, true_or, or_true, true_and, and_true, not_false_eq_true, not_true_eq_false, if_true, if_false, if_pos, if_neg, ki_add, ki_sub, ki_mul, ki_neg, ki_lt, ki_le, ki_eq, ki_cl, ki_div, ki_ite, ck5, kl_0, kl_1, kl_2, kl_3, kl_4, kl_5, kl_6, kl_7, kl_8, kl_9, kl_10, kl_11, kl_12, kl_13, kl_14, kl_16, kl_20, kl_21, kl_24, kl_29, kl_30, kl_31, kl_33, kl_35, kl_37, kl_38, kl_39, kl_40, kl_41, kl_42, kl_43, kl_44, kl_45, kl_46, kl_47, kl_48, kl_49, kl_50, kl_51, kl_52, kl_53, kl_54, kl_55, kl_56, kl_57, kl_58, kl_59, kl_60, kl_61, kl_62, kl_63, kl_64, kl_70, kl_80, kl_81, kl_97, kl_98, kl_99, kl_100, kl_101, kl_102, kl_103, kl_104, kl_105, kl_106, kl_107, kl_108, kl_109, kl_110, kl_111, kl_112, kl_113, kl_114, kl_115, kl_120, kl_124, kl_126, kl_130, kl_255, kl_720, kl_2048, kl_10000, kl_12345, kl_252645135, kl_858993459, kl_1103515245, kl_1431655765, kl_1640531535, kl_2000000000, r])
        rfl
      · decide
      · omega
      · omega
    | with_reducible apply wp_gd
      · (try simp (disch := omega) only [bi, Int.add_zero, Int.zero_add, true_or, or_true, true_and, and_true, not_false_eq_true, not_true_eq_false, if_true, if_false, if_pos, if_neg, ki_add, ki_sub, ki_mul, ki_neg, ki_lt, ki_le, ki_eq, ki_cl, ki_div, ki_ite, ck5, kl_0, kl_1, kl_2, kl_3, kl_4, kl_5, kl_6, kl_7, kl_8, kl_9, kl_10, kl_11, kl_12, kl_13, kl_14, kl_16, kl_20, kl_21, kl_24, kl_29, kl_30, kl_31, kl_33, kl_35, kl_37, kl_38, kl_39, kl_40, kl_41, kl_42, kl_43, kl_44, kl_45, kl_46, kl_47, kl_48, kl_49, kl_50, kl_51, kl_52, kl_53, kl_54, kl_55, kl_56, kl_57, kl_58, kl_59, kl_60, kl_61, kl_62, kl_63, kl_64, kl_70, kl_80, kl_81, kl_97, kl_98, kl_99, kl_100, kl_101, kl_102, kl_103, kl_104, kl_105, kl_106, kl_107, kl_108, kl_109, kl_110, kl_111, kl_112, kl_113, kl_114, kl_115, kl_120, kl_124, kl_126, kl_130, kl_255, kl_720, kl_2048, kl_10000, kl_12345, kl_252645135, kl_858993459, kl_1103515245, kl_1431655765, kl_1640531535, kl_2000000000, r])
        rfl
      · first | exact True.intro | omega | assumption
    | with_reducible apply wp_is
      · (try simp (disch := omega) only [bi, Int.add_zero, Int.zero_add, true_or, or_true, true_and, and_true, not_false_eq_true, not_true_eq_false, if_true, if_false, if_pos, if_neg, ki_add, ki_sub, ki_mul, ki_neg, ki_lt, ki_le, ki_eq, ki_cl, ki_div, ki_ite, ck5, kl_0, kl_1, kl_2, kl_3, kl_4, kl_5, kl_6, kl_7, kl_8, kl_9, kl_10, kl_11, kl_12, kl_13, kl_14, kl_16, kl_20, kl_21, kl_24, kl_29, kl_30, kl_31, kl_33, kl_35, kl_37, kl_38, kl_39, kl_40, kl_41, kl_42, kl_43, kl_44, kl_45, kl_46, kl_47, kl_48, kl_49, kl_50, kl_51, kl_52, kl_53, kl_54, kl_55, kl_56, kl_57, kl_58, kl_59, kl_60, kl_61, kl_62, kl_63, kl_64, kl_70, kl_80, kl_81, kl_97, kl_98, kl_99, kl_100, kl_101, kl_102, kl_103, kl_104, kl_105, kl_106, kl_107, kl_108, kl_109, kl_110, kl_111, kl_112, kl_113, kl_114, kl_115, kl_120, kl_124, kl_126, kl_130, kl_255, kl_720, kl_2048, kl_10000, kl_12345, kl_252645135, kl_858993459, kl_1103515245, kl_1431655765, kl_1640531535, kl_2000000000, r])
        rfl
      all_goals intro _
      all_goals try (exfalso; first | (rename_i q; exact q trivial) | (rename_i q; exact q) | omega)
    | with_reducible apply wp_mr
    | with_reducible apply wp_b
      · simp (disch := omega) only [Int.add_zero, Int.zero_add, true_or, or_true, true_and, and_true, not_false_eq_true, not_true_eq_false, if_true, if_false, if_pos, if_neg, ki_add, ki_sub, ki_mul, ki_neg, ki_lt, ki_le, ki_eq, ki_cl, ki_div, ki_ite, ck5, kl_0, kl_1, kl_2, kl_3, kl_4, kl_5, kl_6, kl_7, kl_8, kl_9, kl_10, kl_11, kl_12, kl_13, kl_14, kl_16, kl_20, kl_21, kl_24, kl_29, kl_30, kl_31, kl_33, kl_35, kl_37, kl_38, kl_39, kl_40, kl_41, kl_42, kl_43, kl_44, kl_45, kl_46, kl_47, kl_48, kl_49, kl_50, kl_51, kl_52, kl_53, kl_54, kl_55, kl_56, kl_57, kl_58, kl_59, kl_60, kl_61, kl_62, kl_63, kl_64, kl_70, kl_80, kl_81, kl_97, kl_98, kl_99, kl_100, kl_101, kl_102, kl_103, kl_104, kl_105, kl_106, kl_107, kl_108, kl_109, kl_110, kl_111, kl_112, kl_113, kl_114, kl_115, kl_120, kl_124, kl_126, kl_130, kl_255, kl_720, kl_2048, kl_10000, kl_12345, kl_252645135, kl_858993459, kl_1103515245, kl_1431655765, kl_1640531535, kl_2000000000, r]
        rfl
      all_goals intro _
      all_goals try (exfalso; first | (rename_i q; exact q trivial) | (rename_i q; exact q) | omega)
    | with_reducible apply wp_oe
      · simp (disch := omega) only [Int.add_zero, Int.zero_add, true_or, or_true, true_and, and_true, not_false_eq_true, not_true_eq_false, if_true, if_false, if_pos, if_neg, ki_add, ki_sub, ki_mul, ki_neg, ki_lt, ki_le, ki_eq, ki_cl, ki_div, ki_ite, ck5, kl_0, kl_1, kl_2, kl_3, kl_4, kl_5, kl_6, kl_7, kl_8, kl_9, kl_10, kl_11, kl_12, kl_13, kl_14, kl_16, kl_20, kl_21, kl_24, kl_29, kl_30, kl_31, kl_33, kl_35, kl_37, kl_38, kl_39, kl_40, kl_41, kl_42, kl_43, kl_44, kl_45, kl_46, kl_47, kl_48, kl_49, kl_50, kl_51, kl_52, kl_53, kl_54, kl_55, kl_56, kl_57, kl_58, kl_59, kl_60, kl_61, kl_62, kl_63, kl_64, kl_70, kl_80, kl_81, kl_97, kl_98, kl_99, kl_100, kl_101, kl_102, kl_103, kl_104, kl_105, kl_106, kl_107, kl_108, kl_109, kl_110, kl_111, kl_112, kl_113, kl_114, kl_115, kl_120, kl_124, kl_126, kl_130, kl_255, kl_720, kl_2048, kl_10000, kl_12345, kl_252645135, kl_858993459, kl_1103515245, kl_1431655765, kl_1640531535, kl_2000000000, r]
        try rfl
    | with_reducible apply wp_sv
      · (try simp (disch := omega) only [bi, Int.add_zero, Int.zero_add, true_or, or_true, true_and, and_true, not_false_eq_true, not_true_eq_false, if_true, if_false, if_pos, if_neg, ki_add, ki_sub, ki_mul, ki_neg, ki_lt, ki_le, ki_eq, ki_cl, ki_div, ki_ite, ck5, kl_0, kl_1, kl_2, kl_3, kl_4, kl_5, kl_6, kl_7, kl_8, kl_9, kl_10, kl_11, kl_12, kl_13, kl_14, kl_16, kl_20, kl_21, kl_24, kl_29, kl_30, kl_31, kl_33, kl_35, kl_37, kl_38, kl_39, kl_40, kl_41, kl_42, kl_43, kl_44, kl_45, kl_46, kl_47, kl_48, kl_49, kl_50, kl_51, kl_52, kl_53, kl_54, kl_55, kl_56, kl_57, kl_58, kl_59, kl_60, kl_61, kl_62, kl_63, kl_64, kl_70, kl_80, kl_81, kl_97, kl_98, kl_99, kl_100, kl_101, kl_102, kl_103, kl_104, kl_105, kl_106, kl_107, kl_108, kl_109, kl_110, kl_111, kl_112, kl_113, kl_114, kl_115, kl_120, kl_124, kl_126, kl_130, kl_255, kl_720, kl_2048, kl_10000, kl_12345, kl_252645135, kl_858993459, kl_1103515245, kl_1431655765, kl_1640531535, kl_2000000000, r])
        rfl
    | with_reducible apply wp_so
  rfl
theorem m_imL {S : xSt} {g : Int → Int} (h9 : vw S 9 5 g) : wp (f_X12_image_92 S) (fun r => r.2 = ki (g 4) ∧ vw r.1 34 5 g ∧ eq_ (fun k _ => k = 34) S r.1 ∧ r.1.2 = S.2) := by
  unfold f_X12_image_92
  refine wp_lp (fun m s => ∃ c : Int, s.2 = ki c ∧ 0 ≤ c ∧ c + m = 5 ∧ vw s.1 34 c g ∧ eq_ (fun k _ => k = 34) S s.1 ∧ s.1.2 = S.2) 5 ?_ ⟨0, kl_0, by omega, by omega, fun z z0 z1 => absurd z1 (by omega), eq_rf _ _, rfl⟩ (by omega)
  intro m q hI
  obtain ⟨S1, x⟩ := q
  obtain ⟨c, hx1, c0, c1, hv, hf, h2⟩ := hI
  dsimp only at hx1 hv hf h2
  subst hx1
  show wp (f_X12_image_94 S1 (ki c)) _
  cases m with
  | zero =>
    have ec : c = 5 := by omega
    subst ec
    have r : S1.1 9 (4 : Int).toNat = ki (g 4) := by rw [hf 9 _ (by omega)]; exact h9 4 (by omega) (by omega)
    unfold f_X12_image_94 f_X12_image_117
    repeat' first
      | with_reducible apply wp_bd
        · (try simp (disch := omega) only [bi, Int.add_zero, Int.zero_add, true_or, or_true, true_and, and_true, not_false_eq_true, not_true_eq_false, if_true, if_false, if_pos, if_neg, ki_add, ki_sub, ki_mul, ki_neg, ki_lt, ki_le, ki_eq, ki_cl, ki_div, ki_ite, ck5, kl_0, kl_1, kl_2, kl_3, kl_4, kl_5, kl_6, kl_7, kl_8, kl_9, kl_10, kl_11, kl_12, kl_13, kl_14, kl_16, kl_20, kl_21, kl_24, kl_29, kl_30, kl_31, kl_33, kl_35, kl_37, kl_38, kl_39, kl_40, kl_41, kl_42, kl_43, kl_44, kl_45, kl_46, kl_47, kl_48, kl_49, kl_50, kl_51, kl_52, kl_53, kl_54, kl_55, kl_56, kl_57, kl_58, kl_59, kl_60, kl_61, kl_62, kl_63, kl_64, kl_70, kl_80, kl_81, kl_97, kl_98, kl_99, kl_100, kl_101, kl_102, kl_103, kl_104, kl_105, kl_106, kl_107, kl_108, kl_109, kl_110, kl_111, kl_112, kl_113, kl_114, kl_115, kl_120, kl_124, kl_126, kl_130, kl_255, kl_720, kl_2048, kl_10000, kl_12345, kl_252645135, kl_858993459, kl_1103515245, kl_1431655765, kl_1640531535, kl_2000000000, r])
          rfl
      | with_reducible apply wp_in
        · (try simp (disch := omega) only [bi, Int.add_zero, Int.zero_add, true_or, or_true, true_and, and_true, not_false_eq_true, not_true_eq_false, if_true, if_false, if_pos, if_neg, ki_add, ki_sub, ki_mul, ki_neg, ki_lt, ki_le, ki_eq, ki_cl, ki_div, ki_ite, ck5, kl_0, kl_1, kl_2, kl_3, kl_4, kl_5, kl_6, kl_7, kl_8, kl_9, kl_10, kl_11, kl_12, kl_13, kl_14, kl_16, kl_20, kl_21, kl_24, kl_29, kl_30, kl_31, kl_33, kl_35, kl_37, kl_38, kl_39, kl_40, kl_41, kl_42, kl_43, kl_44, kl_45, kl_46, kl_47, kl_48, kl_49, kl_50, kl_51, kl_52, kl_53, kl_54, kl_55, kl_56, kl_57, kl_58, kl_59, kl_60, kl_61, kl_62, kl_63, kl_64, kl_70, kl_80, kl_81, kl_97, kl_98, kl_99, kl_100, kl_101, kl_102, kl_103, kl_104, kl_105, kl_106, kl_107, kl_108, kl_109, kl_110, kl_111, kl_112, kl_113, kl_114, kl_115, kl_120, kl_124, kl_126, kl_130, kl_255, kl_720, kl_2048, kl_10000, kl_12345, kl_252645135, kl_858993459, kl_1103515245, kl_1431655765, kl_1640531535, kl_2000000000, r])
          rfl
        · decide
        · omega
        · omega
      | with_reducible apply wp_gd
        · (try simp (disch := omega) only [bi, Int.add_zero, Int.zero_add, true_or, or_true, true_and, and_true, not_false_eq_true, not_true_eq_false, if_true, if_false, if_pos, if_neg, ki_add, ki_sub, ki_mul, ki_neg, ki_lt, ki_le, ki_eq, ki_cl, ki_div, ki_ite, ck5, kl_0, kl_1, kl_2, kl_3, kl_4, kl_5, kl_6, kl_7, kl_8, kl_9, kl_10, kl_11, kl_12, kl_13, kl_14, kl_16, kl_20, kl_21, kl_24, kl_29, kl_30, kl_31, kl_33, kl_35, kl_37, kl_38, kl_39, kl_40, kl_41, kl_42, kl_43, kl_44, kl_45, kl_46, kl_47, kl_48, kl_49, kl_50, kl_51, kl_52, kl_53, kl_54, kl_55, kl_56, kl_57, kl_58, kl_59, kl_60, kl_61, kl_62, kl_63, kl_64, kl_70, kl_80, kl_81, kl_97, kl_98, kl_99, kl_100, kl_101, kl_102, kl_103, kl_104, kl_105, kl_106, kl_107, kl_108, kl_109, kl_110, kl_111, kl_112, kl_113, kl_114, kl_115, kl_120, kl_124, kl_126, kl_130, kl_255, kl_720, kl_2048, kl_10000, kl_12345, kl_252645135, kl_858993459, kl_1103515245, kl_1431655765, kl_1640531535, kl_2000000000, r])
          rfl
        · first | exact True.intro | omega | assumption
      | with_reducible apply wp_is
        · (try simp (disch := omega) only [bi, Int.add_zero, Int.zero_add, true_or, or_true, true_and, and_true, not_false_eq_true, not_true_eq_false, if_true, if_false, if_pos, if_neg, ki_add, ki_sub, ki_mul, ki_neg, ki_lt, ki_le, ki_eq, ki_cl, ki_div, ki_ite, ck5, kl_0, kl_1, kl_2, kl_3, kl_4, kl_5, kl_6, kl_7, kl_8, kl_9, kl_10, kl_11, kl_12, kl_13, kl_14, kl_16, kl_20, kl_21, kl_24, kl_29, kl_30, kl_31, kl_33, kl_35, kl_37, kl_38, kl_39, kl_40, kl_41, kl_42, kl_43, kl_44, kl_45, kl_46, kl_47, kl_48, kl_49, kl_50, kl_51, kl_52, kl_53, kl_54, kl_55, kl_56, kl_57, kl_58, kl_59, kl_60, kl_61, kl_62, kl_63, kl_64, kl_70, kl_80, kl_81, kl_97, kl_98, kl_99, kl_100, kl_101, kl_102, kl_103, kl_104, kl_105, kl_106, kl_107, kl_108, kl_109, kl_110, kl_111, kl_112, kl_113, kl_114, kl_115, kl_120, kl_124, kl_126, kl_130, kl_255, kl_720, kl_2048, kl_10000, kl_12345, kl_252645135, kl_858993459, kl_1103515245, kl_1431655765, kl_1640531535, kl_2000000000, r])
          rfl
        all_goals intro _
        all_goals try (exfalso; first | (rename_i q; exact q trivial) | (rename_i q; exact q) | omega)
      | with_reducible apply wp_mr
      | with_reducible apply wp_b
        · simp (disch := omega) only [Int.add_zero, Int.zero_add, true_or, or_true, true_and, and_true, not_false_eq_true, not_true_eq_false, if_true, if_false, if_pos, if_neg, ki_add, ki_sub, ki_mul, ki_neg, ki_lt, ki_le, ki_eq, ki_cl, ki_div, ki_ite, ck5, kl_0, kl_1, kl_2, kl_3, kl_4, kl_5, kl_6, kl_7, kl_8, kl_9, kl_10, kl_11, kl_12, kl_13, kl_14, kl_16, kl_20, kl_21, kl_24, kl_29, kl_30, kl_31, kl_33, kl_35, kl_37, kl_38, kl_39, kl_40, kl_41, kl_42, kl_43, kl_44, kl_45, kl_46, kl_47, kl_48, kl_49, kl_50, kl_51, kl_52, kl_53, kl_54, kl_55, kl_56, kl_57, kl_58, kl_59, kl_60, kl_61, kl_62, kl_63, kl_64, kl_70, kl_80, kl_81, kl_97, kl_98, kl_99, kl_100, kl_101, kl_102, kl_103, kl_104, kl_105, kl_106, kl_107, kl_108, kl_109, kl_110, kl_111, kl_112, kl_113, kl_114, kl_115, kl_120, kl_124, kl_126, kl_130, kl_255, kl_720, kl_2048, kl_10000, kl_12345, kl_252645135, kl_858993459, kl_1103515245, kl_1431655765, kl_1640531535, kl_2000000000, r]
          rfl
        all_goals intro _
        all_goals try (exfalso; first | (rename_i q; exact q trivial) | (rename_i q; exact q) | omega)
      | with_reducible apply wp_oe
        · simp (disch := omega) only [Int.add_zero, Int.zero_add, true_or, or_true, true_and, and_true, not_false_eq_true, not_true_eq_false, if_true, if_false, if_pos, if_neg, ki_add, ki_sub, ki_mul, ki_neg, ki_lt, ki_le, ki_eq, ki_cl, ki_div, ki_ite, ck5, kl_0, kl_1, kl_2, kl_3, kl_4, kl_5, kl_6, kl_7, kl_8, kl_9, kl_10, kl_11, kl_12, kl_13, kl_14, kl_16, kl_20, kl_21, kl_24, kl_29, kl_30, kl_31, kl_33, kl_35, kl_37, kl_38, kl_39, kl_40, kl_41, kl_42, kl_43, kl_44, kl_45, kl_46, kl_47, kl_48, kl_49, kl_50, kl_51, kl_52, kl_53, kl_54, kl_55, kl_56, kl_57, kl_58, kl_59, kl_60, kl_61, kl_62, kl_63, kl_64, kl_70, kl_80, kl_81, kl_97, kl_98, kl_99, kl_100, kl_101, kl_102, kl_103, kl_104, kl_105, kl_106, kl_107, kl_108, kl_109, kl_110, kl_111, kl_112, kl_113, kl_114, kl_115, kl_120, kl_124, kl_126, kl_130, kl_255, kl_720, kl_2048, kl_10000, kl_12345, kl_252645135, kl_858993459, kl_1103515245, kl_1431655765, kl_1640531535, kl_2000000000, r]
          try rfl
      | with_reducible apply wp_sv
        · (try simp (disch := omega) only [bi, Int.add_zero, Int.zero_add, true_or, or_true, true_and, and_true, not_false_eq_true, not_true_eq_false, if_true, if_false, if_pos, if_neg, ki_add, ki_sub, ki_mul, ki_neg, ki_lt, ki_le, ki_eq, ki_cl, ki_div, ki_ite, ck5, kl_0, kl_1, kl_2, kl_3, kl_4, kl_5, kl_6, kl_7, kl_8, kl_9, kl_10, kl_11, kl_12, kl_13, kl_14, kl_16, kl_20, kl_21, kl_24, kl_29, kl_30, kl_31, kl_33, kl_35, kl_37, kl_38, kl_39, kl_40, kl_41, kl_42, kl_43, kl_44, kl_45, kl_46, kl_47, kl_48, kl_49, kl_50, kl_51, kl_52, kl_53, kl_54, kl_55, kl_56, kl_57, kl_58, kl_59, kl_60, kl_61, kl_62, kl_63, kl_64, kl_70, kl_80, kl_81, kl_97, kl_98, kl_99, kl_100, kl_101, kl_102, kl_103, kl_104, kl_105, kl_106, kl_107, kl_108, kl_109, kl_110, kl_111, kl_112, kl_113, kl_114, kl_115, kl_120, kl_124, kl_126, kl_130, kl_255, kl_720, kl_2048, kl_10000, kl_12345, kl_252645135, kl_858993459, kl_1103515245, kl_1431655765, kl_1640531535, kl_2000000000, r])
          rfl
      | with_reducible apply wp_so
    exact qr ⟨rfl, hv, hf, h2⟩
  | succ m =>
    have r : S1.1 9 c.toNat = ki (g c) := by rw [hf 9 _ (by omega)]; exact h9 c (by omega) (by omega)
    unfold f_X12_image_94
    repeat' first
      | with_reducible apply wp_bd
        · (try simp (disch := omega) only [bi, Int.add_zero, Int.zero_add, true_or, or_true, true_and, and_true, not_false_eq_true, not_true_eq_false, if_true, if_false, if_pos, if_neg, ki_add, ki_sub, ki_mul, ki_neg, ki_lt, ki_le, ki_eq, ki_cl, ki_div, ki_ite, ck5, kl_0, kl_1, kl_2, kl_3, kl_4, kl_5, kl_6, kl_7, kl_8, kl_9, kl_10, kl_11, kl_12, kl_13, kl_14, kl_16, kl_20, kl_21, kl_24, kl_29, kl_30, kl_31, kl_33, kl_35, kl_37, kl_38, kl_39, kl_40, kl_41, kl_42, kl_43, kl_44, kl_45, kl_46, kl_47, kl_48, kl_49, kl_50, kl_51, kl_52, kl_53, kl_54, kl_55, kl_56, kl_57, kl_58, kl_59, kl_60, kl_61, kl_62, kl_63, kl_64, kl_70, kl_80, kl_81, kl_97, kl_98, kl_99, kl_100, kl_101, kl_102, kl_103, kl_104, kl_105, kl_106, kl_107, kl_108, kl_109, kl_110, kl_111, kl_112, kl_113, kl_114, kl_115, kl_120, kl_124, kl_126, kl_130, kl_255, kl_720, kl_2048, kl_10000, kl_12345, kl_252645135, kl_858993459, kl_1103515245, kl_1431655765, kl_1640531535, kl_2000000000, r])
          rfl
      | with_reducible apply wp_in
        · (try simp (disch := omega) only [bi, Int.add_zero, Int.zero_add, true_or, or_true, true_and, and_true, not_false_eq_true, not_true_eq_false, if_true, if_false, if_pos, if_neg, ki_add, ki_sub, ki_mul, ki_neg, ki_lt, ki_le, ki_eq, ki_cl, ki_div, ki_ite, ck5, kl_0, kl_1, kl_2, kl_3, kl_4, kl_5, kl_6, kl_7, kl_8, kl_9, kl_10, kl_11, kl_12, kl_13, kl_14, kl_16, kl_20, kl_21, kl_24, kl_29, kl_30, kl_31, kl_33, kl_35, kl_37, kl_38, kl_39, kl_40, kl_41, kl_42, kl_43, kl_44, kl_45, kl_46, kl_47, kl_48, kl_49, kl_50, kl_51, kl_52, kl_53, kl_54, kl_55, kl_56, kl_57, kl_58, kl_59, kl_60, kl_61, kl_62, kl_63, kl_64, kl_70, kl_80, kl_81, kl_97, kl_98, kl_99, kl_100, kl_101, kl_102, kl_103, kl_104, kl_105, kl_106, kl_107, kl_108, kl_109, kl_110, kl_111, kl_112, kl_113, kl_114, kl_115, kl_120, kl_124, kl_126, kl_130, kl_255, kl_720, kl_2048, kl_10000, kl_12345, kl_252645135, kl_858993459, kl_1103515245, kl_1431655765, kl_1640531535, kl_2000000000, r])
          rfl
        · decide
        · omega
        · omega
      | with_reducible apply wp_gd
        · (try simp (disch := omega) only [bi, Int.add_zero, Int.zero_add, true_or, or_true, true_and, and_true, not_false_eq_true, not_true_eq_false, if_true, if_false, if_pos, if_neg, ki_add, ki_sub, ki_mul, ki_neg, ki_lt, ki_le, ki_eq, ki_cl, ki_div, ki_ite, ck5, kl_0, kl_1, kl_2, kl_3, kl_4, kl_5, kl_6, kl_7, kl_8, kl_9, kl_10, kl_11, kl_12, kl_13, kl_14, kl_16, kl_20, kl_21, kl_24, kl_29, kl_30, kl_31, kl_33, kl_35, kl_37, kl_38, kl_39, kl_40, kl_41, kl_42, kl_43, kl_44, kl_45, kl_46, kl_47, kl_48, kl_49, kl_50, kl_51, kl_52, kl_53, kl_54, kl_55, kl_56, kl_57, kl_58, kl_59, kl_60, kl_61, kl_62, kl_63, kl_64, kl_70, kl_80, kl_81, kl_97, kl_98, kl_99, kl_100, kl_101, kl_102, kl_103, kl_104, kl_105, kl_106, kl_107, kl_108, kl_109, kl_110, kl_111, kl_112, kl_113, kl_114, kl_115, kl_120, kl_124, kl_126, kl_130, kl_255, kl_720, kl_2048, kl_10000, kl_12345, kl_252645135, kl_858993459, kl_1103515245, kl_1431655765, kl_1640531535, kl_2000000000, r])
          rfl
        · first | exact True.intro | omega | assumption
      | with_reducible apply wp_is
        · (try simp (disch := omega) only [bi, Int.add_zero, Int.zero_add, true_or, or_true, true_and, and_true, not_false_eq_true, not_true_eq_false, if_true, if_false, if_pos, if_neg, ki_add, ki_sub, ki_mul, ki_neg, ki_lt, ki_le, ki_eq, ki_cl, ki_div, ki_ite, ck5, kl_0, kl_1, kl_2, kl_3, kl_4, kl_5, kl_6, kl_7, kl_8, kl_9, kl_10, kl_11, kl_12, kl_13, kl_14, kl_16, kl_20, kl_21, kl_24, kl_29, kl_30, kl_31, kl_33, kl_35, kl_37, kl_38, kl_39, kl_40, kl_41, kl_42, kl_43, kl_44, kl_45, kl_46, kl_47, kl_48, kl_49, kl_50, kl_51, kl_52, kl_53, kl_54, kl_55, kl_56, kl_57, kl_58, kl_59, kl_60, kl_61, kl_62, kl_63, kl_64, kl_70, kl_80, kl_81, kl_97, kl_98, kl_99, kl_100, kl_101, kl_102, kl_103, kl_104, kl_105, kl_106, kl_107, kl_108, kl_109, kl_110, kl_111, kl_112, kl_113, kl_114, kl_115, kl_120, kl_124, kl_126, kl_130, kl_255, kl_720, kl_2048, kl_10000, kl_12345, kl_252645135, kl_858993459, kl_1103515245, kl_1431655765, kl_1640531535, kl_2000000000, r])
          rfl
        all_goals intro _
        all_goals try (exfalso; first | (rename_i q; exact q trivial) | (rename_i q; exact q) | omega)
      | with_reducible apply wp_mr
      | with_reducible apply wp_b
        · simp (disch := omega) only [Int.add_zero, Int.zero_add, true_or, or_true, true_and, and_true, not_false_eq_true, not_true_eq_false, if_true, if_false, if_pos, if_neg, ki_add, ki_sub, ki_mul, ki_neg, ki_lt, ki_le, ki_eq, ki_cl, ki_div, ki_ite, ck5, kl_0, kl_1, kl_2, kl_3, kl_4, kl_5, kl_6, kl_7, kl_8, kl_9, kl_10, kl_11, kl_12, kl_13, kl_14, kl_16, kl_20, kl_21, kl_24, kl_29, kl_30, kl_31, kl_33, kl_35, kl_37, kl_38, kl_39, kl_40, kl_41, kl_42, kl_43, kl_44, kl_45, kl_46, kl_47, kl_48, kl_49, kl_50, kl_51, kl_52, kl_53, kl_54, kl_55, kl_56, kl_57, kl_58, kl_59, kl_60, kl_61, kl_62, kl_63, kl_64, kl_70, kl_80, kl_81, kl_97, kl_98, kl_99, kl_100, kl_101, kl_102, kl_103, kl_104, kl_105, kl_106, kl_107, kl_108, kl_109, kl_110, kl_111, kl_112, kl_113, kl_114, kl_115, kl_120, kl_124, kl_126, kl_130, kl_255, kl_720, kl_2048, kl_10000, kl_12345, kl_252645135, kl_858993459, kl_1103515245, kl_1431655765, kl_1640531535, kl_2000000000, r]
          rfl
        all_goals intro _
        all_goals try (exfalso; first | (rename_i q; exact q trivial) | (rename_i q; exact q) | omega)
      | with_reducible apply wp_oe
        · simp (disch := omega) only [Int.add_zero, Int.zero_add, true_or, or_true, true_and, and_true, not_false_eq_true, not_true_eq_false, if_true, if_false, if_pos, if_neg, ki_add, ki_sub, ki_mul, ki_neg, ki_lt, ki_le, ki_eq, ki_cl, ki_div, ki_ite, ck5, kl_0, kl_1, kl_2, kl_3, kl_4, kl_5, kl_6, kl_7, kl_8, kl_9, kl_10, kl_11, kl_12, kl_13, kl_14, kl_16, kl_20, kl_21, kl_24, kl_29, kl_30, kl_31, kl_33, kl_35, kl_37, kl_38, kl_39, kl_40, kl_41, kl_42, kl_43, kl_44, kl_45, kl_46, kl_47, kl_48, kl_49, kl_50, kl_51, kl_52, kl_53, kl_54, kl_55, kl_56, kl_57, kl_58, kl_59, kl_60, kl_61, kl_62, kl_63, kl_64, kl_70, kl_80, kl_81, kl_97, kl_98, kl_99, kl_100, kl_101, kl_102, kl_103, kl_104, kl_105, kl_106, kl_107, kl_108, kl_109, kl_110, kl_111, kl_112, kl_113, kl_114, kl_115, kl_120, kl_124, kl_126, kl_130, kl_255, kl_720, kl_2048, kl_10000, kl_12345, kl_252645135, kl_858993459, kl_1103515245, kl_1431655765, kl_1640531535, kl_2000000000, r]
          try rfl
      | with_reducible apply wp_sv
        · (try simp (disch := omega) only [bi, Int.add_zero, Int.zero_add, true_or, or_true, true_and, and_true, not_false_eq_true, not_true_eq_false, if_true, if_false, if_pos, if_neg, ki_add, ki_sub, ki_mul, ki_neg, ki_lt, ki_le, ki_eq, ki_cl, ki_div, ki_ite, ck5, kl_0, kl_1, kl_2, kl_3, kl_4, kl_5, kl_6, kl_7, kl_8, kl_9, kl_10, kl_11, kl_12, kl_13, kl_14, kl_16, kl_20, kl_21, kl_24, kl_29, kl_30, kl_31, kl_33, kl_35, kl_37, kl_38, kl_39, kl_40, kl_41, kl_42, kl_43, kl_44, kl_45, kl_46, kl_47, kl_48, kl_49, kl_50, kl_51, kl_52, kl_53, kl_54, kl_55, kl_56, kl_57, kl_58, kl_59, kl_60, kl_61, kl_62, kl_63, kl_64, kl_70, kl_80, kl_81, kl_97, kl_98, kl_99, kl_100, kl_101, kl_102, kl_103, kl_104, kl_105, kl_106, kl_107, kl_108, kl_109, kl_110, kl_111, kl_112, kl_113, kl_114, kl_115, kl_120, kl_124, kl_126, kl_130, kl_255, kl_720, kl_2048, kl_10000, kl_12345, kl_252645135, kl_858993459, kl_1103515245, kl_1431655765, kl_1640531535, kl_2000000000, r])
          rfl
      | with_reducible apply wp_so
    exact ql ⟨m, by omega, c + 1, rfl, by omega, by omega, vw_sn hv c0 rfl, eq_tr hf (eq_i rfl), h2⟩
theorem m_imR {S0 S : xSt} {c : Int} (c0 : 0 ≤ c) (c1 : c < 30) (hf : eq_ (fun k _ => k = 33) S0 S) (h2 : S.2 = S0.2) (hp : ∀ z w : Int, 0 ≤ z → z < c → 0 ≤ w → w < 5 → S.1 33 (5 * z + w).toNat = S0.1 (2 + w.toNat) z.toNat) {Q : ((xSt × Int32) ⊕ (xSt × Int32)) → Prop} (hk : ∀ S' : xSt, eq_ (fun k _ => k = 33) S0 S' → S'.2 = S0.2 → (∀ z w : Int, 0 ≤ z → z < c + 1 → 0 ≤ w → w < 5 → S'.1 33 (5 * z + w).toNat = S0.1 (2 + w.toNat) z.toNat) → Q (.inl (S', ki (c + 1)))) :
    wp (xlp (fun q : (xSt × Int32) => f_X12_image_59 (ki c) q.1 q.2) 5000 (S, (0 : Int32))) Q := by
  refine wp_lp (fun m s => ∃ l : Int, s.2 = ki l ∧ 0 ≤ l ∧ l + m = 5 ∧ eq_ (fun k _ => k = 33) S0 s.1 ∧ s.1.2 = S0.2 ∧ (∀ z w : Int, 0 ≤ z → 0 ≤ w → w < 5 → (z < c ∨ (z = c ∧ w < l)) → s.1.1 33 (5 * z + w).toNat = S0.1 (2 + w.toNat) z.toNat)) 5 ?_ ⟨0, kl_0, by omega, by omega, hf, h2, fun z w z0 w0 w1 hz => hp z w z0 (by omega) w0 w1⟩ (by omega)
  intro m q hI
  obtain ⟨S1, x⟩ := q
  obtain ⟨l, hx1, l0, l1, hf1, h21, hv⟩ := hI
  dsimp only at hx1 hv hf1 h21
  subst hx1
  show wp (f_X12_image_59 (ki c) S1 (ki l)) _
  unfold f_X12_image_59
  cases m with
  | zero =>
    have ec : l = 5 := by omega
    subst ec
    unfold f_X12_image_86
    repeat' first
      | with_reducible apply wp_bd
        · (try simp (disch := omega) only [bi, Int.add_zero, Int.zero_add, true_or, or_true, true_and, and_true, not_false_eq_true, not_true_eq_false, if_true, if_false, if_pos, if_neg, ki_add, ki_sub, ki_mul, ki_neg, ki_lt, ki_le, ki_eq, ki_cl, ki_div, ki_ite, ck5, kl_0, kl_1, kl_2, kl_3, kl_4, kl_5, kl_6, kl_7, kl_8, kl_9, kl_10, kl_11, kl_12, kl_13, kl_14, kl_16, kl_20, kl_21, kl_24, kl_29, kl_30, kl_31, kl_33, kl_35, kl_37, kl_38, kl_39, kl_40, kl_41, kl_42, kl_43, kl_44, kl_45, kl_46, kl_47, kl_48, kl_49, kl_50, kl_51, kl_52, kl_53, kl_54, kl_55, kl_56, kl_57, kl_58, kl_59, kl_60, kl_61, kl_62, kl_63, kl_64, kl_70, kl_80, kl_81, kl_97, kl_98, kl_99, kl_100, kl_101, kl_102, kl_103, kl_104, kl_105, kl_106, kl_107, kl_108, kl_109, kl_110, kl_111, kl_112, kl_113, kl_114, kl_115, kl_120, kl_124, kl_126, kl_130, kl_255, kl_720, kl_2048, kl_10000, kl_12345, kl_252645135, kl_858993459, kl_1103515245, kl_1431655765, kl_1640531535, kl_2000000000])
          rfl
      | with_reducible apply wp_in
        · (try simp (disch := omega) only [bi, Int.add_zero, Int.zero_add, true_or, or_true, true_and, and_true, not_false_eq_true, not_true_eq_false, if_true, if_false, if_pos, if_neg, ki_add, ki_sub, ki_mul, ki_neg, ki_lt, ki_le, ki_eq, ki_cl, ki_div, ki_ite, ck5, kl_0, kl_1, kl_2, kl_3, kl_4, kl_5, kl_6, kl_7, kl_8, kl_9, kl_10, kl_11, kl_12, kl_13, kl_14, kl_16, kl_20, kl_21, kl_24, kl_29, kl_30, kl_31, kl_33, kl_35, kl_37, kl_38, kl_39, kl_40, kl_41, kl_42, kl_43, kl_44, kl_45, kl_46, kl_47, kl_48, kl_49, kl_50, kl_51, kl_52, kl_53, kl_54, kl_55, kl_56, kl_57, kl_58, kl_59, kl_60, kl_61, kl_62, kl_63, kl_64, kl_70, kl_80, kl_81, kl_97, kl_98, kl_99, kl_100, kl_101, kl_102, kl_103, kl_104, kl_105, kl_106, kl_107, kl_108, kl_109, kl_110, kl_111, kl_112, kl_113, kl_114, kl_115, kl_120, kl_124, kl_126, kl_130, kl_255, kl_720, kl_2048, kl_10000, kl_12345, kl_252645135, kl_858993459, kl_1103515245, kl_1431655765, kl_1640531535, kl_2000000000])
          rfl
        · decide
        · omega
        · omega
      | with_reducible apply wp_gd
        · (try simp (disch := omega) only [bi, Int.add_zero, Int.zero_add, true_or, or_true, true_and, and_true, not_false_eq_true, not_true_eq_false, if_true, if_false, if_pos, if_neg, ki_add, ki_sub, ki_mul, ki_neg, ki_lt, ki_le, ki_eq, ki_cl, ki_div, ki_ite, ck5, kl_0, kl_1, kl_2, kl_3, kl_4, kl_5, kl_6, kl_7, kl_8, kl_9, kl_10, kl_11, kl_12, kl_13, kl_14, kl_16, kl_20, kl_21, kl_24, kl_29, kl_30, kl_31, kl_33, kl_35, kl_37, kl_38, kl_39, kl_40, kl_41, kl_42, kl_43, kl_44, kl_45, kl_46, kl_47, kl_48, kl_49, kl_50, kl_51, kl_52, kl_53, kl_54, kl_55, kl_56, kl_57, kl_58, kl_59, kl_60, kl_61, kl_62, kl_63, kl_64, kl_70, kl_80, kl_81, kl_97, kl_98, kl_99, kl_100, kl_101, kl_102, kl_103, kl_104, kl_105, kl_106, kl_107, kl_108, kl_109, kl_110, kl_111, kl_112, kl_113, kl_114, kl_115, kl_120, kl_124, kl_126, kl_130, kl_255, kl_720, kl_2048, kl_10000, kl_12345, kl_252645135, kl_858993459, kl_1103515245, kl_1431655765, kl_1640531535, kl_2000000000])
          rfl
        · first | exact True.intro | omega | assumption
      | with_reducible apply wp_is
        · (try simp (disch := omega) only [bi, Int.add_zero, Int.zero_add, true_or, or_true, true_and, and_true, not_false_eq_true, not_true_eq_false, if_true, if_false, if_pos, if_neg, ki_add, ki_sub, ki_mul, ki_neg, ki_lt, ki_le, ki_eq, ki_cl, ki_div, ki_ite, ck5, kl_0, kl_1, kl_2, kl_3, kl_4, kl_5, kl_6, kl_7, kl_8, kl_9, kl_10, kl_11, kl_12, kl_13, kl_14, kl_16, kl_20, kl_21, kl_24, kl_29, kl_30, kl_31, kl_33, kl_35, kl_37, kl_38, kl_39, kl_40, kl_41, kl_42, kl_43, kl_44, kl_45, kl_46, kl_47, kl_48, kl_49, kl_50, kl_51, kl_52, kl_53, kl_54, kl_55, kl_56, kl_57, kl_58, kl_59, kl_60, kl_61, kl_62, kl_63, kl_64, kl_70, kl_80, kl_81, kl_97, kl_98, kl_99, kl_100, kl_101, kl_102, kl_103, kl_104, kl_105, kl_106, kl_107, kl_108, kl_109, kl_110, kl_111, kl_112, kl_113, kl_114, kl_115, kl_120, kl_124, kl_126, kl_130, kl_255, kl_720, kl_2048, kl_10000, kl_12345, kl_252645135, kl_858993459, kl_1103515245, kl_1431655765, kl_1640531535, kl_2000000000])
          rfl
        all_goals intro _
        all_goals try (exfalso; first | (rename_i q; exact q trivial) | (rename_i q; exact q) | omega)
      | with_reducible apply wp_mr
      | with_reducible apply wp_b
        · simp (disch := omega) only [Int.add_zero, Int.zero_add, true_or, or_true, true_and, and_true, not_false_eq_true, not_true_eq_false, if_true, if_false, if_pos, if_neg, ki_add, ki_sub, ki_mul, ki_neg, ki_lt, ki_le, ki_eq, ki_cl, ki_div, ki_ite, ck5, kl_0, kl_1, kl_2, kl_3, kl_4, kl_5, kl_6, kl_7, kl_8, kl_9, kl_10, kl_11, kl_12, kl_13, kl_14, kl_16, kl_20, kl_21, kl_24, kl_29, kl_30, kl_31, kl_33, kl_35, kl_37, kl_38, kl_39, kl_40, kl_41, kl_42, kl_43, kl_44, kl_45, kl_46, kl_47, kl_48, kl_49, kl_50, kl_51, kl_52, kl_53, kl_54, kl_55, kl_56, kl_57, kl_58, kl_59, kl_60, kl_61, kl_62, kl_63, kl_64, kl_70, kl_80, kl_81, kl_97, kl_98, kl_99, kl_100, kl_101, kl_102, kl_103, kl_104, kl_105, kl_106, kl_107, kl_108, kl_109, kl_110, kl_111, kl_112, kl_113, kl_114, kl_115, kl_120, kl_124, kl_126, kl_130, kl_255, kl_720, kl_2048, kl_10000, kl_12345, kl_252645135, kl_858993459, kl_1103515245, kl_1431655765, kl_1640531535, kl_2000000000]
          rfl
        all_goals intro _
        all_goals try (exfalso; first | (rename_i q; exact q trivial) | (rename_i q; exact q) | omega)
      | with_reducible apply wp_oe
        · simp (disch := omega) only [Int.add_zero, Int.zero_add, true_or, or_true, true_and, and_true, not_false_eq_true, not_true_eq_false, if_true, if_false, if_pos, if_neg, ki_add, ki_sub, ki_mul, ki_neg, ki_lt, ki_le, ki_eq, ki_cl, ki_div, ki_ite, ck5, kl_0, kl_1, kl_2, kl_3, kl_4, kl_5, kl_6, kl_7, kl_8, kl_9, kl_10, kl_11, kl_12, kl_13, kl_14, kl_16, kl_20, kl_21, kl_24, kl_29, kl_30, kl_31, kl_33, kl_35, kl_37, kl_38, kl_39, kl_40, kl_41, kl_42, kl_43, kl_44, kl_45, kl_46, kl_47, kl_48, kl_49, kl_50, kl_51, kl_52, kl_53, kl_54, kl_55, kl_56, kl_57, kl_58, kl_59, kl_60, kl_61, kl_62, kl_63, kl_64, kl_70, kl_80, kl_81, kl_97, kl_98, kl_99, kl_100, kl_101, kl_102, kl_103, kl_104, kl_105, kl_106, kl_107, kl_108, kl_109, kl_110, kl_111, kl_112, kl_113, kl_114, kl_115, kl_120, kl_124, kl_126, kl_130, kl_255, kl_720, kl_2048, kl_10000, kl_12345, kl_252645135, kl_858993459, kl_1103515245, kl_1431655765, kl_1640531535, kl_2000000000]
          try rfl
      | with_reducible apply wp_sv
        · (try simp (disch := omega) only [bi, Int.add_zero, Int.zero_add, true_or, or_true, true_and, and_true, not_false_eq_true, not_true_eq_false, if_true, if_false, if_pos, if_neg, ki_add, ki_sub, ki_mul, ki_neg, ki_lt, ki_le, ki_eq, ki_cl, ki_div, ki_ite, ck5, kl_0, kl_1, kl_2, kl_3, kl_4, kl_5, kl_6, kl_7, kl_8, kl_9, kl_10, kl_11, kl_12, kl_13, kl_14, kl_16, kl_20, kl_21, kl_24, kl_29, kl_30, kl_31, kl_33, kl_35, kl_37, kl_38, kl_39, kl_40, kl_41, kl_42, kl_43, kl_44, kl_45, kl_46, kl_47, kl_48, kl_49, kl_50, kl_51, kl_52, kl_53, kl_54, kl_55, kl_56, kl_57, kl_58, kl_59, kl_60, kl_61, kl_62, kl_63, kl_64, kl_70, kl_80, kl_81, kl_97, kl_98, kl_99, kl_100, kl_101, kl_102, kl_103, kl_104, kl_105, kl_106, kl_107, kl_108, kl_109, kl_110, kl_111, kl_112, kl_113, kl_114, kl_115, kl_120, kl_124, kl_126, kl_130, kl_255, kl_720, kl_2048, kl_10000, kl_12345, kl_252645135, kl_858993459, kl_1103515245, kl_1431655765, kl_1640531535, kl_2000000000])
          rfl
      | with_reducible apply wp_so
    exact qr (hk S1 hf1 h21 (fun z w z0 z1 w0 w1 => hv z w z0 w0 w1 (by omega)))
  | succ m =>
    have y := m_va5 (S := S1) l0 (by omega) c0 c1
    have yr : S1.1 (2 + l.toNat) c.toNat = S0.1 (2 + l.toNat) c.toNat := hf1 _ _ (by omega)
    repeat' first
      | with_reducible apply wp_bd
        · (try simp (disch := omega) only [bi, Int.add_zero, Int.zero_add, true_or, or_true, true_and, and_true, not_false_eq_true, not_true_eq_false, if_true, if_false, if_pos, if_neg, ki_add, ki_sub, ki_mul, ki_neg, ki_lt, ki_le, ki_eq, ki_cl, ki_div, ki_ite, ck5, kl_0, kl_1, kl_2, kl_3, kl_4, kl_5, kl_6, kl_7, kl_8, kl_9, kl_10, kl_11, kl_12, kl_13, kl_14, kl_16, kl_20, kl_21, kl_24, kl_29, kl_30, kl_31, kl_33, kl_35, kl_37, kl_38, kl_39, kl_40, kl_41, kl_42, kl_43, kl_44, kl_45, kl_46, kl_47, kl_48, kl_49, kl_50, kl_51, kl_52, kl_53, kl_54, kl_55, kl_56, kl_57, kl_58, kl_59, kl_60, kl_61, kl_62, kl_63, kl_64, kl_70, kl_80, kl_81, kl_97, kl_98, kl_99, kl_100, kl_101, kl_102, kl_103, kl_104, kl_105, kl_106, kl_107, kl_108, kl_109, kl_110, kl_111, kl_112, kl_113, kl_114, kl_115, kl_120, kl_124, kl_126, kl_130, kl_255, kl_720, kl_2048, kl_10000, kl_12345, kl_252645135, kl_858993459, kl_1103515245, kl_1431655765, kl_1640531535, kl_2000000000, y])
          rfl
      | with_reducible apply wp_in
        · (try simp (disch := omega) only [bi, Int.add_zero, Int.zero_add, true_or, or_true, true_and, and_true, not_false_eq_true, not_true_eq_false, if_true, if_false, if_pos, if_neg, ki_add, ki_sub, ki_mul, ki_neg, ki_lt, ki_le, ki_eq, ki_cl, ki_div, ki_ite, ck5, kl_0, kl_1, kl_2, kl_3, kl_4, kl_5, kl_6, kl_7, kl_8, kl_9, kl_10, kl_11, kl_12, kl_13, kl_14, kl_16, kl_20, kl_21, kl_24, kl_29, kl_30, kl_31, kl_33, kl_35, kl_37, kl_38, kl_39, kl_40, kl_41, kl_42, kl_43, kl_44, kl_45, kl_46, kl_47, kl_48, kl_49, kl_50, kl_51, kl_52, kl_53, kl_54, kl_55, kl_56, kl_57, kl_58, kl_59, kl_60, kl_61, kl_62, kl_63, kl_64, kl_70, kl_80, kl_81, kl_97, kl_98, kl_99, kl_100, kl_101, kl_102, kl_103, kl_104, kl_105, kl_106, kl_107, kl_108, kl_109, kl_110, kl_111, kl_112, kl_113, kl_114, kl_115, kl_120, kl_124, kl_126, kl_130, kl_255, kl_720, kl_2048, kl_10000, kl_12345, kl_252645135, kl_858993459, kl_1103515245, kl_1431655765, kl_1640531535, kl_2000000000, y])
          rfl
        · decide
        · omega
        · omega
      | with_reducible apply wp_gd
        · (try simp (disch := omega) only [bi, Int.add_zero, Int.zero_add, true_or, or_true, true_and, and_true, not_false_eq_true, not_true_eq_false, if_true, if_false, if_pos, if_neg, ki_add, ki_sub, ki_mul, ki_neg, ki_lt, ki_le, ki_eq, ki_cl, ki_div, ki_ite, ck5, kl_0, kl_1, kl_2, kl_3, kl_4, kl_5, kl_6, kl_7, kl_8, kl_9, kl_10, kl_11, kl_12, kl_13, kl_14, kl_16, kl_20, kl_21, kl_24, kl_29, kl_30, kl_31, kl_33, kl_35, kl_37, kl_38, kl_39, kl_40, kl_41, kl_42, kl_43, kl_44, kl_45, kl_46, kl_47, kl_48, kl_49, kl_50, kl_51, kl_52, kl_53, kl_54, kl_55, kl_56, kl_57, kl_58, kl_59, kl_60, kl_61, kl_62, kl_63, kl_64, kl_70, kl_80, kl_81, kl_97, kl_98, kl_99, kl_100, kl_101, kl_102, kl_103, kl_104, kl_105, kl_106, kl_107, kl_108, kl_109, kl_110, kl_111, kl_112, kl_113, kl_114, kl_115, kl_120, kl_124, kl_126, kl_130, kl_255, kl_720, kl_2048, kl_10000, kl_12345, kl_252645135, kl_858993459, kl_1103515245, kl_1431655765, kl_1640531535, kl_2000000000, y])
          rfl
        · first | exact True.intro | omega | assumption
      | with_reducible apply wp_is
        · (try simp (disch := omega) only [bi, Int.add_zero, Int.zero_add, true_or, or_true, true_and, and_true, not_false_eq_true, not_true_eq_false, if_true, if_false, if_pos, if_neg, ki_add, ki_sub, ki_mul, ki_neg, ki_lt, ki_le, ki_eq, ki_cl, ki_div, ki_ite, ck5, kl_0, kl_1, kl_2, kl_3, kl_4, kl_5, kl_6, kl_7, kl_8, kl_9, kl_10, kl_11, kl_12, kl_13, kl_14, kl_16, kl_20, kl_21, kl_24, kl_29, kl_30, kl_31, kl_33, kl_35, kl_37, kl_38, kl_39, kl_40, kl_41, kl_42, kl_43, kl_44, kl_45, kl_46, kl_47, kl_48, kl_49, kl_50, kl_51, kl_52, kl_53, kl_54, kl_55, kl_56, kl_57, kl_58, kl_59, kl_60, kl_61, kl_62, kl_63, kl_64, kl_70, kl_80, kl_81, kl_97, kl_98, kl_99, kl_100, kl_101, kl_102, kl_103, kl_104, kl_105, kl_106, kl_107, kl_108, kl_109, kl_110, kl_111, kl_112, kl_113, kl_114, kl_115, kl_120, kl_124, kl_126, kl_130, kl_255, kl_720, kl_2048, kl_10000, kl_12345, kl_252645135, kl_858993459, kl_1103515245, kl_1431655765, kl_1640531535, kl_2000000000, y])
          rfl
        all_goals intro _
        all_goals try (exfalso; first | (rename_i q; exact q trivial) | (rename_i q; exact q) | omega)
      | with_reducible apply wp_mr
      | with_reducible apply wp_b
        · simp (disch := omega) only [Int.add_zero, Int.zero_add, true_or, or_true, true_and, and_true, not_false_eq_true, not_true_eq_false, if_true, if_false, if_pos, if_neg, ki_add, ki_sub, ki_mul, ki_neg, ki_lt, ki_le, ki_eq, ki_cl, ki_div, ki_ite, ck5, kl_0, kl_1, kl_2, kl_3, kl_4, kl_5, kl_6, kl_7, kl_8, kl_9, kl_10, kl_11, kl_12, kl_13, kl_14, kl_16, kl_20, kl_21, kl_24, kl_29, kl_30, kl_31, kl_33, kl_35, kl_37, kl_38, kl_39, kl_40, kl_41, kl_42, kl_43, kl_44, kl_45, kl_46, kl_47, kl_48, kl_49, kl_50, kl_51, kl_52, kl_53, kl_54, kl_55, kl_56, kl_57, kl_58, kl_59, kl_60, kl_61, kl_62, kl_63, kl_64, kl_70, kl_80, kl_81, kl_97, kl_98, kl_99, kl_100, kl_101, kl_102, kl_103, kl_104, kl_105, kl_106, kl_107, kl_108, kl_109, kl_110, kl_111, kl_112, kl_113, kl_114, kl_115, kl_120, kl_124, kl_126, kl_130, kl_255, kl_720, kl_2048, kl_10000, kl_12345, kl_252645135, kl_858993459, kl_1103515245, kl_1431655765, kl_1640531535, kl_2000000000, y]
          rfl
        all_goals intro _
        all_goals try (exfalso; first | (rename_i q; exact q trivial) | (rename_i q; exact q) | omega)
      | with_reducible apply wp_oe
        · simp (disch := omega) only [Int.add_zero, Int.zero_add, true_or, or_true, true_and, and_true, not_false_eq_true, not_true_eq_false, if_true, if_false, if_pos, if_neg, ki_add, ki_sub, ki_mul, ki_neg, ki_lt, ki_le, ki_eq, ki_cl, ki_div, ki_ite, ck5, kl_0, kl_1, kl_2, kl_3, kl_4, kl_5, kl_6, kl_7, kl_8, kl_9, kl_10, kl_11, kl_12, kl_13, kl_14, kl_16, kl_20, kl_21, kl_24, kl_29, kl_30, kl_31, kl_33, kl_35, kl_37, kl_38, kl_39, kl_40, kl_41, kl_42, kl_43, kl_44, kl_45, kl_46, kl_47, kl_48, kl_49, kl_50, kl_51, kl_52, kl_53, kl_54, kl_55, kl_56, kl_57, kl_58, kl_59, kl_60, kl_61, kl_62, kl_63, kl_64, kl_70, kl_80, kl_81, kl_97, kl_98, kl_99, kl_100, kl_101, kl_102, kl_103, kl_104, kl_105, kl_106, kl_107, kl_108, kl_109, kl_110, kl_111, kl_112, kl_113, kl_114, kl_115, kl_120, kl_124, kl_126, kl_130, kl_255, kl_720, kl_2048, kl_10000, kl_12345, kl_252645135, kl_858993459, kl_1103515245, kl_1431655765, kl_1640531535, kl_2000000000, y]
          try rfl
      | with_reducible apply wp_sv
        · (try simp (disch := omega) only [bi, Int.add_zero, Int.zero_add, true_or, or_true, true_and, and_true, not_false_eq_true, not_true_eq_false, if_true, if_false, if_pos, if_neg, ki_add, ki_sub, ki_mul, ki_neg, ki_lt, ki_le, ki_eq, ki_cl, ki_div, ki_ite, ck5, kl_0, kl_1, kl_2, kl_3, kl_4, kl_5, kl_6, kl_7, kl_8, kl_9, kl_10, kl_11, kl_12, kl_13, kl_14, kl_16, kl_20, kl_21, kl_24, kl_29, kl_30, kl_31, kl_33, kl_35, kl_37, kl_38, kl_39, kl_40, kl_41, kl_42, kl_43, kl_44, kl_45, kl_46, kl_47, kl_48, kl_49, kl_50, kl_51, kl_52, kl_53, kl_54, kl_55, kl_56, kl_57, kl_58, kl_59, kl_60, kl_61, kl_62, kl_63, kl_64, kl_70, kl_80, kl_81, kl_97, kl_98, kl_99, kl_100, kl_101, kl_102, kl_103, kl_104, kl_105, kl_106, kl_107, kl_108, kl_109, kl_110, kl_111, kl_112, kl_113, kl_114, kl_115, kl_120, kl_124, kl_126, kl_130, kl_255, kl_720, kl_2048, kl_10000, kl_12345, kl_252645135, kl_858993459, kl_1103515245, kl_1431655765, kl_1640531535, kl_2000000000, y])
          rfl
      | with_reducible apply wp_so
    refine ql ⟨m, by omega, l + 1, rfl, by omega, by omega, eq_tr hf1 (eq_i rfl), h21, fun z w z0 w0 w1 hz => ?_⟩
    by_cases e : z = c ∧ w = l
    · obtain ⟨rfl, rfl⟩ := e
      rw [xsi_r, if_pos ⟨rfl, rfl⟩]; exact yr
    · rw [xsi_r, if_neg (by omega)]; exact hv z w z0 w0 w1 (by omega)
theorem m_imM {S : xSt} {g : Int → Int} (h9 : vw S 9 5 g) : wp (f_X12_image_49 S) (fun r => r.2 = ki (g 4) ∧ vw r.1 34 5 g ∧ (∀ z w : Int, 0 ≤ z → z < 30 → 0 ≤ w → w < 5 → r.1.1 33 (5 * z + w).toNat = S.1 (2 + w.toNat) z.toNat) ∧ eq_ (fun k _ => k = 34 ∨ k = 33) S r.1 ∧ r.1.2 = S.2) := by
  unfold f_X12_image_49
  refine wp_lp (fun m s => ∃ c : Int, s.2 = ki c ∧ 0 ≤ c ∧ c + m = 30 ∧ eq_ (fun k _ => k = 33) S s.1 ∧ s.1.2 = S.2 ∧ (∀ z w : Int, 0 ≤ z → z < c → 0 ≤ w → w < 5 → s.1.1 33 (5 * z + w).toNat = S.1 (2 + w.toNat) z.toNat)) 30 ?_ ⟨0, kl_0, by omega, by omega, eq_rf _ _, rfl, fun z w z0 z1 => absurd z1 (by omega)⟩ (by omega)
  intro m q hI
  obtain ⟨S1, x⟩ := q
  obtain ⟨c, hx1, c0, c1, hf, h2, hv⟩ := hI
  dsimp only at hx1 hv hf h2
  subst hx1
  show wp (f_X12_image_51 S1 (ki c)) _
  unfold f_X12_image_51
  cases m with
  | zero =>
    have ec : c = 30 := by omega
    subst ec
    repeat' first
      | with_reducible apply wp_bd
        · (try simp (disch := omega) only [bi, Int.add_zero, Int.zero_add, true_or, or_true, true_and, and_true, not_false_eq_true, not_true_eq_false, if_true, if_false, if_pos, if_neg, ki_add, ki_sub, ki_mul, ki_neg, ki_lt, ki_le, ki_eq, ki_cl, ki_div, ki_ite, ck5, kl_0, kl_1, kl_2, kl_3, kl_4, kl_5, kl_6, kl_7, kl_8, kl_9, kl_10, kl_11, kl_12, kl_13, kl_14, kl_16, kl_20, kl_21, kl_24, kl_29, kl_30, kl_31, kl_33, kl_35, kl_37, kl_38, kl_39, kl_40, kl_41, kl_42, kl_43, kl_44, kl_45, kl_46, kl_47, kl_48, kl_49, kl_50, kl_51, kl_52, kl_53, kl_54, kl_55, kl_56, kl_57, kl_58, kl_59, kl_60, kl_61, kl_62, kl_63, kl_64, kl_70, kl_80, kl_81, kl_97, kl_98, kl_99, kl_100, kl_101, kl_102, kl_103, kl_104, kl_105, kl_106, kl_107, kl_108, kl_109, kl_110, kl_111, kl_112, kl_113, kl_114, kl_115, kl_120, kl_124, kl_126, kl_130, kl_255, kl_720, kl_2048, kl_10000, kl_12345, kl_252645135, kl_858993459, kl_1103515245, kl_1431655765, kl_1640531535, kl_2000000000])
          rfl
      | with_reducible apply wp_in
        · (try simp (disch := omega) only [bi, Int.add_zero, Int.zero_add, true_or, or_true, true_and, and_true, not_false_eq_true, not_true_eq_false, if_true, if_false, if_pos, if_neg, ki_add, ki_sub, ki_mul, ki_neg, ki_lt, ki_le, ki_eq, ki_cl, ki_div, ki_ite, ck5, kl_0, kl_1, kl_2, kl_3, kl_4, kl_5, kl_6, kl_7, kl_8, kl_9, kl_10, kl_11, kl_12, kl_13, kl_14, kl_16, kl_20, kl_21, kl_24, kl_29, kl_30, kl_31, kl_33, kl_35, kl_37, kl_38, kl_39, kl_40, kl_41, kl_42, kl_43, kl_44, kl_45, kl_46, kl_47, kl_48, kl_49, kl_50, kl_51, kl_52, kl_53, kl_54, kl_55, kl_56, kl_57, kl_58, kl_59, kl_60, kl_61, kl_62, kl_63, kl_64, kl_70, kl_80, kl_81, kl_97, kl_98, kl_99, kl_100, kl_101, kl_102, kl_103, kl_104, kl_105, kl_106, kl_107, kl_108, kl_109, kl_110, kl_111, kl_112, kl_113, kl_114, kl_115, kl_120, kl_124, kl_126, kl_130, kl_255, kl_720, kl_2048, kl_10000, kl_12345, kl_252645135, kl_858993459, kl_1103515245, kl_1431655765, kl_1640531535, kl_2000000000])
          rfl
        · decide
        · omega
        · omega
      | with_reducible apply wp_gd
        · (try simp (disch := omega) only [bi, Int.add_zero, Int.zero_add, true_or, or_true, true_and, and_true, not_false_eq_true, not_true_eq_false, if_true, if_false, if_pos, if_neg, ki_add, ki_sub, ki_mul, ki_neg, ki_lt, ki_le, ki_eq, ki_cl, ki_div, ki_ite, ck5, kl_0, kl_1, kl_2, kl_3, kl_4, kl_5, kl_6, kl_7, kl_8, kl_9, kl_10, kl_11, kl_12, kl_13, kl_14, kl_16, kl_20, kl_21, kl_24, kl_29, kl_30, kl_31, kl_33, kl_35, kl_37, kl_38, kl_39, kl_40, kl_41, kl_42, kl_43, kl_44, kl_45, kl_46, kl_47, kl_48, kl_49, kl_50, kl_51, kl_52, kl_53, kl_54, kl_55, kl_56, kl_57, kl_58, kl_59, kl_60, kl_61, kl_62, kl_63, kl_64, kl_70, kl_80, kl_81, kl_97, kl_98, kl_99, kl_100, kl_101, kl_102, kl_103, kl_104, kl_105, kl_106, kl_107, kl_108, kl_109, kl_110, kl_111, kl_112, kl_113, kl_114, kl_115, kl_120, kl_124, kl_126, kl_130, kl_255, kl_720, kl_2048, kl_10000, kl_12345, kl_252645135, kl_858993459, kl_1103515245, kl_1431655765, kl_1640531535, kl_2000000000])
          rfl
        · first | exact True.intro | omega | assumption
      | with_reducible apply wp_is
        · (try simp (disch := omega) only [bi, Int.add_zero, Int.zero_add, true_or, or_true, true_and, and_true, not_false_eq_true, not_true_eq_false, if_true, if_false, if_pos, if_neg, ki_add, ki_sub, ki_mul, ki_neg, ki_lt, ki_le, ki_eq, ki_cl, ki_div, ki_ite, ck5, kl_0, kl_1, kl_2, kl_3, kl_4, kl_5, kl_6, kl_7, kl_8, kl_9, kl_10, kl_11, kl_12, kl_13, kl_14, kl_16, kl_20, kl_21, kl_24, kl_29, kl_30, kl_31, kl_33, kl_35, kl_37, kl_38, kl_39, kl_40, kl_41, kl_42, kl_43, kl_44, kl_45, kl_46, kl_47, kl_48, kl_49, kl_50, kl_51, kl_52, kl_53, kl_54, kl_55, kl_56, kl_57, kl_58, kl_59, kl_60, kl_61, kl_62, kl_63, kl_64, kl_70, kl_80, kl_81, kl_97, kl_98, kl_99, kl_100, kl_101, kl_102, kl_103, kl_104, kl_105, kl_106, kl_107, kl_108, kl_109, kl_110, kl_111, kl_112, kl_113, kl_114, kl_115, kl_120, kl_124, kl_126, kl_130, kl_255, kl_720, kl_2048, kl_10000, kl_12345, kl_252645135, kl_858993459, kl_1103515245, kl_1431655765, kl_1640531535, kl_2000000000])
          rfl
        all_goals intro _
        all_goals try (exfalso; first | (rename_i q; exact q trivial) | (rename_i q; exact q) | omega)
      | with_reducible apply wp_mr
      | with_reducible apply wp_b
        · simp (disch := omega) only [Int.add_zero, Int.zero_add, true_or, or_true, true_and, and_true, not_false_eq_true, not_true_eq_false, if_true, if_false, if_pos, if_neg, ki_add, ki_sub, ki_mul, ki_neg, ki_lt, ki_le, ki_eq, ki_cl, ki_div, ki_ite, ck5, kl_0, kl_1, kl_2, kl_3, kl_4, kl_5, kl_6, kl_7, kl_8, kl_9, kl_10, kl_11, kl_12, kl_13, kl_14, kl_16, kl_20, kl_21, kl_24, kl_29, kl_30, kl_31, kl_33, kl_35, kl_37, kl_38, kl_39, kl_40, kl_41, kl_42, kl_43, kl_44, kl_45, kl_46, kl_47, kl_48, kl_49, kl_50, kl_51, kl_52, kl_53, kl_54, kl_55, kl_56, kl_57, kl_58, kl_59, kl_60, kl_61, kl_62, kl_63, kl_64, kl_70, kl_80, kl_81, kl_97, kl_98, kl_99, kl_100, kl_101, kl_102, kl_103, kl_104, kl_105, kl_106, kl_107, kl_108, kl_109, kl_110, kl_111, kl_112, kl_113, kl_114, kl_115, kl_120, kl_124, kl_126, kl_130, kl_255, kl_720, kl_2048, kl_10000, kl_12345, kl_252645135, kl_858993459, kl_1103515245, kl_1431655765, kl_1640531535, kl_2000000000]
          rfl
        all_goals intro _
        all_goals try (exfalso; first | (rename_i q; exact q trivial) | (rename_i q; exact q) | omega)
      | with_reducible apply wp_oe
        · simp (disch := omega) only [Int.add_zero, Int.zero_add, true_or, or_true, true_and, and_true, not_false_eq_true, not_true_eq_false, if_true, if_false, if_pos, if_neg, ki_add, ki_sub, ki_mul, ki_neg, ki_lt, ki_le, ki_eq, ki_cl, ki_div, ki_ite, ck5, kl_0, kl_1, kl_2, kl_3, kl_4, kl_5, kl_6, kl_7, kl_8, kl_9, kl_10, kl_11, kl_12, kl_13, kl_14, kl_16, kl_20, kl_21, kl_24, kl_29, kl_30, kl_31, kl_33, kl_35, kl_37, kl_38, kl_39, kl_40, kl_41, kl_42, kl_43, kl_44, kl_45, kl_46, kl_47, kl_48, kl_49, kl_50, kl_51, kl_52, kl_53, kl_54, kl_55, kl_56, kl_57, kl_58, kl_59, kl_60, kl_61, kl_62, kl_63, kl_64, kl_70, kl_80, kl_81, kl_97, kl_98, kl_99, kl_100, kl_101, kl_102, kl_103, kl_104, kl_105, kl_106, kl_107, kl_108, kl_109, kl_110, kl_111, kl_112, kl_113, kl_114, kl_115, kl_120, kl_124, kl_126, kl_130, kl_255, kl_720, kl_2048, kl_10000, kl_12345, kl_252645135, kl_858993459, kl_1103515245, kl_1431655765, kl_1640531535, kl_2000000000]
          try rfl
      | with_reducible apply wp_sv
        · (try simp (disch := omega) only [bi, Int.add_zero, Int.zero_add, true_or, or_true, true_and, and_true, not_false_eq_true, not_true_eq_false, if_true, if_false, if_pos, if_neg, ki_add, ki_sub, ki_mul, ki_neg, ki_lt, ki_le, ki_eq, ki_cl, ki_div, ki_ite, ck5, kl_0, kl_1, kl_2, kl_3, kl_4, kl_5, kl_6, kl_7, kl_8, kl_9, kl_10, kl_11, kl_12, kl_13, kl_14, kl_16, kl_20, kl_21, kl_24, kl_29, kl_30, kl_31, kl_33, kl_35, kl_37, kl_38, kl_39, kl_40, kl_41, kl_42, kl_43, kl_44, kl_45, kl_46, kl_47, kl_48, kl_49, kl_50, kl_51, kl_52, kl_53, kl_54, kl_55, kl_56, kl_57, kl_58, kl_59, kl_60, kl_61, kl_62, kl_63, kl_64, kl_70, kl_80, kl_81, kl_97, kl_98, kl_99, kl_100, kl_101, kl_102, kl_103, kl_104, kl_105, kl_106, kl_107, kl_108, kl_109, kl_110, kl_111, kl_112, kl_113, kl_114, kl_115, kl_120, kl_124, kl_126, kl_130, kl_255, kl_720, kl_2048, kl_10000, kl_12345, kl_252645135, kl_858993459, kl_1103515245, kl_1431655765, kl_1640531535, kl_2000000000])
          rfl
      | with_reducible apply wp_so
    refine wp_mo (m_imL (g := g) (fun z z0 z1 => by rw [hf 9 _ (by omega)]; exact h9 z z0 z1)) (fun r hr => ?_)
    obtain ⟨r1, r2, r3, r4⟩ := hr
    refine qr ⟨r1, r2, fun z w z0 z1 w0 w1 => ?_, eq_tr (fun k j hk => hf k j (by omega)) (fun k j hk => r3 k j (by omega)), r4.trans h2⟩
    rw [r3 33 _ (by omega)]; exact hv z w z0 z1 w0 w1
  | succ m =>
    repeat' first
      | with_reducible apply wp_bd
        · (try simp (disch := omega) only [bi, Int.add_zero, Int.zero_add, true_or, or_true, true_and, and_true, not_false_eq_true, not_true_eq_false, if_true, if_false, if_pos, if_neg, ki_add, ki_sub, ki_mul, ki_neg, ki_lt, ki_le, ki_eq, ki_cl, ki_div, ki_ite, ck5, kl_0, kl_1, kl_2, kl_3, kl_4, kl_5, kl_6, kl_7, kl_8, kl_9, kl_10, kl_11, kl_12, kl_13, kl_14, kl_16, kl_20, kl_21, kl_24, kl_29, kl_30, kl_31, kl_33, kl_35, kl_37, kl_38, kl_39, kl_40, kl_41, kl_42, kl_43, kl_44, kl_45, kl_46, kl_47, kl_48, kl_49, kl_50, kl_51, kl_52, kl_53, kl_54, kl_55, kl_56, kl_57, kl_58, kl_59, kl_60, kl_61, kl_62, kl_63, kl_64, kl_70, kl_80, kl_81, kl_97, kl_98, kl_99, kl_100, kl_101, kl_102, kl_103, kl_104, kl_105, kl_106, kl_107, kl_108, kl_109, kl_110, kl_111, kl_112, kl_113, kl_114, kl_115, kl_120, kl_124, kl_126, kl_130, kl_255, kl_720, kl_2048, kl_10000, kl_12345, kl_252645135, kl_858993459, kl_1103515245, kl_1431655765, kl_1640531535, kl_2000000000])
          rfl
      | with_reducible apply wp_in
        · (try simp (disch := omega) only [bi, Int.add_zero, Int.zero_add, true_or, or_true, true_and, and_true, not_false_eq_true, not_true_eq_false, if_true, if_false, if_pos, if_neg, ki_add, ki_sub, ki_mul, ki_neg, ki_lt, ki_le, ki_eq, ki_cl, ki_div, ki_ite, ck5, kl_0, kl_1, kl_2, kl_3, kl_4, kl_5, kl_6, kl_7, kl_8, kl_9, kl_10, kl_11, kl_12, kl_13, kl_14, kl_16, kl_20, kl_21, kl_24, kl_29, kl_30, kl_31, kl_33, kl_35, kl_37, kl_38, kl_39, kl_40, kl_41, kl_42, kl_43, kl_44, kl_45, kl_46, kl_47, kl_48, kl_49, kl_50, kl_51, kl_52, kl_53, kl_54, kl_55, kl_56, kl_57, kl_58, kl_59, kl_60, kl_61, kl_62, kl_63, kl_64, kl_70, kl_80, kl_81, kl_97, kl_98, kl_99, kl_100, kl_101, kl_102, kl_103, kl_104, kl_105, kl_106, kl_107, kl_108, kl_109, kl_110, kl_111, kl_112, kl_113, kl_114, kl_115, kl_120, kl_124, kl_126, kl_130, kl_255, kl_720, kl_2048, kl_10000, kl_12345, kl_252645135, kl_858993459, kl_1103515245, kl_1431655765, kl_1640531535, kl_2000000000])
          rfl
        · decide
        · omega
        · omega
      | with_reducible apply wp_gd
        · (try simp (disch := omega) only [bi, Int.add_zero, Int.zero_add, true_or, or_true, true_and, and_true, not_false_eq_true, not_true_eq_false, if_true, if_false, if_pos, if_neg, ki_add, ki_sub, ki_mul, ki_neg, ki_lt, ki_le, ki_eq, ki_cl, ki_div, ki_ite, ck5, kl_0, kl_1, kl_2, kl_3, kl_4, kl_5, kl_6, kl_7, kl_8, kl_9, kl_10, kl_11, kl_12, kl_13, kl_14, kl_16, kl_20, kl_21, kl_24, kl_29, kl_30, kl_31, kl_33, kl_35, kl_37, kl_38, kl_39, kl_40, kl_41, kl_42, kl_43, kl_44, kl_45, kl_46, kl_47, kl_48, kl_49, kl_50, kl_51, kl_52, kl_53, kl_54, kl_55, kl_56, kl_57, kl_58, kl_59, kl_60, kl_61, kl_62, kl_63, kl_64, kl_70, kl_80, kl_81, kl_97, kl_98, kl_99, kl_100, kl_101, kl_102, kl_103, kl_104, kl_105, kl_106, kl_107, kl_108, kl_109, kl_110, kl_111, kl_112, kl_113, kl_114, kl_115, kl_120, kl_124, kl_126, kl_130, kl_255, kl_720, kl_2048, kl_10000, kl_12345, kl_252645135, kl_858993459, kl_1103515245, kl_1431655765, kl_1640531535, kl_2000000000])
          rfl
        · first | exact True.intro | omega | assumption
      | with_reducible apply wp_is
        · (try simp (disch := omega) only [bi, Int.add_zero, Int.zero_add, true_or, or_true, true_and, and_true, not_false_eq_true, not_true_eq_false, if_true, if_false, if_pos, if_neg, ki_add, ki_sub, ki_mul, ki_neg, ki_lt, ki_le, ki_eq, ki_cl, ki_div, ki_ite, ck5, kl_0, kl_1, kl_2, kl_3, kl_4, kl_5, kl_6, kl_7, kl_8, kl_9, kl_10, kl_11, kl_12, kl_13, kl_14, kl_16, kl_20, kl_21, kl_24, kl_29, kl_30, kl_31, kl_33, kl_35, kl_37, kl_38, kl_39, kl_40, kl_41, kl_42, kl_43, kl_44, kl_45, kl_46, kl_47, kl_48, kl_49, kl_50, kl_51, kl_52, kl_53, kl_54, kl_55, kl_56, kl_57, kl_58, kl_59, kl_60, kl_61, kl_62, kl_63, kl_64, kl_70, kl_80, kl_81, kl_97, kl_98, kl_99, kl_100, kl_101, kl_102, kl_103, kl_104, kl_105, kl_106, kl_107, kl_108, kl_109, kl_110, kl_111, kl_112, kl_113, kl_114, kl_115, kl_120, kl_124, kl_126, kl_130, kl_255, kl_720, kl_2048, kl_10000, kl_12345, kl_252645135, kl_858993459, kl_1103515245, kl_1431655765, kl_1640531535, kl_2000000000])
          rfl
        all_goals intro _
        all_goals try (exfalso; first | (rename_i q; exact q trivial) | (rename_i q; exact q) | omega)
      | with_reducible apply wp_mr
      | with_reducible apply wp_b
        · simp (disch := omega) only [Int.add_zero, Int.zero_add, true_or, or_true, true_and, and_true, not_false_eq_true, not_true_eq_false, if_true, if_false, if_pos, if_neg, ki_add, ki_sub, ki_mul, ki_neg, ki_lt, ki_le, ki_eq, ki_cl, ki_div, ki_ite, ck5, kl_0, kl_1, kl_2, kl_3, kl_4, kl_5, kl_6, kl_7, kl_8, kl_9, kl_10, kl_11, kl_12, kl_13, kl_14, kl_16, kl_20, kl_21, kl_24, kl_29, kl_30, kl_31, kl_33, kl_35, kl_37, kl_38, kl_39, kl_40, kl_41, kl_42, kl_43, kl_44, kl_45, kl_46, kl_47, kl_48, kl_49, kl_50, kl_51, kl_52, kl_53, kl_54, kl_55, kl_56, kl_57, kl_58, kl_59, kl_60, kl_61, kl_62, kl_63, kl_64, kl_70, kl_80, kl_81, kl_97, kl_98, kl_99, kl_100, kl_101, kl_102, kl_103, kl_104, kl_105, kl_106, kl_107, kl_108, kl_109, kl_110, kl_111, kl_112, kl_113, kl_114, kl_115, kl_120, kl_124, kl_126, kl_130, kl_255, kl_720, kl_2048, kl_10000, kl_12345, kl_252645135, kl_858993459, kl_1103515245, kl_1431655765, kl_1640531535, kl_2000000000]
          rfl
        all_goals intro _
        all_goals try (exfalso; first | (rename_i q; exact q trivial) | (rename_i q; exact q) | omega)
      | with_reducible apply wp_oe
        · simp (disch := omega) only [Int.add_zero, Int.zero_add, true_or, or_true, true_and, and_true, not_false_eq_true, not_true_eq_false, if_true, if_false, if_pos, if_neg, ki_add, ki_sub, ki_mul, ki_neg, ki_lt, ki_le, ki_eq, ki_cl, ki_div, ki_ite, ck5, kl_0, kl_1, kl_2, kl_3, kl_4, kl_5, kl_6, kl_7, kl_8, kl_9, kl_10, kl_11, kl_12, kl_13, kl_14, kl_16, kl_20, kl_21, kl_24, kl_29, kl_30, kl_31, kl_33, kl_35, kl_37, kl_38, kl_39, kl_40, kl_41, kl_42, kl_43, kl_44, kl_45, kl_46, kl_47, kl_48, kl_49, kl_50, kl_51, kl_52, kl_53, kl_54, kl_55, kl_56, kl_57, kl_58, kl_59, kl_60, kl_61, kl_62, kl_63, kl_64, kl_70, kl_80, kl_81, kl_97, kl_98, kl_99, kl_100, kl_101, kl_102, kl_103, kl_104, kl_105, kl_106, kl_107, kl_108, kl_109, kl_110, kl_111, kl_112, kl_113, kl_114, kl_115, kl_120, kl_124, kl_126, kl_130, kl_255, kl_720, kl_2048, kl_10000, kl_12345, kl_252645135, kl_858993459, kl_1103515245, kl_1431655765, kl_1640531535, kl_2000000000]
          try rfl
      | with_reducible apply wp_sv
        · (try simp (disch := omega) only [bi, Int.add_zero, Int.zero_add, true_or, or_true, true_and, and_true, not_false_eq_true, not_true_eq_false, if_true, if_false, if_pos, if_neg, ki_add, ki_sub, ki_mul, ki_neg, ki_lt, ki_le, ki_eq, ki_cl, ki_div, ki_ite, ck5, kl_0, kl_1, kl_2, kl_3, kl_4, kl_5, kl_6, kl_7, kl_8, kl_9, kl_10, kl_11, kl_12, kl_13, kl_14, kl_16, kl_20, kl_21, kl_24, kl_29, kl_30, kl_31, kl_33, kl_35, kl_37, kl_38, kl_39, kl_40, kl_41, kl_42, kl_43, kl_44, kl_45, kl_46, kl_47, kl_48, kl_49, kl_50, kl_51, kl_52, kl_53, kl_54, kl_55, kl_56, kl_57, kl_58, kl_59, kl_60, kl_61, kl_62, kl_63, kl_64, kl_70, kl_80, kl_81, kl_97, kl_98, kl_99, kl_100, kl_101, kl_102, kl_103, kl_104, kl_105, kl_106, kl_107, kl_108, kl_109, kl_110, kl_111, kl_112, kl_113, kl_114, kl_115, kl_120, kl_124, kl_126, kl_130, kl_255, kl_720, kl_2048, kl_10000, kl_12345, kl_252645135, kl_858993459, kl_1103515245, kl_1431655765, kl_1640531535, kl_2000000000])
          rfl
      | with_reducible apply wp_so
    refine m_imR c0 (by omega) hf h2 hv (fun S' a1 a2 a3 => ?_)
    exact ql ⟨m, by omega, c + 1, rfl, by omega, by omega, a1, a2, a3⟩
theorem m_im {S : xSt} {g g1 : Int → Int} (h9 : vw S 9 5 g) (h1 : vw S 1 6 g1) : wp (f_X12_image S) (fun r => r.2 = ki (g 4) ∧ (vw r.1 32 6 g1 ∧ (∀ z w : Int, 0 ≤ z → z < 30 → 0 ≤ w → w < 5 → r.1.1 33 (5 * z + w).toNat = S.1 (2 + w.toNat) z.toNat) ∧ vw r.1 34 5 g ∧ r.1.1 0 49 = S.1 0 46 ∧ r.1.1 0 48 = S.1 8 (1 : Int).toNat ∧ r.1.1 0 47 = ki 1) ∧ eq_ (fun k j => (32 ≤ k ∧ k ≤ 34) ∨ (k = 0 ∧ 47 ≤ j ∧ j ≤ 49)) S r.1 ∧ r.1.2 = S.2) := by
  unfold f_X12_image f_X12_image_0
  repeat' first
    | with_reducible apply wp_bd
      · (try simp (disch := omega) only [bi, Int.add_zero, Int.zero_add, true_or, or_true, true_and, and_true, not_false_eq_true, not_true_eq_false, if_true, if_false, if_pos, if_neg, ki_add, ki_sub, ki_mul, ki_neg, ki_lt, ki_le, ki_eq, ki_cl, ki_div, ki_ite, ck5, kl_0, kl_1, kl_2, kl_3, kl_4, kl_5, kl_6, kl_7, kl_8, kl_9, kl_10, kl_11, kl_12, kl_13, kl_14, kl_16, kl_20, kl_21, kl_24, kl_29, kl_30, kl_31, kl_33, kl_35, kl_37, kl_38, kl_39, kl_40, kl_41, kl_42, kl_43, kl_44, kl_45, kl_46, kl_47, kl_48, kl_49, kl_50, kl_51, kl_52, kl_53, kl_54, kl_55, kl_56, kl_57, kl_58, kl_59, kl_60, kl_61, kl_62, kl_63, kl_64, kl_70, kl_80, kl_81, kl_97, kl_98, kl_99, kl_100, kl_101, kl_102, kl_103, kl_104, kl_105, kl_106, kl_107, kl_108, kl_109, kl_110, kl_111, kl_112, kl_113, kl_114, kl_115, kl_120, kl_124, kl_126, kl_130, kl_255, kl_720, kl_2048, kl_10000, kl_12345, kl_252645135, kl_858993459, kl_1103515245, kl_1431655765, kl_1640531535, kl_2000000000, xsi_r])
        rfl
    | with_reducible apply wp_in
      · (try simp (disch := omega) only [bi, Int.add_zero, Int.zero_add, true_or, or_true, true_and, and_true, not_false_eq_true, not_true_eq_false, if_true, if_false, if_pos, if_neg, ki_add, ki_sub, ki_mul, ki_neg, ki_lt, ki_le, ki_eq, ki_cl, ki_div, ki_ite, ck5, kl_0, kl_1, kl_2, kl_3, kl_4, kl_5, kl_6, kl_7, kl_8, kl_9, kl_10, kl_11, kl_12, kl_13, kl_14, kl_16, kl_20, kl_21, kl_24, kl_29, kl_30, kl_31, kl_33, kl_35, kl_37, kl_38, kl_39, kl_40, kl_41, kl_42, kl_43, kl_44, kl_45, kl_46, kl_47, kl_48, kl_49, kl_50, kl_51, kl_52, kl_53, kl_54, kl_55, kl_56, kl_57, kl_58, kl_59, kl_60, kl_61, kl_62, kl_63, kl_64, kl_70, kl_80, kl_81, kl_97, kl_98, kl_99, kl_100, kl_101, kl_102, kl_103, kl_104, kl_105, kl_106, kl_107, kl_108, kl_109, kl_110, kl_111, kl_112, kl_113, kl_114, kl_115, kl_120, kl_124, kl_126, kl_130, kl_255, kl_720, kl_2048, kl_10000, kl_12345, kl_252645135, kl_858993459, kl_1103515245, kl_1431655765, kl_1640531535, kl_2000000000, xsi_r])
        rfl
      · decide
      · omega
      · omega
    | with_reducible apply wp_gd
      · (try simp (disch := omega) only [bi, Int.add_zero, Int.zero_add, true_or, or_true, true_and, and_true, not_false_eq_true, not_true_eq_false, if_true, if_false, if_pos, if_neg, ki_add, ki_sub, ki_mul, ki_neg, ki_lt, ki_le, ki_eq, ki_cl, ki_div, ki_ite, ck5, kl_0, kl_1, kl_2, kl_3, kl_4, kl_5, kl_6, kl_7, kl_8, kl_9, kl_10, kl_11, kl_12, kl_13, kl_14, kl_16, kl_20, kl_21, kl_24, kl_29, kl_30, kl_31, kl_33, kl_35, kl_37, kl_38, kl_39, kl_40, kl_41, kl_42, kl_43, kl_44, kl_45, kl_46, kl_47, kl_48, kl_49, kl_50, kl_51, kl_52, kl_53, kl_54, kl_55, kl_56, kl_57, kl_58, kl_59, kl_60, kl_61, kl_62, kl_63, kl_64, kl_70, kl_80, kl_81, kl_97, kl_98, kl_99, kl_100, kl_101, kl_102, kl_103, kl_104, kl_105, kl_106, kl_107, kl_108, kl_109, kl_110, kl_111, kl_112, kl_113, kl_114, kl_115, kl_120, kl_124, kl_126, kl_130, kl_255, kl_720, kl_2048, kl_10000, kl_12345, kl_252645135, kl_858993459, kl_1103515245, kl_1431655765, kl_1640531535, kl_2000000000, xsi_r])
        rfl
      · first | exact True.intro | omega | assumption
    | with_reducible apply wp_is
      · (try simp (disch := omega) only [bi, Int.add_zero, Int.zero_add, true_or, or_true, true_and, and_true, not_false_eq_true, not_true_eq_false, if_true, if_false, if_pos, if_neg, ki_add, ki_sub, ki_mul, ki_neg, ki_lt, ki_le, ki_eq, ki_cl, ki_div, ki_ite, ck5, kl_0, kl_1, kl_2, kl_3, kl_4, kl_5, kl_6, kl_7, kl_8, kl_9, kl_10, kl_11, kl_12, kl_13, kl_14, kl_16, kl_20, kl_21, kl_24, kl_29, kl_30, kl_31, kl_33, kl_35, kl_37, kl_38, kl_39, kl_40, kl_41, kl_42, kl_43, kl_44, kl_45, kl_46, kl_47, kl_48, kl_49, kl_50, kl_51, kl_52, kl_53, kl_54, kl_55, kl_56, kl_57, kl_58, kl_59, kl_60, kl_61, kl_62, kl_63, kl_64, kl_70, kl_80, kl_81, kl_97, kl_98, kl_99, kl_100, kl_101, kl_102, kl_103, kl_104, kl_105, kl_106, kl_107, kl_108, kl_109, kl_110, kl_111, kl_112, kl_113, kl_114, kl_115, kl_120, kl_124, kl_126, kl_130, kl_255, kl_720, kl_2048, kl_10000, kl_12345, kl_252645135, kl_858993459, kl_1103515245, kl_1431655765, kl_1640531535, kl_2000000000, xsi_r])
        rfl
      all_goals intro _
      all_goals try (exfalso; first | (rename_i q; exact q trivial) | (rename_i q; exact q) | omega)
    | with_reducible apply wp_mr
    | with_reducible apply wp_b
      · simp (disch := omega) only [Int.add_zero, Int.zero_add, true_or, or_true, true_and, and_true, not_false_eq_true, not_true_eq_false, if_true, if_false, if_pos, if_neg, ki_add, ki_sub, ki_mul, ki_neg, ki_lt, ki_le, ki_eq, ki_cl, ki_div, ki_ite, ck5, kl_0, kl_1, kl_2, kl_3, kl_4, kl_5, kl_6, kl_7, kl_8, kl_9, kl_10, kl_11, kl_12, kl_13, kl_14, kl_16, kl_20, kl_21, kl_24, kl_29, kl_30, kl_31, kl_33, kl_35, kl_37, kl_38, kl_39, kl_40, kl_41, kl_42, kl_43, kl_44, kl_45, kl_46, kl_47, kl_48, kl_49, kl_50, kl_51, kl_52, kl_53, kl_54, kl_55, kl_56, kl_57, kl_58, kl_59, kl_60, kl_61, kl_62, kl_63, kl_64, kl_70, kl_80, kl_81, kl_97, kl_98, kl_99, kl_100, kl_101, kl_102, kl_103, kl_104, kl_105, kl_106, kl_107, kl_108, kl_109, kl_110, kl_111, kl_112, kl_113, kl_114, kl_115, kl_120, kl_124, kl_126, kl_130, kl_255, kl_720, kl_2048, kl_10000, kl_12345, kl_252645135, kl_858993459, kl_1103515245, kl_1431655765, kl_1640531535, kl_2000000000, xsi_r]
        rfl
      all_goals intro _
      all_goals try (exfalso; first | (rename_i q; exact q trivial) | (rename_i q; exact q) | omega)
    | with_reducible apply wp_oe
      · simp (disch := omega) only [Int.add_zero, Int.zero_add, true_or, or_true, true_and, and_true, not_false_eq_true, not_true_eq_false, if_true, if_false, if_pos, if_neg, ki_add, ki_sub, ki_mul, ki_neg, ki_lt, ki_le, ki_eq, ki_cl, ki_div, ki_ite, ck5, kl_0, kl_1, kl_2, kl_3, kl_4, kl_5, kl_6, kl_7, kl_8, kl_9, kl_10, kl_11, kl_12, kl_13, kl_14, kl_16, kl_20, kl_21, kl_24, kl_29, kl_30, kl_31, kl_33, kl_35, kl_37, kl_38, kl_39, kl_40, kl_41, kl_42, kl_43, kl_44, kl_45, kl_46, kl_47, kl_48, kl_49, kl_50, kl_51, kl_52, kl_53, kl_54, kl_55, kl_56, kl_57, kl_58, kl_59, kl_60, kl_61, kl_62, kl_63, kl_64, kl_70, kl_80, kl_81, kl_97, kl_98, kl_99, kl_100, kl_101, kl_102, kl_103, kl_104, kl_105, kl_106, kl_107, kl_108, kl_109, kl_110, kl_111, kl_112, kl_113, kl_114, kl_115, kl_120, kl_124, kl_126, kl_130, kl_255, kl_720, kl_2048, kl_10000, kl_12345, kl_252645135, kl_858993459, kl_1103515245, kl_1431655765, kl_1640531535, kl_2000000000, xsi_r]
        try rfl
    | with_reducible apply wp_sv
      · (try simp (disch := omega) only [bi, Int.add_zero, Int.zero_add, true_or, or_true, true_and, and_true, not_false_eq_true, not_true_eq_false, if_true, if_false, if_pos, if_neg, ki_add, ki_sub, ki_mul, ki_neg, ki_lt, ki_le, ki_eq, ki_cl, ki_div, ki_ite, ck5, kl_0, kl_1, kl_2, kl_3, kl_4, kl_5, kl_6, kl_7, kl_8, kl_9, kl_10, kl_11, kl_12, kl_13, kl_14, kl_16, kl_20, kl_21, kl_24, kl_29, kl_30, kl_31, kl_33, kl_35, kl_37, kl_38, kl_39, kl_40, kl_41, kl_42, kl_43, kl_44, kl_45, kl_46, kl_47, kl_48, kl_49, kl_50, kl_51, kl_52, kl_53, kl_54, kl_55, kl_56, kl_57, kl_58, kl_59, kl_60, kl_61, kl_62, kl_63, kl_64, kl_70, kl_80, kl_81, kl_97, kl_98, kl_99, kl_100, kl_101, kl_102, kl_103, kl_104, kl_105, kl_106, kl_107, kl_108, kl_109, kl_110, kl_111, kl_112, kl_113, kl_114, kl_115, kl_120, kl_124, kl_126, kl_130, kl_255, kl_720, kl_2048, kl_10000, kl_12345, kl_252645135, kl_858993459, kl_1103515245, kl_1431655765, kl_1640531535, kl_2000000000, xsi_r])
        rfl
    | with_reducible apply wp_so
  obtain ⟨S0, e0⟩ : ∃ x, xsi (xsi (xsi S 0 47 (ki 1)) 0 48 (S.1 8 (1 : Int).toNat)) 0 49 (S.1 0 46) = x := ⟨_, rfl⟩
  rw [e0]
  have f0 : eq_ (fun k j => k = 0 ∧ 47 ≤ j ∧ j ≤ 49) S S0 := by rw [← e0]; exact eq_tr (eq_tr (eq_i (by omega)) (eq_i (by omega))) (eq_i (by omega))
  have r49 : S0.1 0 49 = S.1 0 46 := by rw [← e0, xsi_r, if_pos ⟨rfl, rfl⟩]
  have r48 : S0.1 0 48 = S.1 8 (1 : Int).toNat := by rw [← e0, xsi_r, if_neg (by omega), xsi_r, if_pos ⟨rfl, rfl⟩]
  have r47 : S0.1 0 47 = ki 1 := by rw [← e0, xsi_r, if_neg (by omega), xsi_r, if_neg (by omega), xsi_r, if_pos ⟨rfl, rfl⟩]
  have r2 : S0.2 = S.2 := by rw [← e0]; rfl
  clear e0
  refine wp_lp (fun m s => ∃ c : Int, s.2 = ki c ∧ 0 ≤ c ∧ c + m = 6 ∧ vw s.1 32 c g1 ∧ eq_ (fun k _ => k = 32) S0 s.1 ∧ s.1.2 = S.2) 6 ?_ ⟨0, kl_0, by omega, by omega, fun z z0 z1 => absurd z1 (by omega), eq_rf _ _, r2⟩ (by omega)
  intro m q hI
  obtain ⟨S1, x⟩ := q
  obtain ⟨c, hx1, c0, c1, hv, hf, h2⟩ := hI
  dsimp only at hx1 hv hf h2
  subst hx1
  show wp (f_X12_image_25 S1 (ki c)) _
  unfold f_X12_image_25
  cases m with
  | zero =>
    have ec : c = 6 := by omega
    subst ec
    repeat' first
      | with_reducible apply wp_bd
        · (try simp (disch := omega) only [bi, Int.add_zero, Int.zero_add, true_or, or_true, true_and, and_true, not_false_eq_true, not_true_eq_false, if_true, if_false, if_pos, if_neg, ki_add, ki_sub, ki_mul, ki_neg, ki_lt, ki_le, ki_eq, ki_cl, ki_div, ki_ite, ck5, kl_0, kl_1, kl_2, kl_3, kl_4, kl_5, kl_6, kl_7, kl_8, kl_9, kl_10, kl_11, kl_12, kl_13, kl_14, kl_16, kl_20, kl_21, kl_24, kl_29, kl_30, kl_31, kl_33, kl_35, kl_37, kl_38, kl_39, kl_40, kl_41, kl_42, kl_43, kl_44, kl_45, kl_46, kl_47, kl_48, kl_49, kl_50, kl_51, kl_52, kl_53, kl_54, kl_55, kl_56, kl_57, kl_58, kl_59, kl_60, kl_61, kl_62, kl_63, kl_64, kl_70, kl_80, kl_81, kl_97, kl_98, kl_99, kl_100, kl_101, kl_102, kl_103, kl_104, kl_105, kl_106, kl_107, kl_108, kl_109, kl_110, kl_111, kl_112, kl_113, kl_114, kl_115, kl_120, kl_124, kl_126, kl_130, kl_255, kl_720, kl_2048, kl_10000, kl_12345, kl_252645135, kl_858993459, kl_1103515245, kl_1431655765, kl_1640531535, kl_2000000000])
          rfl
      | with_reducible apply wp_in
        · (try simp (disch := omega) only [bi, Int.add_zero, Int.zero_add, true_or, or_true, true_and, and_true, not_false_eq_true, not_true_eq_false, if_true, if_false, if_pos, if_neg, ki_add, ki_sub, ki_mul, ki_neg, ki_lt, ki_le, ki_eq, ki_cl, ki_div, ki_ite, ck5, kl_0, kl_1, kl_2, kl_3, kl_4, kl_5, kl_6, kl_7, kl_8, kl_9, kl_10, kl_11, kl_12, kl_13, kl_14, kl_16, kl_20, kl_21, kl_24, kl_29, kl_30, kl_31, kl_33, kl_35, kl_37, kl_38, kl_39, kl_40, kl_41, kl_42, kl_43, kl_44, kl_45, kl_46, kl_47, kl_48, kl_49, kl_50, kl_51, kl_52, kl_53, kl_54, kl_55, kl_56, kl_57, kl_58, kl_59, kl_60, kl_61, kl_62, kl_63, kl_64, kl_70, kl_80, kl_81, kl_97, kl_98, kl_99, kl_100, kl_101, kl_102, kl_103, kl_104, kl_105, kl_106, kl_107, kl_108, kl_109, kl_110, kl_111, kl_112, kl_113, kl_114, kl_115, kl_120, kl_124, kl_126, kl_130, kl_255, kl_720, kl_2048, kl_10000, kl_12345, kl_252645135, kl_858993459, kl_1103515245, kl_1431655765, kl_1640531535, kl_2000000000])
          rfl
        · decide
        · omega
        · omega
      | with_reducible apply wp_gd
        · (try simp (disch := omega) only [bi, Int.add_zero, Int.zero_add, true_or, or_true, true_and, and_true, not_false_eq_true, not_true_eq_false, if_true, if_false, if_pos, if_neg, ki_add, ki_sub, ki_mul, ki_neg, ki_lt, ki_le, ki_eq, ki_cl, ki_div, ki_ite, ck5, kl_0, kl_1, kl_2, kl_3, kl_4, kl_5, kl_6, kl_7, kl_8, kl_9, kl_10, kl_11, kl_12, kl_13, kl_14, kl_16, kl_20, kl_21, kl_24, kl_29, kl_30, kl_31, kl_33, kl_35, kl_37, kl_38, kl_39, kl_40, kl_41, kl_42, kl_43, kl_44, kl_45, kl_46, kl_47, kl_48, kl_49, kl_50, kl_51, kl_52, kl_53, kl_54, kl_55, kl_56, kl_57, kl_58, kl_59, kl_60, kl_61, kl_62, kl_63, kl_64, kl_70, kl_80, kl_81, kl_97, kl_98, kl_99, kl_100, kl_101, kl_102, kl_103, kl_104, kl_105, kl_106, kl_107, kl_108, kl_109, kl_110, kl_111, kl_112, kl_113, kl_114, kl_115, kl_120, kl_124, kl_126, kl_130, kl_255, kl_720, kl_2048, kl_10000, kl_12345, kl_252645135, kl_858993459, kl_1103515245, kl_1431655765, kl_1640531535, kl_2000000000])
          rfl
        · first | exact True.intro | omega | assumption
      | with_reducible apply wp_is
        · (try simp (disch := omega) only [bi, Int.add_zero, Int.zero_add, true_or, or_true, true_and, and_true, not_false_eq_true, not_true_eq_false, if_true, if_false, if_pos, if_neg, ki_add, ki_sub, ki_mul, ki_neg, ki_lt, ki_le, ki_eq, ki_cl, ki_div, ki_ite, ck5, kl_0, kl_1, kl_2, kl_3, kl_4, kl_5, kl_6, kl_7, kl_8, kl_9, kl_10, kl_11, kl_12, kl_13, kl_14, kl_16, kl_20, kl_21, kl_24, kl_29, kl_30, kl_31, kl_33, kl_35, kl_37, kl_38, kl_39, kl_40, kl_41, kl_42, kl_43, kl_44, kl_45, kl_46, kl_47, kl_48, kl_49, kl_50, kl_51, kl_52, kl_53, kl_54, kl_55, kl_56, kl_57, kl_58, kl_59, kl_60, kl_61, kl_62, kl_63, kl_64, kl_70, kl_80, kl_81, kl_97, kl_98, kl_99, kl_100, kl_101, kl_102, kl_103, kl_104, kl_105, kl_106, kl_107, kl_108, kl_109, kl_110, kl_111, kl_112, kl_113, kl_114, kl_115, kl_120, kl_124, kl_126, kl_130, kl_255, kl_720, kl_2048, kl_10000, kl_12345, kl_252645135, kl_858993459, kl_1103515245, kl_1431655765, kl_1640531535, kl_2000000000])
          rfl
        all_goals intro _
        all_goals try (exfalso; first | (rename_i q; exact q trivial) | (rename_i q; exact q) | omega)
      | with_reducible apply wp_mr
      | with_reducible apply wp_b
        · simp (disch := omega) only [Int.add_zero, Int.zero_add, true_or, or_true, true_and, and_true, not_false_eq_true, not_true_eq_false, if_true, if_false, if_pos, if_neg, ki_add, ki_sub, ki_mul, ki_neg, ki_lt, ki_le, ki_eq, ki_cl, ki_div, ki_ite, ck5, kl_0, kl_1, kl_2, kl_3, kl_4, kl_5, kl_6, kl_7, kl_8, kl_9, kl_10, kl_11, kl_12, kl_13, kl_14, kl_16, kl_20, kl_21, kl_24, kl_29, kl_30, kl_31, kl_33, kl_35, kl_37, kl_38, kl_39, kl_40, kl_41, kl_42, kl_43, kl_44, kl_45, kl_46, kl_47, kl_48, kl_49, kl_50, kl_51, kl_52, kl_53, kl_54, kl_55, kl_56, kl_57, kl_58, kl_59, kl_60, kl_61, kl_62, kl_63, kl_64, kl_70, kl_80, kl_81, kl_97, kl_98, kl_99, kl_100, kl_101, kl_102, kl_103, kl_104, kl_105, kl_106, kl_107, kl_108, kl_109, kl_110, kl_111, kl_112, kl_113, kl_114, kl_115, kl_120, kl_124, kl_126, kl_130, kl_255, kl_720, kl_2048, kl_10000, kl_12345, kl_252645135, kl_858993459, kl_1103515245, kl_1431655765, kl_1640531535, kl_2000000000]
          rfl
        all_goals intro _
        all_goals try (exfalso; first | (rename_i q; exact q trivial) | (rename_i q; exact q) | omega)
      | with_reducible apply wp_oe
        · simp (disch := omega) only [Int.add_zero, Int.zero_add, true_or, or_true, true_and, and_true, not_false_eq_true, not_true_eq_false, if_true, if_false, if_pos, if_neg, ki_add, ki_sub, ki_mul, ki_neg, ki_lt, ki_le, ki_eq, ki_cl, ki_div, ki_ite, ck5, kl_0, kl_1, kl_2, kl_3, kl_4, kl_5, kl_6, kl_7, kl_8, kl_9, kl_10, kl_11, kl_12, kl_13, kl_14, kl_16, kl_20, kl_21, kl_24, kl_29, kl_30, kl_31, kl_33, kl_35, kl_37, kl_38, kl_39, kl_40, kl_41, kl_42, kl_43, kl_44, kl_45, kl_46, kl_47, kl_48, kl_49, kl_50, kl_51, kl_52, kl_53, kl_54, kl_55, kl_56, kl_57, kl_58, kl_59, kl_60, kl_61, kl_62, kl_63, kl_64, kl_70, kl_80, kl_81, kl_97, kl_98, kl_99, kl_100, kl_101, kl_102, kl_103, kl_104, kl_105, kl_106, kl_107, kl_108, kl_109, kl_110, kl_111, kl_112, kl_113, kl_114, kl_115, kl_120, kl_124, kl_126, kl_130, kl_255, kl_720, kl_2048, kl_10000, kl_12345, kl_252645135, kl_858993459, kl_1103515245, kl_1431655765, kl_1640531535, kl_2000000000]
          try rfl
      | with_reducible apply wp_sv
        · (try simp (disch := omega) only [bi, Int.add_zero, Int.zero_add, true_or, or_true, true_and, and_true, not_false_eq_true, not_true_eq_false, if_true, if_false, if_pos, if_neg, ki_add, ki_sub, ki_mul, ki_neg, ki_lt, ki_le, ki_eq, ki_cl, ki_div, ki_ite, ck5, kl_0, kl_1, kl_2, kl_3, kl_4, kl_5, kl_6, kl_7, kl_8, kl_9, kl_10, kl_11, kl_12, kl_13, kl_14, kl_16, kl_20, kl_21, kl_24, kl_29, kl_30, kl_31, kl_33, kl_35, kl_37, kl_38, kl_39, kl_40, kl_41, kl_42, kl_43, kl_44, kl_45, kl_46, kl_47, kl_48, kl_49, kl_50, kl_51, kl_52, kl_53, kl_54, kl_55, kl_56, kl_57, kl_58, kl_59, kl_60, kl_61, kl_62, kl_63, kl_64, kl_70, kl_80, kl_81, kl_97, kl_98, kl_99, kl_100, kl_101, kl_102, kl_103, kl_104, kl_105, kl_106, kl_107, kl_108, kl_109, kl_110, kl_111, kl_112, kl_113, kl_114, kl_115, kl_120, kl_124, kl_126, kl_130, kl_255, kl_720, kl_2048, kl_10000, kl_12345, kl_252645135, kl_858993459, kl_1103515245, kl_1431655765, kl_1640531535, kl_2000000000])
          rfl
      | with_reducible apply wp_so
    refine wp_mo (m_imM (g := g) (fun z z0 z1 => by rw [hf 9 _ (by omega), f0 9 _ (by omega)]; exact h9 z z0 z1)) (fun r hr => ?_)
    obtain ⟨a1, a2, a3, a4, a5⟩ := hr
    refine qr ⟨a1, ⟨vw_s hv (fun j => a4 32 j (by omega)), fun z w z0 z1 w0 w1 => ?_, a2, ?_, ?_, ?_⟩, fun k j hk => ?_, a5.trans h2⟩
    · rw [a3 z w z0 z1 w0 w1, hf _ _ (by omega), f0 _ _ (by omega)]
    · rw [a4 0 _ (by omega), hf 0 _ (by omega)]; exact r49
    · rw [a4 0 _ (by omega), hf 0 _ (by omega)]; exact r48
    · rw [a4 0 _ (by omega), hf 0 _ (by omega)]; exact r47
    · rw [a4 k j (by omega), hf k j (by omega), f0 k j (by omega)]
  | succ m =>
    have r : S1.1 1 c.toNat = ki (g1 c) := by rw [hf 1 _ (by omega), f0 1 _ (by omega)]; exact h1 c (by omega) (by omega)
    repeat' first
      | with_reducible apply wp_bd
        · (try simp (disch := omega) only [bi, Int.add_zero, Int.zero_add, true_or, or_true, true_and, and_true, not_false_eq_true, not_true_eq_false, if_true, if_false, if_pos, if_neg, ki_add, ki_sub, ki_mul, ki_neg, ki_lt, ki_le, ki_eq, ki_cl, ki_div, ki_ite, ck5, kl_0, kl_1, kl_2, kl_3, kl_4, kl_5, kl_6, kl_7, kl_8, kl_9, kl_10, kl_11, kl_12, kl_13, kl_14, kl_16, kl_20, kl_21, kl_24, kl_29, kl_30, kl_31, kl_33, kl_35, kl_37, kl_38, kl_39, kl_40, kl_41, kl_42, kl_43, kl_44, kl_45, kl_46, kl_47, kl_48, kl_49, kl_50, kl_51, kl_52, kl_53, kl_54, kl_55, kl_56, kl_57, kl_58, kl_59, kl_60, kl_61, kl_62, kl_63, kl_64, kl_70, kl_80, kl_81, kl_97, kl_98, kl_99, kl_100, kl_101, kl_102, kl_103, kl_104, kl_105, kl_106, kl_107, kl_108, kl_109, kl_110, kl_111, kl_112, kl_113, kl_114, kl_115, kl_120, kl_124, kl_126, kl_130, kl_255, kl_720, kl_2048, kl_10000, kl_12345, kl_252645135, kl_858993459, kl_1103515245, kl_1431655765, kl_1640531535, kl_2000000000, r])
          rfl
      | with_reducible apply wp_in
        · (try simp (disch := omega) only [bi, Int.add_zero, Int.zero_add, true_or, or_true, true_and, and_true, not_false_eq_true, not_true_eq_false, if_true, if_false, if_pos, if_neg, ki_add, ki_sub, ki_mul, ki_neg, ki_lt, ki_le, ki_eq, ki_cl, ki_div, ki_ite, ck5, kl_0, kl_1, kl_2, kl_3, kl_4, kl_5, kl_6, kl_7, kl_8, kl_9, kl_10, kl_11, kl_12, kl_13, kl_14, kl_16, kl_20, kl_21, kl_24, kl_29, kl_30, kl_31, kl_33, kl_35, kl_37, kl_38, kl_39, kl_40, kl_41, kl_42, kl_43, kl_44, kl_45, kl_46, kl_47, kl_48, kl_49, kl_50, kl_51, kl_52, kl_53, kl_54, kl_55, kl_56, kl_57, kl_58, kl_59, kl_60, kl_61, kl_62, kl_63, kl_64, kl_70, kl_80, kl_81, kl_97, kl_98, kl_99, kl_100, kl_101, kl_102, kl_103, kl_104, kl_105, kl_106, kl_107, kl_108, kl_109, kl_110, kl_111, kl_112, kl_113, kl_114, kl_115, kl_120, kl_124, kl_126, kl_130, kl_255, kl_720, kl_2048, kl_10000, kl_12345, kl_252645135, kl_858993459, kl_1103515245, kl_1431655765, kl_1640531535, kl_2000000000, r])
          rfl
        · decide
        · omega
        · omega
      | with_reducible apply wp_gd
        · (try simp (disch := omega) only [bi, Int.add_zero, Int.zero_add, true_or, or_true, true_and, and_true, not_false_eq_true, not_true_eq_false, if_true, if_false, if_pos, if_neg, ki_add, ki_sub, ki_mul, ki_neg, ki_lt, ki_le, ki_eq, ki_cl, ki_div, ki_ite, ck5, kl_0, kl_1, kl_2, kl_3, kl_4, kl_5, kl_6, kl_7, kl_8, kl_9, kl_10, kl_11, kl_12, kl_13, kl_14, kl_16, kl_20, kl_21, kl_24, kl_29, kl_30, kl_31, kl_33, kl_35, kl_37, kl_38, kl_39, kl_40, kl_41, kl_42, kl_43, kl_44, kl_45, kl_46, kl_47, kl_48, kl_49, kl_50, kl_51, kl_52, kl_53, kl_54, kl_55, kl_56, kl_57, kl_58, kl_59, kl_60, kl_61, kl_62, kl_63, kl_64, kl_70, kl_80, kl_81, kl_97, kl_98, kl_99, kl_100, kl_101, kl_102, kl_103, kl_104, kl_105, kl_106, kl_107, kl_108, kl_109, kl_110, kl_111, kl_112, kl_113, kl_114, kl_115, kl_120, kl_124, kl_126, kl_130, kl_255, kl_720, kl_2048, kl_10000, kl_12345, kl_252645135, kl_858993459, kl_1103515245, kl_1431655765, kl_1640531535, kl_2000000000, r])
          rfl
        · first | exact True.intro | omega | assumption
      | with_reducible apply wp_is
        · (try simp (disch := omega) only [bi, Int.add_zero, Int.zero_add, true_or, or_true, true_and, and_true, not_false_eq_true, not_true_eq_false, if_true, if_false, if_pos, if_neg, ki_add, ki_sub, ki_mul, ki_neg, ki_lt, ki_le, ki_eq, ki_cl, ki_div, ki_ite, ck5, kl_0, kl_1, kl_2, kl_3, kl_4, kl_5, kl_6, kl_7, kl_8, kl_9, kl_10, kl_11, kl_12, kl_13, kl_14, kl_16, kl_20, kl_21, kl_24, kl_29, kl_30, kl_31, kl_33, kl_35, kl_37, kl_38, kl_39, kl_40, kl_41, kl_42, kl_43, kl_44, kl_45, kl_46, kl_47, kl_48, kl_49, kl_50, kl_51, kl_52, kl_53, kl_54, kl_55, kl_56, kl_57, kl_58, kl_59, kl_60, kl_61, kl_62, kl_63, kl_64, kl_70, kl_80, kl_81, kl_97, kl_98, kl_99, kl_100, kl_101, kl_102, kl_103, kl_104, kl_105, kl_106, kl_107, kl_108, kl_109, kl_110, kl_111, kl_112, kl_113, kl_114, kl_115, kl_120, kl_124, kl_126, kl_130, kl_255, kl_720, kl_2048, kl_10000, kl_12345, kl_252645135, kl_858993459, kl_1103515245, kl_1431655765, kl_1640531535, kl_2000000000, r])
          rfl
        all_goals intro _
        all_goals try (exfalso; first | (rename_i q; exact q trivial) | (rename_i q; exact q) | omega)
      | with_reducible apply wp_mr
      | with_reducible apply wp_b
        · simp (disch := omega) only [Int.add_zero, Int.zero_add, true_or, or_true, true_and, and_true, not_false_eq_true, not_true_eq_false, if_true, if_false, if_pos, if_neg, ki_add, ki_sub, ki_mul, ki_neg, ki_lt, ki_le, ki_eq, ki_cl, ki_div, ki_ite, ck5, kl_0, kl_1, kl_2, kl_3, kl_4, kl_5, kl_6, kl_7, kl_8, kl_9, kl_10, kl_11, kl_12, kl_13, kl_14, kl_16, kl_20, kl_21, kl_24, kl_29, kl_30, kl_31, kl_33, kl_35, kl_37, kl_38, kl_39, kl_40, kl_41, kl_42, kl_43, kl_44, kl_45, kl_46, kl_47, kl_48, kl_49, kl_50, kl_51, kl_52, kl_53, kl_54, kl_55, kl_56, kl_57, kl_58, kl_59, kl_60, kl_61, kl_62, kl_63, kl_64, kl_70, kl_80, kl_81, kl_97, kl_98, kl_99, kl_100, kl_101, kl_102, kl_103, kl_104, kl_105, kl_106, kl_107, kl_108, kl_109, kl_110, kl_111, kl_112, kl_113, kl_114, kl_115, kl_120, kl_124, kl_126, kl_130, kl_255, kl_720, kl_2048, kl_10000, kl_12345, kl_252645135, kl_858993459, kl_1103515245, kl_1431655765, kl_1640531535, kl_2000000000, r]
          rfl
        all_goals intro _
        all_goals try (exfalso; first | (rename_i q; exact q trivial) | (rename_i q; exact q) | omega)
      | with_reducible apply wp_oe
        · simp (disch := omega) only [Int.add_zero, Int.zero_add, true_or, or_true, true_and, and_true, not_false_eq_true, not_true_eq_false, if_true, if_false, if_pos, if_neg, ki_add, ki_sub, ki_mul, ki_neg, ki_lt, ki_le, ki_eq, ki_cl, ki_div, ki_ite, ck5, kl_0, kl_1, kl_2, kl_3, kl_4, kl_5, kl_6, kl_7, kl_8, kl_9, kl_10, kl_11, kl_12, kl_13, kl_14, kl_16, kl_20, kl_21, kl_24, kl_29, kl_30, kl_31, kl_33, kl_35, kl_37, kl_38, kl_39, kl_40, kl_41, kl_42, kl_43, kl_44, kl_45, kl_46, kl_47, kl_48, kl_49, kl_50, kl_51, kl_52, kl_53, kl_54, kl_55, kl_56, kl_57, kl_58, kl_59, kl_60, kl_61, kl_62, kl_63, kl_64, kl_70, kl_80, kl_81, kl_97, kl_98, kl_99, kl_100, kl_101, kl_102, kl_103, kl_104, kl_105, kl_106, kl_107, kl_108, kl_109, kl_110, kl_111, kl_112, kl_113, kl_114, kl_115, kl_120, kl_124, kl_126, kl_130, kl_255, kl_720, kl_2048, kl_10000, kl_12345, kl_252645135, kl_858993459, kl_1103515245, kl_1431655765, kl_1640531535, kl_2000000000, r]
          try rfl
      | with_reducible apply wp_sv
        · (try simp (disch := omega) only [bi, Int.add_zero, Int.zero_add, true_or, or_true, true_and, and_true, not_false_eq_true, not_true_eq_false, if_true, if_false, if_pos, if_neg, ki_add, ki_sub, ki_mul, ki_neg, ki_lt, ki_le, ki_eq, ki_cl, ki_div, ki_ite, ck5, kl_0, kl_1, kl_2, kl_3, kl_4, kl_5, kl_6, kl_7, kl_8, kl_9, kl_10, kl_11, kl_12, kl_13, kl_14, kl_16, kl_20, kl_21, kl_24, kl_29, kl_30, kl_31, kl_33, kl_35, kl_37, kl_38, kl_39, kl_40, kl_41, kl_42, kl_43, kl_44, kl_45, kl_46, kl_47, kl_48, kl_49, kl_50, kl_51, kl_52, kl_53, kl_54, kl_55, kl_56, kl_57, kl_58, kl_59, kl_60, kl_61, kl_62, kl_63, kl_64, kl_70, kl_80, kl_81, kl_97, kl_98, kl_99, kl_100, kl_101, kl_102, kl_103, kl_104, kl_105, kl_106, kl_107, kl_108, kl_109, kl_110, kl_111, kl_112, kl_113, kl_114, kl_115, kl_120, kl_124, kl_126, kl_130, kl_255, kl_720, kl_2048, kl_10000, kl_12345, kl_252645135, kl_858993459, kl_1103515245, kl_1431655765, kl_1640531535, kl_2000000000, r])
          rfl
      | with_reducible apply wp_so
    exact ql ⟨m, by omega, c + 1, rfl, by omega, by omega, vw_sn hv c0 rfl, eq_tr hf (eq_i rfl), h2⟩
theorem q_image {η : Hy} {gn : (Int → Int) → Int} {SX SM : xSt} (h : R1 η gn SX SM) : cs (f_X11_image SX) (f_X12_image SM) := by
  obtain ⟨hw, hX, hM, lX, lM, hI, hT, hC, hA, bm, hB, hS⟩ := id h
  obtain ⟨⟨S1, u1⟩, e1, ⟨b1, b3, b4, b5, b6, b7, b8, b11⟩, c2, c10, f1⟩ := x_ts (o := 26) (o1 := 16) hX (by omega)
  dsimp only at b1 b3 b4 b5 b6 b7 b8 b11 c2 c10 f1
  obtain ⟨q1, q2, q3, q4, q5, q6, q7, q8, q9, q10, q11⟩ := id hM
  obtain ⟨⟨S2, v2⟩, e2, d1, ⟨d2, d3, d4, d5, d6, d7⟩, f2, g2⟩ := m_im q8 q1
  dsimp only at d1 d2 d3 d4 d5 d6 d7 f2 g2
  subst d1
  have r8 : S1.1 24 (4 : Int).toNat = ki (η 8 4) := by rw [f1.2 24 (by unfold pH; omega)]; exact hX.2.2.2.2.2.2.2.1 4 (by omega) (by omega)
  have ex : f_X11_image SX = some (xsi S1 0 4 (ki 1), ki (η 8 4)) := by
    apply wp_eq
    unfold f_X11_image f_X11_image_0
    repeat' first
      | with_reducible apply wp_bd
        · (try simp (disch := omega) only [bi, Int.add_zero, Int.zero_add, true_or, or_true, true_and, and_true, not_false_eq_true, not_true_eq_false, if_true, if_false, if_pos, if_neg, ki_add, ki_sub, ki_mul, ki_neg, ki_lt, ki_le, ki_eq, ki_cl, ki_div, ki_ite, ck5, kl_0, kl_1, kl_2, kl_3, kl_4, kl_5, kl_6, kl_7, kl_8, kl_9, kl_10, kl_11, kl_12, kl_13, kl_14, kl_16, kl_20, kl_21, kl_24, kl_29, kl_30, kl_31, kl_33, kl_35, kl_37, kl_38, kl_39, kl_40, kl_41, kl_42, kl_43, kl_44, kl_45, kl_46, kl_47, kl_48, kl_49, kl_50, kl_51, kl_52, kl_53, kl_54, kl_55, kl_56, kl_57, kl_58, kl_59, kl_60, kl_61, kl_62, kl_63, kl_64, kl_70, kl_80, kl_81, kl_97, kl_98, kl_99, kl_100, kl_101, kl_102, kl_103, kl_104, kl_105, kl_106, kl_107, kl_108, kl_109, kl_110, kl_111, kl_112, kl_113, kl_114, kl_115, kl_120, kl_124, kl_126, kl_130, kl_255, kl_720, kl_2048, kl_10000, kl_12345, kl_252645135, kl_858993459, kl_1103515245, kl_1431655765, kl_1640531535, kl_2000000000, e1, r8, xsi_r])
          rfl
      | with_reducible apply wp_in
        · (try simp (disch := omega) only [bi, Int.add_zero, Int.zero_add, true_or, or_true, true_and, and_true, not_false_eq_true, not_true_eq_false, if_true, if_false, if_pos, if_neg, ki_add, ki_sub, ki_mul, ki_neg, ki_lt, ki_le, ki_eq, ki_cl, ki_div, ki_ite, ck5, kl_0, kl_1, kl_2, kl_3, kl_4, kl_5, kl_6, kl_7, kl_8, kl_9, kl_10, kl_11, kl_12, kl_13, kl_14, kl_16, kl_20, kl_21, kl_24, kl_29, kl_30, kl_31, kl_33, kl_35, kl_37, kl_38, kl_39, kl_40, kl_41, kl_42, kl_43, kl_44, kl_45, kl_46, kl_47, kl_48, kl_49, kl_50, kl_51, kl_52, kl_53, kl_54, kl_55, kl_56, kl_57, kl_58, kl_59, kl_60, kl_61, kl_62, kl_63, kl_64, kl_70, kl_80, kl_81, kl_97, kl_98, kl_99, kl_100, kl_101, kl_102, kl_103, kl_104, kl_105, kl_106, kl_107, kl_108, kl_109, kl_110, kl_111, kl_112, kl_113, kl_114, kl_115, kl_120, kl_124, kl_126, kl_130, kl_255, kl_720, kl_2048, kl_10000, kl_12345, kl_252645135, kl_858993459, kl_1103515245, kl_1431655765, kl_1640531535, kl_2000000000, e1, r8, xsi_r])
          rfl
        · decide
        · omega
        · omega
      | with_reducible apply wp_gd
        · (try simp (disch := omega) only [bi, Int.add_zero, Int.zero_add, true_or, or_true, true_and, and_true, not_false_eq_true, not_true_eq_false, if_true, if_false, if_pos, if_neg, ki_add, ki_sub, ki_mul, ki_neg, ki_lt, ki_le, ki_eq, ki_cl, ki_div, ki_ite, ck5, kl_0, kl_1, kl_2, kl_3, kl_4, kl_5, kl_6, kl_7, kl_8, kl_9, kl_10, kl_11, kl_12, kl_13, kl_14, kl_16, kl_20, kl_21, kl_24, kl_29, kl_30, kl_31, kl_33, kl_35, kl_37, kl_38, kl_39, kl_40, kl_41, kl_42, kl_43, kl_44, kl_45, kl_46, kl_47, kl_48, kl_49, kl_50, kl_51, kl_52, kl_53, kl_54, kl_55, kl_56, kl_57, kl_58, kl_59, kl_60, kl_61, kl_62, kl_63, kl_64, kl_70, kl_80, kl_81, kl_97, kl_98, kl_99, kl_100, kl_101, kl_102, kl_103, kl_104, kl_105, kl_106, kl_107, kl_108, kl_109, kl_110, kl_111, kl_112, kl_113, kl_114, kl_115, kl_120, kl_124, kl_126, kl_130, kl_255, kl_720, kl_2048, kl_10000, kl_12345, kl_252645135, kl_858993459, kl_1103515245, kl_1431655765, kl_1640531535, kl_2000000000, e1, r8, xsi_r])
          rfl
        · first | exact True.intro | omega | assumption
      | with_reducible apply wp_is
        · (try simp (disch := omega) only [bi, Int.add_zero, Int.zero_add, true_or, or_true, true_and, and_true, not_false_eq_true, not_true_eq_false, if_true, if_false, if_pos, if_neg, ki_add, ki_sub, ki_mul, ki_neg, ki_lt, ki_le, ki_eq, ki_cl, ki_div, ki_ite, ck5, kl_0, kl_1, kl_2, kl_3, kl_4, kl_5, kl_6, kl_7, kl_8, kl_9, kl_10, kl_11, kl_12, kl_13, kl_14, kl_16, kl_20, kl_21, kl_24, kl_29, kl_30, kl_31, kl_33, kl_35, kl_37, kl_38, kl_39, kl_40, kl_41, kl_42, kl_43, kl_44, kl_45, kl_46, kl_47, kl_48, kl_49, kl_50, kl_51, kl_52, kl_53, kl_54, kl_55, kl_56, kl_57, kl_58, kl_59, kl_60, kl_61, kl_62, kl_63, kl_64, kl_70, kl_80, kl_81, kl_97, kl_98, kl_99, kl_100, kl_101, kl_102, kl_103, kl_104, kl_105, kl_106, kl_107, kl_108, kl_109, kl_110, kl_111, kl_112, kl_113, kl_114, kl_115, kl_120, kl_124, kl_126, kl_130, kl_255, kl_720, kl_2048, kl_10000, kl_12345, kl_252645135, kl_858993459, kl_1103515245, kl_1431655765, kl_1640531535, kl_2000000000, e1, r8, xsi_r])
          rfl
        all_goals intro _
        all_goals try (exfalso; first | (rename_i q; exact q trivial) | (rename_i q; exact q) | omega)
      | with_reducible apply wp_mr
      | with_reducible apply wp_b
        · simp (disch := omega) only [Int.add_zero, Int.zero_add, true_or, or_true, true_and, and_true, not_false_eq_true, not_true_eq_false, if_true, if_false, if_pos, if_neg, ki_add, ki_sub, ki_mul, ki_neg, ki_lt, ki_le, ki_eq, ki_cl, ki_div, ki_ite, ck5, kl_0, kl_1, kl_2, kl_3, kl_4, kl_5, kl_6, kl_7, kl_8, kl_9, kl_10, kl_11, kl_12, kl_13, kl_14, kl_16, kl_20, kl_21, kl_24, kl_29, kl_30, kl_31, kl_33, kl_35, kl_37, kl_38, kl_39, kl_40, kl_41, kl_42, kl_43, kl_44, kl_45, kl_46, kl_47, kl_48, kl_49, kl_50, kl_51, kl_52, kl_53, kl_54, kl_55, kl_56, kl_57, kl_58, kl_59, kl_60, kl_61, kl_62, kl_63, kl_64, kl_70, kl_80, kl_81, kl_97, kl_98, kl_99, kl_100, kl_101, kl_102, kl_103, kl_104, kl_105, kl_106, kl_107, kl_108, kl_109, kl_110, kl_111, kl_112, kl_113, kl_114, kl_115, kl_120, kl_124, kl_126, kl_130, kl_255, kl_720, kl_2048, kl_10000, kl_12345, kl_252645135, kl_858993459, kl_1103515245, kl_1431655765, kl_1640531535, kl_2000000000, e1, r8, xsi_r]
          rfl
        all_goals intro _
        all_goals try (exfalso; first | (rename_i q; exact q trivial) | (rename_i q; exact q) | omega)
      | with_reducible apply wp_oe
        · simp (disch := omega) only [Int.add_zero, Int.zero_add, true_or, or_true, true_and, and_true, not_false_eq_true, not_true_eq_false, if_true, if_false, if_pos, if_neg, ki_add, ki_sub, ki_mul, ki_neg, ki_lt, ki_le, ki_eq, ki_cl, ki_div, ki_ite, ck5, kl_0, kl_1, kl_2, kl_3, kl_4, kl_5, kl_6, kl_7, kl_8, kl_9, kl_10, kl_11, kl_12, kl_13, kl_14, kl_16, kl_20, kl_21, kl_24, kl_29, kl_30, kl_31, kl_33, kl_35, kl_37, kl_38, kl_39, kl_40, kl_41, kl_42, kl_43, kl_44, kl_45, kl_46, kl_47, kl_48, kl_49, kl_50, kl_51, kl_52, kl_53, kl_54, kl_55, kl_56, kl_57, kl_58, kl_59, kl_60, kl_61, kl_62, kl_63, kl_64, kl_70, kl_80, kl_81, kl_97, kl_98, kl_99, kl_100, kl_101, kl_102, kl_103, kl_104, kl_105, kl_106, kl_107, kl_108, kl_109, kl_110, kl_111, kl_112, kl_113, kl_114, kl_115, kl_120, kl_124, kl_126, kl_130, kl_255, kl_720, kl_2048, kl_10000, kl_12345, kl_252645135, kl_858993459, kl_1103515245, kl_1431655765, kl_1640531535, kl_2000000000, e1, r8, xsi_r]
          try rfl
      | with_reducible apply wp_sv
        · (try simp (disch := omega) only [bi, Int.add_zero, Int.zero_add, true_or, or_true, true_and, and_true, not_false_eq_true, not_true_eq_false, if_true, if_false, if_pos, if_neg, ki_add, ki_sub, ki_mul, ki_neg, ki_lt, ki_le, ki_eq, ki_cl, ki_div, ki_ite, ck5, kl_0, kl_1, kl_2, kl_3, kl_4, kl_5, kl_6, kl_7, kl_8, kl_9, kl_10, kl_11, kl_12, kl_13, kl_14, kl_16, kl_20, kl_21, kl_24, kl_29, kl_30, kl_31, kl_33, kl_35, kl_37, kl_38, kl_39, kl_40, kl_41, kl_42, kl_43, kl_44, kl_45, kl_46, kl_47, kl_48, kl_49, kl_50, kl_51, kl_52, kl_53, kl_54, kl_55, kl_56, kl_57, kl_58, kl_59, kl_60, kl_61, kl_62, kl_63, kl_64, kl_70, kl_80, kl_81, kl_97, kl_98, kl_99, kl_100, kl_101, kl_102, kl_103, kl_104, kl_105, kl_106, kl_107, kl_108, kl_109, kl_110, kl_111, kl_112, kl_113, kl_114, kl_115, kl_120, kl_124, kl_126, kl_130, kl_255, kl_720, kl_2048, kl_10000, kl_12345, kl_252645135, kl_858993459, kl_1103515245, kl_1431655765, kl_1640531535, kl_2000000000, e1, r8, xsi_r])
          rfl
      | with_reducible apply wp_so
    all_goals rfl
  have fx : eq_ (fun k j => (26 ≤ k ∧ k ≤ 34) ∨ (k = 0 ∧ j = 4)) SX (xsi S1 0 4 (ki 1)) := eq_tr (eq_f f1 (fun k j hk => by unfold pH at hk; omega)) (eq_i (by omega))
  refine ⟨_, _, _, ex, e2, η, gn, hw, gHX hX fx (by omega), gHM hM f2 (by omega), gLX lX fx (by omega), gLM lM f2 (by omega), ?_, gT hT fx f2 (by omega) (by omega), gC hC fx f2 (by omega) (by omega), gA hA fx f2 (by omega) (by omega), bm, gB hB fx f2 (by omega) (by omega), gS hS fx f2 f1.1 (by rw [g2]) (by omega) (by omega)⟩
  refine ⟨1, η, ?_, d7, Or.inr ⟨rfl, hw, ⟨vw_ne b1 (by omega), vw_ne b3 (by omega), vw_ne b4 (by omega), vw_ne b5 (by omega), vw_ne b6 (by omega), vw_ne b7 (by omega), vw_ne b8 (by omega), ?_⟩, d2, fun z w z0 z1 w0 w1 => ?_, d4, ?_, ?_⟩⟩
  · rw [xsi_r, if_pos ⟨rfl, rfl⟩]
  · rw [xsi_r, if_neg (by omega)]; exact b11
  · rw [d3 z w z0 z1 w0 w1]
    have hq : w = 0 ∨ w = 1 ∨ w = 2 ∨ w = 3 ∨ w = 4 := by omega
    rcases hq with e | e | e | e | e
    all_goals subst e
    · exact q3 z z0 z1
    · exact q4 z z0 z1
    · exact q5 z z0 z1
    · exact q6 z z0 z1
    · exact q7 z z0 z1
  · rw [d5]; exact q9
  · rw [d6]; exact q11
