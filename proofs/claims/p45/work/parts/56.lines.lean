/-! part 56: the lines of a law, in the class and in the reference -/
def envXL (N : Nat) (cd ag gE lE fa : Int → Int) (S : xSt) : Prop := envX cd ag fa S ∧ vw S 11 120 gE ∧ vw S 12 120 lE ∧ S.1 8 0 = ki (N : Int)
theorem envXL_f {N : Nat} {cd ag gE lE fa : Int → Int} {S S' : xSt} (h : envXL N cd ag gE lE fa S) (hf : fr S S' (fun q => q = 14)) : envXL N cd ag gE lE fa S' :=
  ⟨envX_f h.1 hf, vw_f h.2.1 hf (by decide), vw_f h.2.2.1 hf (by decide), by rw [hf.2 8 (by decide)]; exact h.2.2.2⟩
theorem x_lines {N : Nat} {cd ag gE lE fa : Int → Int} (hN : N ≤ 61) : ∀ (k : Nat) (l i : Int) (S : xSt) (fuel : Nat), k < fuel → l + (k : Int) = (N : Int) → 0 ≤ l → 0 ≤ i → i ≤ 120 → envXL N cd ag gE lE fa S → lwn cd ag gE lE k l i →
    wp (xlp (fun q : (xSt × Int32 × Int32) => f_X5_worked_4 q.1 q.2.1 q.2.2) fuel (S, ki i, ki l)) (fun r => r.2 = lvn cd ag gE lE fa k l i ∧ fr S r.1 (fun q => q = 14)) := by
  intro k
  induction k with
  | zero =>
    intro l i S fuel hf hl l0 i0 i1 hE hw
    obtain ⟨f, rfl⟩ : ∃ f, fuel = f + 1 := ⟨fuel - 1, by omega⟩
    refine wp_l1 ?_
    show wp (f_X5_worked_4 S (ki i) (ki l)) _
    have r8 := hE.2.2.2
    unfold f_X5_worked_4
    repeat' first
      | with_reducible apply wp_bd
        · (try simp (disch := omega) only [bi, Int.add_zero, Int.zero_add, true_or, or_true, true_and, and_true, not_false_eq_true, not_true_eq_false, if_true, if_false, if_pos, if_neg, ki_add, ki_sub, ki_mul, ki_neg, ki_lt, ki_le, ki_eq, ki_cl, ki_div, ki_ite, ck5, kl_0, kl_1, kl_2, kl_3, kl_4, kl_5, kl_6, kl_7, kl_8, kl_9, kl_10, kl_11, kl_12, kl_13, kl_14, kl_16, kl_20, kl_21, kl_30, kl_31, kl_32, kl_33, kl_35, kl_37, kl_38, kl_39, kl_40, kl_41, kl_42, kl_43, kl_45, kl_47, kl_48, kl_50, kl_57, kl_59, kl_60, kl_61, kl_62, kl_63, kl_64, kl_97, kl_98, kl_99, kl_100, kl_101, kl_102, kl_103, kl_104, kl_105, kl_106, kl_107, kl_108, kl_109, kl_110, kl_111, kl_112, kl_113, kl_114, kl_115, kl_120, kl_124, kl_126, kl_127, kl_255, kl_720, kl_2048, kl_252645135, kl_858993459, kl_1431655765, kl_1640531535, kl_2000000000, r8])
          rfl
      | with_reducible apply wp_in
        · (try simp (disch := omega) only [bi, Int.add_zero, Int.zero_add, true_or, or_true, true_and, and_true, not_false_eq_true, not_true_eq_false, if_true, if_false, if_pos, if_neg, ki_add, ki_sub, ki_mul, ki_neg, ki_lt, ki_le, ki_eq, ki_cl, ki_div, ki_ite, ck5, kl_0, kl_1, kl_2, kl_3, kl_4, kl_5, kl_6, kl_7, kl_8, kl_9, kl_10, kl_11, kl_12, kl_13, kl_14, kl_16, kl_20, kl_21, kl_30, kl_31, kl_32, kl_33, kl_35, kl_37, kl_38, kl_39, kl_40, kl_41, kl_42, kl_43, kl_45, kl_47, kl_48, kl_50, kl_57, kl_59, kl_60, kl_61, kl_62, kl_63, kl_64, kl_97, kl_98, kl_99, kl_100, kl_101, kl_102, kl_103, kl_104, kl_105, kl_106, kl_107, kl_108, kl_109, kl_110, kl_111, kl_112, kl_113, kl_114, kl_115, kl_120, kl_124, kl_126, kl_127, kl_255, kl_720, kl_2048, kl_252645135, kl_858993459, kl_1431655765, kl_1640531535, kl_2000000000, r8])
          rfl
        · decide
        · omega
        · omega
      | with_reducible apply wp_gd
        · (try simp (disch := omega) only [bi, Int.add_zero, Int.zero_add, true_or, or_true, true_and, and_true, not_false_eq_true, not_true_eq_false, if_true, if_false, if_pos, if_neg, ki_add, ki_sub, ki_mul, ki_neg, ki_lt, ki_le, ki_eq, ki_cl, ki_div, ki_ite, ck5, kl_0, kl_1, kl_2, kl_3, kl_4, kl_5, kl_6, kl_7, kl_8, kl_9, kl_10, kl_11, kl_12, kl_13, kl_14, kl_16, kl_20, kl_21, kl_30, kl_31, kl_32, kl_33, kl_35, kl_37, kl_38, kl_39, kl_40, kl_41, kl_42, kl_43, kl_45, kl_47, kl_48, kl_50, kl_57, kl_59, kl_60, kl_61, kl_62, kl_63, kl_64, kl_97, kl_98, kl_99, kl_100, kl_101, kl_102, kl_103, kl_104, kl_105, kl_106, kl_107, kl_108, kl_109, kl_110, kl_111, kl_112, kl_113, kl_114, kl_115, kl_120, kl_124, kl_126, kl_127, kl_255, kl_720, kl_2048, kl_252645135, kl_858993459, kl_1431655765, kl_1640531535, kl_2000000000, r8])
          rfl
        · first | exact True.intro | omega | assumption
      | with_reducible apply wp_is
        · (try simp (disch := omega) only [bi, Int.add_zero, Int.zero_add, true_or, or_true, true_and, and_true, not_false_eq_true, not_true_eq_false, if_true, if_false, if_pos, if_neg, ki_add, ki_sub, ki_mul, ki_neg, ki_lt, ki_le, ki_eq, ki_cl, ki_div, ki_ite, ck5, kl_0, kl_1, kl_2, kl_3, kl_4, kl_5, kl_6, kl_7, kl_8, kl_9, kl_10, kl_11, kl_12, kl_13, kl_14, kl_16, kl_20, kl_21, kl_30, kl_31, kl_32, kl_33, kl_35, kl_37, kl_38, kl_39, kl_40, kl_41, kl_42, kl_43, kl_45, kl_47, kl_48, kl_50, kl_57, kl_59, kl_60, kl_61, kl_62, kl_63, kl_64, kl_97, kl_98, kl_99, kl_100, kl_101, kl_102, kl_103, kl_104, kl_105, kl_106, kl_107, kl_108, kl_109, kl_110, kl_111, kl_112, kl_113, kl_114, kl_115, kl_120, kl_124, kl_126, kl_127, kl_255, kl_720, kl_2048, kl_252645135, kl_858993459, kl_1431655765, kl_1640531535, kl_2000000000, r8])
          rfl
        all_goals intro _
        all_goals try (exfalso; first | (rename_i q; exact q trivial) | (rename_i q; exact q) | omega)
      | with_reducible apply wp_mr
      | with_reducible apply wp_b
        · simp (disch := omega) only [Int.add_zero, Int.zero_add, true_or, or_true, true_and, and_true, not_false_eq_true, not_true_eq_false, if_true, if_false, if_pos, if_neg, ki_add, ki_sub, ki_mul, ki_neg, ki_lt, ki_le, ki_eq, ki_cl, ki_div, ki_ite, ck5, kl_0, kl_1, kl_2, kl_3, kl_4, kl_5, kl_6, kl_7, kl_8, kl_9, kl_10, kl_11, kl_12, kl_13, kl_14, kl_16, kl_20, kl_21, kl_30, kl_31, kl_32, kl_33, kl_35, kl_37, kl_38, kl_39, kl_40, kl_41, kl_42, kl_43, kl_45, kl_47, kl_48, kl_50, kl_57, kl_59, kl_60, kl_61, kl_62, kl_63, kl_64, kl_97, kl_98, kl_99, kl_100, kl_101, kl_102, kl_103, kl_104, kl_105, kl_106, kl_107, kl_108, kl_109, kl_110, kl_111, kl_112, kl_113, kl_114, kl_115, kl_120, kl_124, kl_126, kl_127, kl_255, kl_720, kl_2048, kl_252645135, kl_858993459, kl_1431655765, kl_1640531535, kl_2000000000, r8]
          rfl
        all_goals intro _
        all_goals try (exfalso; first | (rename_i q; exact q trivial) | (rename_i q; exact q) | omega)
      | with_reducible apply wp_oe
        · simp (disch := omega) only [Int.add_zero, Int.zero_add, true_or, or_true, true_and, and_true, not_false_eq_true, not_true_eq_false, if_true, if_false, if_pos, if_neg, ki_add, ki_sub, ki_mul, ki_neg, ki_lt, ki_le, ki_eq, ki_cl, ki_div, ki_ite, ck5, kl_0, kl_1, kl_2, kl_3, kl_4, kl_5, kl_6, kl_7, kl_8, kl_9, kl_10, kl_11, kl_12, kl_13, kl_14, kl_16, kl_20, kl_21, kl_30, kl_31, kl_32, kl_33, kl_35, kl_37, kl_38, kl_39, kl_40, kl_41, kl_42, kl_43, kl_45, kl_47, kl_48, kl_50, kl_57, kl_59, kl_60, kl_61, kl_62, kl_63, kl_64, kl_97, kl_98, kl_99, kl_100, kl_101, kl_102, kl_103, kl_104, kl_105, kl_106, kl_107, kl_108, kl_109, kl_110, kl_111, kl_112, kl_113, kl_114, kl_115, kl_120, kl_124, kl_126, kl_127, kl_255, kl_720, kl_2048, kl_252645135, kl_858993459, kl_1431655765, kl_1640531535, kl_2000000000, r8]
          try rfl
      | with_reducible apply wp_sv
        · (try simp (disch := omega) only [bi, Int.add_zero, Int.zero_add, true_or, or_true, true_and, and_true, not_false_eq_true, not_true_eq_false, if_true, if_false, if_pos, if_neg, ki_add, ki_sub, ki_mul, ki_neg, ki_lt, ki_le, ki_eq, ki_cl, ki_div, ki_ite, ck5, kl_0, kl_1, kl_2, kl_3, kl_4, kl_5, kl_6, kl_7, kl_8, kl_9, kl_10, kl_11, kl_12, kl_13, kl_14, kl_16, kl_20, kl_21, kl_30, kl_31, kl_32, kl_33, kl_35, kl_37, kl_38, kl_39, kl_40, kl_41, kl_42, kl_43, kl_45, kl_47, kl_48, kl_50, kl_57, kl_59, kl_60, kl_61, kl_62, kl_63, kl_64, kl_97, kl_98, kl_99, kl_100, kl_101, kl_102, kl_103, kl_104, kl_105, kl_106, kl_107, kl_108, kl_109, kl_110, kl_111, kl_112, kl_113, kl_114, kl_115, kl_120, kl_124, kl_126, kl_127, kl_255, kl_720, kl_2048, kl_252645135, kl_858993459, kl_1431655765, kl_1640531535, kl_2000000000, r8])
          rfl
      | with_reducible apply wp_so
    exact qr ⟨kl_0, fr_rf S _⟩
  | succ k ih =>
    intro l i S fuel hf hl l0 i0 i1 hE hw
    obtain ⟨f, rfl⟩ : ∃ f, fuel = f + 1 := ⟨fuel - 1, by omega⟩
    obtain ⟨g1, g2, g3, g4, g5, g6⟩ := hw
    refine wp_l1 ?_
    generalize hB : xlp (fun q : (xSt × Int32 × Int32) => f_X5_worked_4 q.1 q.2.1 q.2.2) f = L
    show wp (f_X5_worked_4 S (ki i) (ki l)) _
    obtain ⟨hE0, r11, r12, r8⟩ := hE
    have r11' := r11
    have r12' := r12
    unfold vw at r11 r12
    unfold f_X5_worked_4 f_X5_worked_33
    by_cases e : gE l = i
    · repeat' first
        | with_reducible apply wp_bd
          · (try simp (disch := omega) only [bi, Int.add_zero, Int.zero_add, true_or, or_true, true_and, and_true, not_false_eq_true, not_true_eq_false, if_true, if_false, if_pos, if_neg, ki_add, ki_sub, ki_mul, ki_neg, ki_lt, ki_le, ki_eq, ki_cl, ki_div, ki_ite, ck5, kl_0, kl_1, kl_2, kl_3, kl_4, kl_5, kl_6, kl_7, kl_8, kl_9, kl_10, kl_11, kl_12, kl_13, kl_14, kl_16, kl_20, kl_21, kl_30, kl_31, kl_32, kl_33, kl_35, kl_37, kl_38, kl_39, kl_40, kl_41, kl_42, kl_43, kl_45, kl_47, kl_48, kl_50, kl_57, kl_59, kl_60, kl_61, kl_62, kl_63, kl_64, kl_97, kl_98, kl_99, kl_100, kl_101, kl_102, kl_103, kl_104, kl_105, kl_106, kl_107, kl_108, kl_109, kl_110, kl_111, kl_112, kl_113, kl_114, kl_115, kl_120, kl_124, kl_126, kl_127, kl_255, kl_720, kl_2048, kl_252645135, kl_858993459, kl_1431655765, kl_1640531535, kl_2000000000, r8, r11, r12])
            rfl
        | with_reducible apply wp_in
          · (try simp (disch := omega) only [bi, Int.add_zero, Int.zero_add, true_or, or_true, true_and, and_true, not_false_eq_true, not_true_eq_false, if_true, if_false, if_pos, if_neg, ki_add, ki_sub, ki_mul, ki_neg, ki_lt, ki_le, ki_eq, ki_cl, ki_div, ki_ite, ck5, kl_0, kl_1, kl_2, kl_3, kl_4, kl_5, kl_6, kl_7, kl_8, kl_9, kl_10, kl_11, kl_12, kl_13, kl_14, kl_16, kl_20, kl_21, kl_30, kl_31, kl_32, kl_33, kl_35, kl_37, kl_38, kl_39, kl_40, kl_41, kl_42, kl_43, kl_45, kl_47, kl_48, kl_50, kl_57, kl_59, kl_60, kl_61, kl_62, kl_63, kl_64, kl_97, kl_98, kl_99, kl_100, kl_101, kl_102, kl_103, kl_104, kl_105, kl_106, kl_107, kl_108, kl_109, kl_110, kl_111, kl_112, kl_113, kl_114, kl_115, kl_120, kl_124, kl_126, kl_127, kl_255, kl_720, kl_2048, kl_252645135, kl_858993459, kl_1431655765, kl_1640531535, kl_2000000000, r8, r11, r12])
            rfl
          · decide
          · omega
          · omega
        | with_reducible apply wp_gd
          · (try simp (disch := omega) only [bi, Int.add_zero, Int.zero_add, true_or, or_true, true_and, and_true, not_false_eq_true, not_true_eq_false, if_true, if_false, if_pos, if_neg, ki_add, ki_sub, ki_mul, ki_neg, ki_lt, ki_le, ki_eq, ki_cl, ki_div, ki_ite, ck5, kl_0, kl_1, kl_2, kl_3, kl_4, kl_5, kl_6, kl_7, kl_8, kl_9, kl_10, kl_11, kl_12, kl_13, kl_14, kl_16, kl_20, kl_21, kl_30, kl_31, kl_32, kl_33, kl_35, kl_37, kl_38, kl_39, kl_40, kl_41, kl_42, kl_43, kl_45, kl_47, kl_48, kl_50, kl_57, kl_59, kl_60, kl_61, kl_62, kl_63, kl_64, kl_97, kl_98, kl_99, kl_100, kl_101, kl_102, kl_103, kl_104, kl_105, kl_106, kl_107, kl_108, kl_109, kl_110, kl_111, kl_112, kl_113, kl_114, kl_115, kl_120, kl_124, kl_126, kl_127, kl_255, kl_720, kl_2048, kl_252645135, kl_858993459, kl_1431655765, kl_1640531535, kl_2000000000, r8, r11, r12])
            rfl
          · first | exact True.intro | omega | assumption
        | with_reducible apply wp_is
          · (try simp (disch := omega) only [bi, Int.add_zero, Int.zero_add, true_or, or_true, true_and, and_true, not_false_eq_true, not_true_eq_false, if_true, if_false, if_pos, if_neg, ki_add, ki_sub, ki_mul, ki_neg, ki_lt, ki_le, ki_eq, ki_cl, ki_div, ki_ite, ck5, kl_0, kl_1, kl_2, kl_3, kl_4, kl_5, kl_6, kl_7, kl_8, kl_9, kl_10, kl_11, kl_12, kl_13, kl_14, kl_16, kl_20, kl_21, kl_30, kl_31, kl_32, kl_33, kl_35, kl_37, kl_38, kl_39, kl_40, kl_41, kl_42, kl_43, kl_45, kl_47, kl_48, kl_50, kl_57, kl_59, kl_60, kl_61, kl_62, kl_63, kl_64, kl_97, kl_98, kl_99, kl_100, kl_101, kl_102, kl_103, kl_104, kl_105, kl_106, kl_107, kl_108, kl_109, kl_110, kl_111, kl_112, kl_113, kl_114, kl_115, kl_120, kl_124, kl_126, kl_127, kl_255, kl_720, kl_2048, kl_252645135, kl_858993459, kl_1431655765, kl_1640531535, kl_2000000000, r8, r11, r12])
            rfl
          all_goals intro _
          all_goals try (exfalso; first | (rename_i q; exact q trivial) | (rename_i q; exact q) | omega)
        | with_reducible apply wp_mr
        | with_reducible apply wp_b
          · simp (disch := omega) only [Int.add_zero, Int.zero_add, true_or, or_true, true_and, and_true, not_false_eq_true, not_true_eq_false, if_true, if_false, if_pos, if_neg, ki_add, ki_sub, ki_mul, ki_neg, ki_lt, ki_le, ki_eq, ki_cl, ki_div, ki_ite, ck5, kl_0, kl_1, kl_2, kl_3, kl_4, kl_5, kl_6, kl_7, kl_8, kl_9, kl_10, kl_11, kl_12, kl_13, kl_14, kl_16, kl_20, kl_21, kl_30, kl_31, kl_32, kl_33, kl_35, kl_37, kl_38, kl_39, kl_40, kl_41, kl_42, kl_43, kl_45, kl_47, kl_48, kl_50, kl_57, kl_59, kl_60, kl_61, kl_62, kl_63, kl_64, kl_97, kl_98, kl_99, kl_100, kl_101, kl_102, kl_103, kl_104, kl_105, kl_106, kl_107, kl_108, kl_109, kl_110, kl_111, kl_112, kl_113, kl_114, kl_115, kl_120, kl_124, kl_126, kl_127, kl_255, kl_720, kl_2048, kl_252645135, kl_858993459, kl_1431655765, kl_1640531535, kl_2000000000, r8, r11, r12]
            rfl
          all_goals intro _
          all_goals try (exfalso; first | (rename_i q; exact q trivial) | (rename_i q; exact q) | omega)
        | with_reducible apply wp_oe
          · simp (disch := omega) only [Int.add_zero, Int.zero_add, true_or, or_true, true_and, and_true, not_false_eq_true, not_true_eq_false, if_true, if_false, if_pos, if_neg, ki_add, ki_sub, ki_mul, ki_neg, ki_lt, ki_le, ki_eq, ki_cl, ki_div, ki_ite, ck5, kl_0, kl_1, kl_2, kl_3, kl_4, kl_5, kl_6, kl_7, kl_8, kl_9, kl_10, kl_11, kl_12, kl_13, kl_14, kl_16, kl_20, kl_21, kl_30, kl_31, kl_32, kl_33, kl_35, kl_37, kl_38, kl_39, kl_40, kl_41, kl_42, kl_43, kl_45, kl_47, kl_48, kl_50, kl_57, kl_59, kl_60, kl_61, kl_62, kl_63, kl_64, kl_97, kl_98, kl_99, kl_100, kl_101, kl_102, kl_103, kl_104, kl_105, kl_106, kl_107, kl_108, kl_109, kl_110, kl_111, kl_112, kl_113, kl_114, kl_115, kl_120, kl_124, kl_126, kl_127, kl_255, kl_720, kl_2048, kl_252645135, kl_858993459, kl_1431655765, kl_1640531535, kl_2000000000, r8, r11, r12]
            try rfl
        | with_reducible apply wp_sv
          · (try simp (disch := omega) only [bi, Int.add_zero, Int.zero_add, true_or, or_true, true_and, and_true, not_false_eq_true, not_true_eq_false, if_true, if_false, if_pos, if_neg, ki_add, ki_sub, ki_mul, ki_neg, ki_lt, ki_le, ki_eq, ki_cl, ki_div, ki_ite, ck5, kl_0, kl_1, kl_2, kl_3, kl_4, kl_5, kl_6, kl_7, kl_8, kl_9, kl_10, kl_11, kl_12, kl_13, kl_14, kl_16, kl_20, kl_21, kl_30, kl_31, kl_32, kl_33, kl_35, kl_37, kl_38, kl_39, kl_40, kl_41, kl_42, kl_43, kl_45, kl_47, kl_48, kl_50, kl_57, kl_59, kl_60, kl_61, kl_62, kl_63, kl_64, kl_97, kl_98, kl_99, kl_100, kl_101, kl_102, kl_103, kl_104, kl_105, kl_106, kl_107, kl_108, kl_109, kl_110, kl_111, kl_112, kl_113, kl_114, kl_115, kl_120, kl_124, kl_126, kl_127, kl_255, kl_720, kl_2048, kl_252645135, kl_858993459, kl_1431655765, kl_1640531535, kl_2000000000, r8, r11, r12])
            rfl
        | with_reducible apply wp_so
      refine wp_ob (x_run (i := gE l) hE0 (by omega) g2 g3 g5) (fun u a hp => ?_)
      repeat' first
        | with_reducible apply wp_bd
          · (try simp (disch := omega) only [bi, Int.add_zero, Int.zero_add, true_or, or_true, true_and, and_true, not_false_eq_true, not_true_eq_false, if_true, if_false, if_pos, if_neg, ki_add, ki_sub, ki_mul, ki_neg, ki_lt, ki_le, ki_eq, ki_cl, ki_div, ki_ite, ck5, kl_0, kl_1, kl_2, kl_3, kl_4, kl_5, kl_6, kl_7, kl_8, kl_9, kl_10, kl_11, kl_12, kl_13, kl_14, kl_16, kl_20, kl_21, kl_30, kl_31, kl_32, kl_33, kl_35, kl_37, kl_38, kl_39, kl_40, kl_41, kl_42, kl_43, kl_45, kl_47, kl_48, kl_50, kl_57, kl_59, kl_60, kl_61, kl_62, kl_63, kl_64, kl_97, kl_98, kl_99, kl_100, kl_101, kl_102, kl_103, kl_104, kl_105, kl_106, kl_107, kl_108, kl_109, kl_110, kl_111, kl_112, kl_113, kl_114, kl_115, kl_120, kl_124, kl_126, kl_127, kl_255, kl_720, kl_2048, kl_252645135, kl_858993459, kl_1431655765, kl_1640531535, kl_2000000000])
            rfl
        | with_reducible apply wp_in
          · (try simp (disch := omega) only [bi, Int.add_zero, Int.zero_add, true_or, or_true, true_and, and_true, not_false_eq_true, not_true_eq_false, if_true, if_false, if_pos, if_neg, ki_add, ki_sub, ki_mul, ki_neg, ki_lt, ki_le, ki_eq, ki_cl, ki_div, ki_ite, ck5, kl_0, kl_1, kl_2, kl_3, kl_4, kl_5, kl_6, kl_7, kl_8, kl_9, kl_10, kl_11, kl_12, kl_13, kl_14, kl_16, kl_20, kl_21, kl_30, kl_31, kl_32, kl_33, kl_35, kl_37, kl_38, kl_39, kl_40, kl_41, kl_42, kl_43, kl_45, kl_47, kl_48, kl_50, kl_57, kl_59, kl_60, kl_61, kl_62, kl_63, kl_64, kl_97, kl_98, kl_99, kl_100, kl_101, kl_102, kl_103, kl_104, kl_105, kl_106, kl_107, kl_108, kl_109, kl_110, kl_111, kl_112, kl_113, kl_114, kl_115, kl_120, kl_124, kl_126, kl_127, kl_255, kl_720, kl_2048, kl_252645135, kl_858993459, kl_1431655765, kl_1640531535, kl_2000000000])
            rfl
          · decide
          · omega
          · omega
        | with_reducible apply wp_gd
          · (try simp (disch := omega) only [bi, Int.add_zero, Int.zero_add, true_or, or_true, true_and, and_true, not_false_eq_true, not_true_eq_false, if_true, if_false, if_pos, if_neg, ki_add, ki_sub, ki_mul, ki_neg, ki_lt, ki_le, ki_eq, ki_cl, ki_div, ki_ite, ck5, kl_0, kl_1, kl_2, kl_3, kl_4, kl_5, kl_6, kl_7, kl_8, kl_9, kl_10, kl_11, kl_12, kl_13, kl_14, kl_16, kl_20, kl_21, kl_30, kl_31, kl_32, kl_33, kl_35, kl_37, kl_38, kl_39, kl_40, kl_41, kl_42, kl_43, kl_45, kl_47, kl_48, kl_50, kl_57, kl_59, kl_60, kl_61, kl_62, kl_63, kl_64, kl_97, kl_98, kl_99, kl_100, kl_101, kl_102, kl_103, kl_104, kl_105, kl_106, kl_107, kl_108, kl_109, kl_110, kl_111, kl_112, kl_113, kl_114, kl_115, kl_120, kl_124, kl_126, kl_127, kl_255, kl_720, kl_2048, kl_252645135, kl_858993459, kl_1431655765, kl_1640531535, kl_2000000000])
            rfl
          · first | exact True.intro | omega | assumption
        | with_reducible apply wp_is
          · (try simp (disch := omega) only [bi, Int.add_zero, Int.zero_add, true_or, or_true, true_and, and_true, not_false_eq_true, not_true_eq_false, if_true, if_false, if_pos, if_neg, ki_add, ki_sub, ki_mul, ki_neg, ki_lt, ki_le, ki_eq, ki_cl, ki_div, ki_ite, ck5, kl_0, kl_1, kl_2, kl_3, kl_4, kl_5, kl_6, kl_7, kl_8, kl_9, kl_10, kl_11, kl_12, kl_13, kl_14, kl_16, kl_20, kl_21, kl_30, kl_31, kl_32, kl_33, kl_35, kl_37, kl_38, kl_39, kl_40, kl_41, kl_42, kl_43, kl_45, kl_47, kl_48, kl_50, kl_57, kl_59, kl_60, kl_61, kl_62, kl_63, kl_64, kl_97, kl_98, kl_99, kl_100, kl_101, kl_102, kl_103, kl_104, kl_105, kl_106, kl_107, kl_108, kl_109, kl_110, kl_111, kl_112, kl_113, kl_114, kl_115, kl_120, kl_124, kl_126, kl_127, kl_255, kl_720, kl_2048, kl_252645135, kl_858993459, kl_1431655765, kl_1640531535, kl_2000000000])
            rfl
          all_goals intro _
          all_goals try (exfalso; first | (rename_i q; exact q trivial) | (rename_i q; exact q) | omega)
        | with_reducible apply wp_mr
        | with_reducible apply wp_b
          · simp (disch := omega) only [Int.add_zero, Int.zero_add, true_or, or_true, true_and, and_true, not_false_eq_true, not_true_eq_false, if_true, if_false, if_pos, if_neg, ki_add, ki_sub, ki_mul, ki_neg, ki_lt, ki_le, ki_eq, ki_cl, ki_div, ki_ite, ck5, kl_0, kl_1, kl_2, kl_3, kl_4, kl_5, kl_6, kl_7, kl_8, kl_9, kl_10, kl_11, kl_12, kl_13, kl_14, kl_16, kl_20, kl_21, kl_30, kl_31, kl_32, kl_33, kl_35, kl_37, kl_38, kl_39, kl_40, kl_41, kl_42, kl_43, kl_45, kl_47, kl_48, kl_50, kl_57, kl_59, kl_60, kl_61, kl_62, kl_63, kl_64, kl_97, kl_98, kl_99, kl_100, kl_101, kl_102, kl_103, kl_104, kl_105, kl_106, kl_107, kl_108, kl_109, kl_110, kl_111, kl_112, kl_113, kl_114, kl_115, kl_120, kl_124, kl_126, kl_127, kl_255, kl_720, kl_2048, kl_252645135, kl_858993459, kl_1431655765, kl_1640531535, kl_2000000000]
            rfl
          all_goals intro _
          all_goals try (exfalso; first | (rename_i q; exact q trivial) | (rename_i q; exact q) | omega)
        | with_reducible apply wp_oe
          · simp (disch := omega) only [Int.add_zero, Int.zero_add, true_or, or_true, true_and, and_true, not_false_eq_true, not_true_eq_false, if_true, if_false, if_pos, if_neg, ki_add, ki_sub, ki_mul, ki_neg, ki_lt, ki_le, ki_eq, ki_cl, ki_div, ki_ite, ck5, kl_0, kl_1, kl_2, kl_3, kl_4, kl_5, kl_6, kl_7, kl_8, kl_9, kl_10, kl_11, kl_12, kl_13, kl_14, kl_16, kl_20, kl_21, kl_30, kl_31, kl_32, kl_33, kl_35, kl_37, kl_38, kl_39, kl_40, kl_41, kl_42, kl_43, kl_45, kl_47, kl_48, kl_50, kl_57, kl_59, kl_60, kl_61, kl_62, kl_63, kl_64, kl_97, kl_98, kl_99, kl_100, kl_101, kl_102, kl_103, kl_104, kl_105, kl_106, kl_107, kl_108, kl_109, kl_110, kl_111, kl_112, kl_113, kl_114, kl_115, kl_120, kl_124, kl_126, kl_127, kl_255, kl_720, kl_2048, kl_252645135, kl_858993459, kl_1431655765, kl_1640531535, kl_2000000000]
            try rfl
        | with_reducible apply wp_sv
          · (try simp (disch := omega) only [bi, Int.add_zero, Int.zero_add, true_or, or_true, true_and, and_true, not_false_eq_true, not_true_eq_false, if_true, if_false, if_pos, if_neg, ki_add, ki_sub, ki_mul, ki_neg, ki_lt, ki_le, ki_eq, ki_cl, ki_div, ki_ite, ck5, kl_0, kl_1, kl_2, kl_3, kl_4, kl_5, kl_6, kl_7, kl_8, kl_9, kl_10, kl_11, kl_12, kl_13, kl_14, kl_16, kl_20, kl_21, kl_30, kl_31, kl_32, kl_33, kl_35, kl_37, kl_38, kl_39, kl_40, kl_41, kl_42, kl_43, kl_45, kl_47, kl_48, kl_50, kl_57, kl_59, kl_60, kl_61, kl_62, kl_63, kl_64, kl_97, kl_98, kl_99, kl_100, kl_101, kl_102, kl_103, kl_104, kl_105, kl_106, kl_107, kl_108, kl_109, kl_110, kl_111, kl_112, kl_113, kl_114, kl_115, kl_120, kl_124, kl_126, kl_127, kl_255, kl_720, kl_2048, kl_252645135, kl_858993459, kl_1431655765, kl_1640531535, kl_2000000000])
            rfl
        | with_reducible apply wp_so
      refine qr ⟨?_, hp.2⟩
      show a = if gE l = i then rv cd ag fa i (lE l) else _
      rw [if_pos e, ← e]; exact hp.1
    · repeat' first
        | with_reducible apply wp_bd
          · (try simp (disch := omega) only [bi, Int.add_zero, Int.zero_add, true_or, or_true, true_and, and_true, not_false_eq_true, not_true_eq_false, if_true, if_false, if_pos, if_neg, ki_add, ki_sub, ki_mul, ki_neg, ki_lt, ki_le, ki_eq, ki_cl, ki_div, ki_ite, ck5, kl_0, kl_1, kl_2, kl_3, kl_4, kl_5, kl_6, kl_7, kl_8, kl_9, kl_10, kl_11, kl_12, kl_13, kl_14, kl_16, kl_20, kl_21, kl_30, kl_31, kl_32, kl_33, kl_35, kl_37, kl_38, kl_39, kl_40, kl_41, kl_42, kl_43, kl_45, kl_47, kl_48, kl_50, kl_57, kl_59, kl_60, kl_61, kl_62, kl_63, kl_64, kl_97, kl_98, kl_99, kl_100, kl_101, kl_102, kl_103, kl_104, kl_105, kl_106, kl_107, kl_108, kl_109, kl_110, kl_111, kl_112, kl_113, kl_114, kl_115, kl_120, kl_124, kl_126, kl_127, kl_255, kl_720, kl_2048, kl_252645135, kl_858993459, kl_1431655765, kl_1640531535, kl_2000000000, r8, r11, r12])
            rfl
        | with_reducible apply wp_in
          · (try simp (disch := omega) only [bi, Int.add_zero, Int.zero_add, true_or, or_true, true_and, and_true, not_false_eq_true, not_true_eq_false, if_true, if_false, if_pos, if_neg, ki_add, ki_sub, ki_mul, ki_neg, ki_lt, ki_le, ki_eq, ki_cl, ki_div, ki_ite, ck5, kl_0, kl_1, kl_2, kl_3, kl_4, kl_5, kl_6, kl_7, kl_8, kl_9, kl_10, kl_11, kl_12, kl_13, kl_14, kl_16, kl_20, kl_21, kl_30, kl_31, kl_32, kl_33, kl_35, kl_37, kl_38, kl_39, kl_40, kl_41, kl_42, kl_43, kl_45, kl_47, kl_48, kl_50, kl_57, kl_59, kl_60, kl_61, kl_62, kl_63, kl_64, kl_97, kl_98, kl_99, kl_100, kl_101, kl_102, kl_103, kl_104, kl_105, kl_106, kl_107, kl_108, kl_109, kl_110, kl_111, kl_112, kl_113, kl_114, kl_115, kl_120, kl_124, kl_126, kl_127, kl_255, kl_720, kl_2048, kl_252645135, kl_858993459, kl_1431655765, kl_1640531535, kl_2000000000, r8, r11, r12])
            rfl
          · decide
          · omega
          · omega
        | with_reducible apply wp_gd
          · (try simp (disch := omega) only [bi, Int.add_zero, Int.zero_add, true_or, or_true, true_and, and_true, not_false_eq_true, not_true_eq_false, if_true, if_false, if_pos, if_neg, ki_add, ki_sub, ki_mul, ki_neg, ki_lt, ki_le, ki_eq, ki_cl, ki_div, ki_ite, ck5, kl_0, kl_1, kl_2, kl_3, kl_4, kl_5, kl_6, kl_7, kl_8, kl_9, kl_10, kl_11, kl_12, kl_13, kl_14, kl_16, kl_20, kl_21, kl_30, kl_31, kl_32, kl_33, kl_35, kl_37, kl_38, kl_39, kl_40, kl_41, kl_42, kl_43, kl_45, kl_47, kl_48, kl_50, kl_57, kl_59, kl_60, kl_61, kl_62, kl_63, kl_64, kl_97, kl_98, kl_99, kl_100, kl_101, kl_102, kl_103, kl_104, kl_105, kl_106, kl_107, kl_108, kl_109, kl_110, kl_111, kl_112, kl_113, kl_114, kl_115, kl_120, kl_124, kl_126, kl_127, kl_255, kl_720, kl_2048, kl_252645135, kl_858993459, kl_1431655765, kl_1640531535, kl_2000000000, r8, r11, r12])
            rfl
          · first | exact True.intro | omega | assumption
        | with_reducible apply wp_is
          · (try simp (disch := omega) only [bi, Int.add_zero, Int.zero_add, true_or, or_true, true_and, and_true, not_false_eq_true, not_true_eq_false, if_true, if_false, if_pos, if_neg, ki_add, ki_sub, ki_mul, ki_neg, ki_lt, ki_le, ki_eq, ki_cl, ki_div, ki_ite, ck5, kl_0, kl_1, kl_2, kl_3, kl_4, kl_5, kl_6, kl_7, kl_8, kl_9, kl_10, kl_11, kl_12, kl_13, kl_14, kl_16, kl_20, kl_21, kl_30, kl_31, kl_32, kl_33, kl_35, kl_37, kl_38, kl_39, kl_40, kl_41, kl_42, kl_43, kl_45, kl_47, kl_48, kl_50, kl_57, kl_59, kl_60, kl_61, kl_62, kl_63, kl_64, kl_97, kl_98, kl_99, kl_100, kl_101, kl_102, kl_103, kl_104, kl_105, kl_106, kl_107, kl_108, kl_109, kl_110, kl_111, kl_112, kl_113, kl_114, kl_115, kl_120, kl_124, kl_126, kl_127, kl_255, kl_720, kl_2048, kl_252645135, kl_858993459, kl_1431655765, kl_1640531535, kl_2000000000, r8, r11, r12])
            rfl
          all_goals intro _
          all_goals try (exfalso; first | (rename_i q; exact q trivial) | (rename_i q; exact q) | omega)
        | with_reducible apply wp_mr
        | with_reducible apply wp_b
          · simp (disch := omega) only [Int.add_zero, Int.zero_add, true_or, or_true, true_and, and_true, not_false_eq_true, not_true_eq_false, if_true, if_false, if_pos, if_neg, ki_add, ki_sub, ki_mul, ki_neg, ki_lt, ki_le, ki_eq, ki_cl, ki_div, ki_ite, ck5, kl_0, kl_1, kl_2, kl_3, kl_4, kl_5, kl_6, kl_7, kl_8, kl_9, kl_10, kl_11, kl_12, kl_13, kl_14, kl_16, kl_20, kl_21, kl_30, kl_31, kl_32, kl_33, kl_35, kl_37, kl_38, kl_39, kl_40, kl_41, kl_42, kl_43, kl_45, kl_47, kl_48, kl_50, kl_57, kl_59, kl_60, kl_61, kl_62, kl_63, kl_64, kl_97, kl_98, kl_99, kl_100, kl_101, kl_102, kl_103, kl_104, kl_105, kl_106, kl_107, kl_108, kl_109, kl_110, kl_111, kl_112, kl_113, kl_114, kl_115, kl_120, kl_124, kl_126, kl_127, kl_255, kl_720, kl_2048, kl_252645135, kl_858993459, kl_1431655765, kl_1640531535, kl_2000000000, r8, r11, r12]
            rfl
          all_goals intro _
          all_goals try (exfalso; first | (rename_i q; exact q trivial) | (rename_i q; exact q) | omega)
        | with_reducible apply wp_oe
          · simp (disch := omega) only [Int.add_zero, Int.zero_add, true_or, or_true, true_and, and_true, not_false_eq_true, not_true_eq_false, if_true, if_false, if_pos, if_neg, ki_add, ki_sub, ki_mul, ki_neg, ki_lt, ki_le, ki_eq, ki_cl, ki_div, ki_ite, ck5, kl_0, kl_1, kl_2, kl_3, kl_4, kl_5, kl_6, kl_7, kl_8, kl_9, kl_10, kl_11, kl_12, kl_13, kl_14, kl_16, kl_20, kl_21, kl_30, kl_31, kl_32, kl_33, kl_35, kl_37, kl_38, kl_39, kl_40, kl_41, kl_42, kl_43, kl_45, kl_47, kl_48, kl_50, kl_57, kl_59, kl_60, kl_61, kl_62, kl_63, kl_64, kl_97, kl_98, kl_99, kl_100, kl_101, kl_102, kl_103, kl_104, kl_105, kl_106, kl_107, kl_108, kl_109, kl_110, kl_111, kl_112, kl_113, kl_114, kl_115, kl_120, kl_124, kl_126, kl_127, kl_255, kl_720, kl_2048, kl_252645135, kl_858993459, kl_1431655765, kl_1640531535, kl_2000000000, r8, r11, r12]
            try rfl
        | with_reducible apply wp_sv
          · (try simp (disch := omega) only [bi, Int.add_zero, Int.zero_add, true_or, or_true, true_and, and_true, not_false_eq_true, not_true_eq_false, if_true, if_false, if_pos, if_neg, ki_add, ki_sub, ki_mul, ki_neg, ki_lt, ki_le, ki_eq, ki_cl, ki_div, ki_ite, ck5, kl_0, kl_1, kl_2, kl_3, kl_4, kl_5, kl_6, kl_7, kl_8, kl_9, kl_10, kl_11, kl_12, kl_13, kl_14, kl_16, kl_20, kl_21, kl_30, kl_31, kl_32, kl_33, kl_35, kl_37, kl_38, kl_39, kl_40, kl_41, kl_42, kl_43, kl_45, kl_47, kl_48, kl_50, kl_57, kl_59, kl_60, kl_61, kl_62, kl_63, kl_64, kl_97, kl_98, kl_99, kl_100, kl_101, kl_102, kl_103, kl_104, kl_105, kl_106, kl_107, kl_108, kl_109, kl_110, kl_111, kl_112, kl_113, kl_114, kl_115, kl_120, kl_124, kl_126, kl_127, kl_255, kl_720, kl_2048, kl_252645135, kl_858993459, kl_1431655765, kl_1640531535, kl_2000000000, r8, r11, r12])
            rfl
        | with_reducible apply wp_so
      refine wp_ob (x_run (j := gE l) hE0 i0 g1 (by omega) (g4.resolve_left e)) (fun u a hp => ?_)
      obtain ⟨ha, hf1⟩ := hp
      dsimp only at ha hf1
      subst ha
      have hE1 := envXL_f ⟨hE0, r11', r12', r8⟩ hf1
      have q12 := hE1.2.2.1
      unfold vw at q12
      repeat' first
        | with_reducible apply wp_bd
          · (try simp (disch := omega) only [bi, Int.add_zero, Int.zero_add, true_or, or_true, true_and, and_true, not_false_eq_true, not_true_eq_false, if_true, if_false, if_pos, if_neg, ki_add, ki_sub, ki_mul, ki_neg, ki_lt, ki_le, ki_eq, ki_cl, ki_div, ki_ite, ck5, kl_0, kl_1, kl_2, kl_3, kl_4, kl_5, kl_6, kl_7, kl_8, kl_9, kl_10, kl_11, kl_12, kl_13, kl_14, kl_16, kl_20, kl_21, kl_30, kl_31, kl_32, kl_33, kl_35, kl_37, kl_38, kl_39, kl_40, kl_41, kl_42, kl_43, kl_45, kl_47, kl_48, kl_50, kl_57, kl_59, kl_60, kl_61, kl_62, kl_63, kl_64, kl_97, kl_98, kl_99, kl_100, kl_101, kl_102, kl_103, kl_104, kl_105, kl_106, kl_107, kl_108, kl_109, kl_110, kl_111, kl_112, kl_113, kl_114, kl_115, kl_120, kl_124, kl_126, kl_127, kl_255, kl_720, kl_2048, kl_252645135, kl_858993459, kl_1431655765, kl_1640531535, kl_2000000000, q12])
            rfl
        | with_reducible apply wp_in
          · (try simp (disch := omega) only [bi, Int.add_zero, Int.zero_add, true_or, or_true, true_and, and_true, not_false_eq_true, not_true_eq_false, if_true, if_false, if_pos, if_neg, ki_add, ki_sub, ki_mul, ki_neg, ki_lt, ki_le, ki_eq, ki_cl, ki_div, ki_ite, ck5, kl_0, kl_1, kl_2, kl_3, kl_4, kl_5, kl_6, kl_7, kl_8, kl_9, kl_10, kl_11, kl_12, kl_13, kl_14, kl_16, kl_20, kl_21, kl_30, kl_31, kl_32, kl_33, kl_35, kl_37, kl_38, kl_39, kl_40, kl_41, kl_42, kl_43, kl_45, kl_47, kl_48, kl_50, kl_57, kl_59, kl_60, kl_61, kl_62, kl_63, kl_64, kl_97, kl_98, kl_99, kl_100, kl_101, kl_102, kl_103, kl_104, kl_105, kl_106, kl_107, kl_108, kl_109, kl_110, kl_111, kl_112, kl_113, kl_114, kl_115, kl_120, kl_124, kl_126, kl_127, kl_255, kl_720, kl_2048, kl_252645135, kl_858993459, kl_1431655765, kl_1640531535, kl_2000000000, q12])
            rfl
          · decide
          · omega
          · omega
        | with_reducible apply wp_gd
          · (try simp (disch := omega) only [bi, Int.add_zero, Int.zero_add, true_or, or_true, true_and, and_true, not_false_eq_true, not_true_eq_false, if_true, if_false, if_pos, if_neg, ki_add, ki_sub, ki_mul, ki_neg, ki_lt, ki_le, ki_eq, ki_cl, ki_div, ki_ite, ck5, kl_0, kl_1, kl_2, kl_3, kl_4, kl_5, kl_6, kl_7, kl_8, kl_9, kl_10, kl_11, kl_12, kl_13, kl_14, kl_16, kl_20, kl_21, kl_30, kl_31, kl_32, kl_33, kl_35, kl_37, kl_38, kl_39, kl_40, kl_41, kl_42, kl_43, kl_45, kl_47, kl_48, kl_50, kl_57, kl_59, kl_60, kl_61, kl_62, kl_63, kl_64, kl_97, kl_98, kl_99, kl_100, kl_101, kl_102, kl_103, kl_104, kl_105, kl_106, kl_107, kl_108, kl_109, kl_110, kl_111, kl_112, kl_113, kl_114, kl_115, kl_120, kl_124, kl_126, kl_127, kl_255, kl_720, kl_2048, kl_252645135, kl_858993459, kl_1431655765, kl_1640531535, kl_2000000000, q12])
            rfl
          · first | exact True.intro | omega | assumption
        | with_reducible apply wp_is
          · (try simp (disch := omega) only [bi, Int.add_zero, Int.zero_add, true_or, or_true, true_and, and_true, not_false_eq_true, not_true_eq_false, if_true, if_false, if_pos, if_neg, ki_add, ki_sub, ki_mul, ki_neg, ki_lt, ki_le, ki_eq, ki_cl, ki_div, ki_ite, ck5, kl_0, kl_1, kl_2, kl_3, kl_4, kl_5, kl_6, kl_7, kl_8, kl_9, kl_10, kl_11, kl_12, kl_13, kl_14, kl_16, kl_20, kl_21, kl_30, kl_31, kl_32, kl_33, kl_35, kl_37, kl_38, kl_39, kl_40, kl_41, kl_42, kl_43, kl_45, kl_47, kl_48, kl_50, kl_57, kl_59, kl_60, kl_61, kl_62, kl_63, kl_64, kl_97, kl_98, kl_99, kl_100, kl_101, kl_102, kl_103, kl_104, kl_105, kl_106, kl_107, kl_108, kl_109, kl_110, kl_111, kl_112, kl_113, kl_114, kl_115, kl_120, kl_124, kl_126, kl_127, kl_255, kl_720, kl_2048, kl_252645135, kl_858993459, kl_1431655765, kl_1640531535, kl_2000000000, q12])
            rfl
          all_goals intro _
          all_goals try (exfalso; first | (rename_i q; exact q trivial) | (rename_i q; exact q) | omega)
        | with_reducible apply wp_mr
        | with_reducible apply wp_b
          · simp (disch := omega) only [Int.add_zero, Int.zero_add, true_or, or_true, true_and, and_true, not_false_eq_true, not_true_eq_false, if_true, if_false, if_pos, if_neg, ki_add, ki_sub, ki_mul, ki_neg, ki_lt, ki_le, ki_eq, ki_cl, ki_div, ki_ite, ck5, kl_0, kl_1, kl_2, kl_3, kl_4, kl_5, kl_6, kl_7, kl_8, kl_9, kl_10, kl_11, kl_12, kl_13, kl_14, kl_16, kl_20, kl_21, kl_30, kl_31, kl_32, kl_33, kl_35, kl_37, kl_38, kl_39, kl_40, kl_41, kl_42, kl_43, kl_45, kl_47, kl_48, kl_50, kl_57, kl_59, kl_60, kl_61, kl_62, kl_63, kl_64, kl_97, kl_98, kl_99, kl_100, kl_101, kl_102, kl_103, kl_104, kl_105, kl_106, kl_107, kl_108, kl_109, kl_110, kl_111, kl_112, kl_113, kl_114, kl_115, kl_120, kl_124, kl_126, kl_127, kl_255, kl_720, kl_2048, kl_252645135, kl_858993459, kl_1431655765, kl_1640531535, kl_2000000000, q12]
            rfl
          all_goals intro _
          all_goals try (exfalso; first | (rename_i q; exact q trivial) | (rename_i q; exact q) | omega)
        | with_reducible apply wp_oe
          · simp (disch := omega) only [Int.add_zero, Int.zero_add, true_or, or_true, true_and, and_true, not_false_eq_true, not_true_eq_false, if_true, if_false, if_pos, if_neg, ki_add, ki_sub, ki_mul, ki_neg, ki_lt, ki_le, ki_eq, ki_cl, ki_div, ki_ite, ck5, kl_0, kl_1, kl_2, kl_3, kl_4, kl_5, kl_6, kl_7, kl_8, kl_9, kl_10, kl_11, kl_12, kl_13, kl_14, kl_16, kl_20, kl_21, kl_30, kl_31, kl_32, kl_33, kl_35, kl_37, kl_38, kl_39, kl_40, kl_41, kl_42, kl_43, kl_45, kl_47, kl_48, kl_50, kl_57, kl_59, kl_60, kl_61, kl_62, kl_63, kl_64, kl_97, kl_98, kl_99, kl_100, kl_101, kl_102, kl_103, kl_104, kl_105, kl_106, kl_107, kl_108, kl_109, kl_110, kl_111, kl_112, kl_113, kl_114, kl_115, kl_120, kl_124, kl_126, kl_127, kl_255, kl_720, kl_2048, kl_252645135, kl_858993459, kl_1431655765, kl_1640531535, kl_2000000000, q12]
            try rfl
        | with_reducible apply wp_sv
          · (try simp (disch := omega) only [bi, Int.add_zero, Int.zero_add, true_or, or_true, true_and, and_true, not_false_eq_true, not_true_eq_false, if_true, if_false, if_pos, if_neg, ki_add, ki_sub, ki_mul, ki_neg, ki_lt, ki_le, ki_eq, ki_cl, ki_div, ki_ite, ck5, kl_0, kl_1, kl_2, kl_3, kl_4, kl_5, kl_6, kl_7, kl_8, kl_9, kl_10, kl_11, kl_12, kl_13, kl_14, kl_16, kl_20, kl_21, kl_30, kl_31, kl_32, kl_33, kl_35, kl_37, kl_38, kl_39, kl_40, kl_41, kl_42, kl_43, kl_45, kl_47, kl_48, kl_50, kl_57, kl_59, kl_60, kl_61, kl_62, kl_63, kl_64, kl_97, kl_98, kl_99, kl_100, kl_101, kl_102, kl_103, kl_104, kl_105, kl_106, kl_107, kl_108, kl_109, kl_110, kl_111, kl_112, kl_113, kl_114, kl_115, kl_120, kl_124, kl_126, kl_127, kl_255, kl_720, kl_2048, kl_252645135, kl_858993459, kl_1431655765, kl_1640531535, kl_2000000000, q12])
            rfl
        | with_reducible apply wp_so
      · rename_i hz
        refine ql ?_
        obtain ⟨r, er, e2, hf2⟩ := ih (l + 1) (lE l) u f (by omega) (by omega) (by omega) (by omega) (by omega) hE1 g6
        rw [hB] at er
        refine ⟨r, er, ?_, fr_tr hf1 hf2⟩
        rw [e2]
        show _ = if gE l = i then _ else if rv cd ag fa i (gE l) = ki 0 then _ else _
        rw [if_neg e, if_pos hz]
      · rename_i hz
        refine wp_ob (x_run (i := gE l) hE1.1 (by omega) g2 g3 g5) (fun u2 a2 hp2 => ?_)
        repeat' first
          | with_reducible apply wp_bd
            · (try simp (disch := omega) only [bi, Int.add_zero, Int.zero_add, true_or, or_true, true_and, and_true, not_false_eq_true, not_true_eq_false, if_true, if_false, if_pos, if_neg, ki_add, ki_sub, ki_mul, ki_neg, ki_lt, ki_le, ki_eq, ki_cl, ki_div, ki_ite, ck5, kl_0, kl_1, kl_2, kl_3, kl_4, kl_5, kl_6, kl_7, kl_8, kl_9, kl_10, kl_11, kl_12, kl_13, kl_14, kl_16, kl_20, kl_21, kl_30, kl_31, kl_32, kl_33, kl_35, kl_37, kl_38, kl_39, kl_40, kl_41, kl_42, kl_43, kl_45, kl_47, kl_48, kl_50, kl_57, kl_59, kl_60, kl_61, kl_62, kl_63, kl_64, kl_97, kl_98, kl_99, kl_100, kl_101, kl_102, kl_103, kl_104, kl_105, kl_106, kl_107, kl_108, kl_109, kl_110, kl_111, kl_112, kl_113, kl_114, kl_115, kl_120, kl_124, kl_126, kl_127, kl_255, kl_720, kl_2048, kl_252645135, kl_858993459, kl_1431655765, kl_1640531535, kl_2000000000])
              rfl
          | with_reducible apply wp_in
            · (try simp (disch := omega) only [bi, Int.add_zero, Int.zero_add, true_or, or_true, true_and, and_true, not_false_eq_true, not_true_eq_false, if_true, if_false, if_pos, if_neg, ki_add, ki_sub, ki_mul, ki_neg, ki_lt, ki_le, ki_eq, ki_cl, ki_div, ki_ite, ck5, kl_0, kl_1, kl_2, kl_3, kl_4, kl_5, kl_6, kl_7, kl_8, kl_9, kl_10, kl_11, kl_12, kl_13, kl_14, kl_16, kl_20, kl_21, kl_30, kl_31, kl_32, kl_33, kl_35, kl_37, kl_38, kl_39, kl_40, kl_41, kl_42, kl_43, kl_45, kl_47, kl_48, kl_50, kl_57, kl_59, kl_60, kl_61, kl_62, kl_63, kl_64, kl_97, kl_98, kl_99, kl_100, kl_101, kl_102, kl_103, kl_104, kl_105, kl_106, kl_107, kl_108, kl_109, kl_110, kl_111, kl_112, kl_113, kl_114, kl_115, kl_120, kl_124, kl_126, kl_127, kl_255, kl_720, kl_2048, kl_252645135, kl_858993459, kl_1431655765, kl_1640531535, kl_2000000000])
              rfl
            · decide
            · omega
            · omega
          | with_reducible apply wp_gd
            · (try simp (disch := omega) only [bi, Int.add_zero, Int.zero_add, true_or, or_true, true_and, and_true, not_false_eq_true, not_true_eq_false, if_true, if_false, if_pos, if_neg, ki_add, ki_sub, ki_mul, ki_neg, ki_lt, ki_le, ki_eq, ki_cl, ki_div, ki_ite, ck5, kl_0, kl_1, kl_2, kl_3, kl_4, kl_5, kl_6, kl_7, kl_8, kl_9, kl_10, kl_11, kl_12, kl_13, kl_14, kl_16, kl_20, kl_21, kl_30, kl_31, kl_32, kl_33, kl_35, kl_37, kl_38, kl_39, kl_40, kl_41, kl_42, kl_43, kl_45, kl_47, kl_48, kl_50, kl_57, kl_59, kl_60, kl_61, kl_62, kl_63, kl_64, kl_97, kl_98, kl_99, kl_100, kl_101, kl_102, kl_103, kl_104, kl_105, kl_106, kl_107, kl_108, kl_109, kl_110, kl_111, kl_112, kl_113, kl_114, kl_115, kl_120, kl_124, kl_126, kl_127, kl_255, kl_720, kl_2048, kl_252645135, kl_858993459, kl_1431655765, kl_1640531535, kl_2000000000])
              rfl
            · first | exact True.intro | omega | assumption
          | with_reducible apply wp_is
            · (try simp (disch := omega) only [bi, Int.add_zero, Int.zero_add, true_or, or_true, true_and, and_true, not_false_eq_true, not_true_eq_false, if_true, if_false, if_pos, if_neg, ki_add, ki_sub, ki_mul, ki_neg, ki_lt, ki_le, ki_eq, ki_cl, ki_div, ki_ite, ck5, kl_0, kl_1, kl_2, kl_3, kl_4, kl_5, kl_6, kl_7, kl_8, kl_9, kl_10, kl_11, kl_12, kl_13, kl_14, kl_16, kl_20, kl_21, kl_30, kl_31, kl_32, kl_33, kl_35, kl_37, kl_38, kl_39, kl_40, kl_41, kl_42, kl_43, kl_45, kl_47, kl_48, kl_50, kl_57, kl_59, kl_60, kl_61, kl_62, kl_63, kl_64, kl_97, kl_98, kl_99, kl_100, kl_101, kl_102, kl_103, kl_104, kl_105, kl_106, kl_107, kl_108, kl_109, kl_110, kl_111, kl_112, kl_113, kl_114, kl_115, kl_120, kl_124, kl_126, kl_127, kl_255, kl_720, kl_2048, kl_252645135, kl_858993459, kl_1431655765, kl_1640531535, kl_2000000000])
              rfl
            all_goals intro _
            all_goals try (exfalso; first | (rename_i q; exact q trivial) | (rename_i q; exact q) | omega)
          | with_reducible apply wp_mr
          | with_reducible apply wp_b
            · simp (disch := omega) only [Int.add_zero, Int.zero_add, true_or, or_true, true_and, and_true, not_false_eq_true, not_true_eq_false, if_true, if_false, if_pos, if_neg, ki_add, ki_sub, ki_mul, ki_neg, ki_lt, ki_le, ki_eq, ki_cl, ki_div, ki_ite, ck5, kl_0, kl_1, kl_2, kl_3, kl_4, kl_5, kl_6, kl_7, kl_8, kl_9, kl_10, kl_11, kl_12, kl_13, kl_14, kl_16, kl_20, kl_21, kl_30, kl_31, kl_32, kl_33, kl_35, kl_37, kl_38, kl_39, kl_40, kl_41, kl_42, kl_43, kl_45, kl_47, kl_48, kl_50, kl_57, kl_59, kl_60, kl_61, kl_62, kl_63, kl_64, kl_97, kl_98, kl_99, kl_100, kl_101, kl_102, kl_103, kl_104, kl_105, kl_106, kl_107, kl_108, kl_109, kl_110, kl_111, kl_112, kl_113, kl_114, kl_115, kl_120, kl_124, kl_126, kl_127, kl_255, kl_720, kl_2048, kl_252645135, kl_858993459, kl_1431655765, kl_1640531535, kl_2000000000]
              rfl
            all_goals intro _
            all_goals try (exfalso; first | (rename_i q; exact q trivial) | (rename_i q; exact q) | omega)
          | with_reducible apply wp_oe
            · simp (disch := omega) only [Int.add_zero, Int.zero_add, true_or, or_true, true_and, and_true, not_false_eq_true, not_true_eq_false, if_true, if_false, if_pos, if_neg, ki_add, ki_sub, ki_mul, ki_neg, ki_lt, ki_le, ki_eq, ki_cl, ki_div, ki_ite, ck5, kl_0, kl_1, kl_2, kl_3, kl_4, kl_5, kl_6, kl_7, kl_8, kl_9, kl_10, kl_11, kl_12, kl_13, kl_14, kl_16, kl_20, kl_21, kl_30, kl_31, kl_32, kl_33, kl_35, kl_37, kl_38, kl_39, kl_40, kl_41, kl_42, kl_43, kl_45, kl_47, kl_48, kl_50, kl_57, kl_59, kl_60, kl_61, kl_62, kl_63, kl_64, kl_97, kl_98, kl_99, kl_100, kl_101, kl_102, kl_103, kl_104, kl_105, kl_106, kl_107, kl_108, kl_109, kl_110, kl_111, kl_112, kl_113, kl_114, kl_115, kl_120, kl_124, kl_126, kl_127, kl_255, kl_720, kl_2048, kl_252645135, kl_858993459, kl_1431655765, kl_1640531535, kl_2000000000]
              try rfl
          | with_reducible apply wp_sv
            · (try simp (disch := omega) only [bi, Int.add_zero, Int.zero_add, true_or, or_true, true_and, and_true, not_false_eq_true, not_true_eq_false, if_true, if_false, if_pos, if_neg, ki_add, ki_sub, ki_mul, ki_neg, ki_lt, ki_le, ki_eq, ki_cl, ki_div, ki_ite, ck5, kl_0, kl_1, kl_2, kl_3, kl_4, kl_5, kl_6, kl_7, kl_8, kl_9, kl_10, kl_11, kl_12, kl_13, kl_14, kl_16, kl_20, kl_21, kl_30, kl_31, kl_32, kl_33, kl_35, kl_37, kl_38, kl_39, kl_40, kl_41, kl_42, kl_43, kl_45, kl_47, kl_48, kl_50, kl_57, kl_59, kl_60, kl_61, kl_62, kl_63, kl_64, kl_97, kl_98, kl_99, kl_100, kl_101, kl_102, kl_103, kl_104, kl_105, kl_106, kl_107, kl_108, kl_109, kl_110, kl_111, kl_112, kl_113, kl_114, kl_115, kl_120, kl_124, kl_126, kl_127, kl_255, kl_720, kl_2048, kl_252645135, kl_858993459, kl_1431655765, kl_1640531535, kl_2000000000])
              rfl
          | with_reducible apply wp_so
        refine qr ⟨?_, fr_tr hf1 hp2.2⟩
        show a2 = if gE l = i then _ else if rv cd ag fa i (gE l) = ki 0 then _ else _
        rw [if_neg e, if_neg hz]; exact hp2.1
theorem x_worked {N : Nat} {cd ag gE lE fa : Int → Int} (hN : N ≤ 61) {S : xSt} (hE : envXL N cd ag gE lE fa S) (hw : lwn cd ag gE lE N 0 0) : wp (f_X5_worked S) (fun r => r.2 = lvn cd ag gE lE fa N 0 0 ∧ fr S r.1 (fun q => q = 14)) := by
  unfold f_X5_worked f_X5_worked_0
  rw [kl_0]
  exact x_lines hN N 0 0 S 5000 (by omega) (by omega) (by omega) (by omega) (by omega) hE hw
theorem tdiv4_b {a : Int} (h1 : -200 ≤ a) (h2 : a ≤ 200) : -50 ≤ a.tdiv 4 ∧ a.tdiv 4 ≤ 50 := by
  by_cases h : 0 ≤ a
  · rw [Int.tdiv_eq_ediv_of_nonneg h]; omega
  · have e : a = -(-a) := by omega
    rw [e, Int.neg_tdiv, Int.tdiv_eq_ediv_of_nonneg (by omega)]; omega
theorem x_held {S : xSt} {v : Int} (h1 : -2147483648 ≤ v) (h2 : v < 2147483648) : f_X5_held S (ki v) = some (S, ki (hl v)) := by
  unfold f_X5_held f_X5_held_0
  apply wp_eq
  repeat' first
    | with_reducible apply wp_bd
      · (try simp (disch := omega) only [bi, Int.add_zero, Int.zero_add, true_or, or_true, true_and, and_true, not_false_eq_true, not_true_eq_false, if_true, if_false, if_pos, if_neg, ki_add, ki_sub, ki_mul, ki_neg, ki_lt, ki_le, ki_eq, ki_cl, ki_div, ki_ite, ck5, kl_0, kl_1, kl_2, kl_3, kl_4, kl_5, kl_6, kl_7, kl_8, kl_9, kl_10, kl_11, kl_12, kl_13, kl_14, kl_16, kl_20, kl_21, kl_30, kl_31, kl_32, kl_33, kl_35, kl_37, kl_38, kl_39, kl_40, kl_41, kl_42, kl_43, kl_45, kl_47, kl_48, kl_50, kl_57, kl_59, kl_60, kl_61, kl_62, kl_63, kl_64, kl_97, kl_98, kl_99, kl_100, kl_101, kl_102, kl_103, kl_104, kl_105, kl_106, kl_107, kl_108, kl_109, kl_110, kl_111, kl_112, kl_113, kl_114, kl_115, kl_120, kl_124, kl_126, kl_127, kl_255, kl_720, kl_2048, kl_252645135, kl_858993459, kl_1431655765, kl_1640531535, kl_2000000000])
        rfl
    | with_reducible apply wp_in
      · (try simp (disch := omega) only [bi, Int.add_zero, Int.zero_add, true_or, or_true, true_and, and_true, not_false_eq_true, not_true_eq_false, if_true, if_false, if_pos, if_neg, ki_add, ki_sub, ki_mul, ki_neg, ki_lt, ki_le, ki_eq, ki_cl, ki_div, ki_ite, ck5, kl_0, kl_1, kl_2, kl_3, kl_4, kl_5, kl_6, kl_7, kl_8, kl_9, kl_10, kl_11, kl_12, kl_13, kl_14, kl_16, kl_20, kl_21, kl_30, kl_31, kl_32, kl_33, kl_35, kl_37, kl_38, kl_39, kl_40, kl_41, kl_42, kl_43, kl_45, kl_47, kl_48, kl_50, kl_57, kl_59, kl_60, kl_61, kl_62, kl_63, kl_64, kl_97, kl_98, kl_99, kl_100, kl_101, kl_102, kl_103, kl_104, kl_105, kl_106, kl_107, kl_108, kl_109, kl_110, kl_111, kl_112, kl_113, kl_114, kl_115, kl_120, kl_124, kl_126, kl_127, kl_255, kl_720, kl_2048, kl_252645135, kl_858993459, kl_1431655765, kl_1640531535, kl_2000000000])
        rfl
      · decide
      · omega
      · omega
    | with_reducible apply wp_gd
      · (try simp (disch := omega) only [bi, Int.add_zero, Int.zero_add, true_or, or_true, true_and, and_true, not_false_eq_true, not_true_eq_false, if_true, if_false, if_pos, if_neg, ki_add, ki_sub, ki_mul, ki_neg, ki_lt, ki_le, ki_eq, ki_cl, ki_div, ki_ite, ck5, kl_0, kl_1, kl_2, kl_3, kl_4, kl_5, kl_6, kl_7, kl_8, kl_9, kl_10, kl_11, kl_12, kl_13, kl_14, kl_16, kl_20, kl_21, kl_30, kl_31, kl_32, kl_33, kl_35, kl_37, kl_38, kl_39, kl_40, kl_41, kl_42, kl_43, kl_45, kl_47, kl_48, kl_50, kl_57, kl_59, kl_60, kl_61, kl_62, kl_63, kl_64, kl_97, kl_98, kl_99, kl_100, kl_101, kl_102, kl_103, kl_104, kl_105, kl_106, kl_107, kl_108, kl_109, kl_110, kl_111, kl_112, kl_113, kl_114, kl_115, kl_120, kl_124, kl_126, kl_127, kl_255, kl_720, kl_2048, kl_252645135, kl_858993459, kl_1431655765, kl_1640531535, kl_2000000000])
        rfl
      · first | exact True.intro | omega | assumption
    | with_reducible apply wp_is
      · (try simp (disch := omega) only [bi, Int.add_zero, Int.zero_add, true_or, or_true, true_and, and_true, not_false_eq_true, not_true_eq_false, if_true, if_false, if_pos, if_neg, ki_add, ki_sub, ki_mul, ki_neg, ki_lt, ki_le, ki_eq, ki_cl, ki_div, ki_ite, ck5, kl_0, kl_1, kl_2, kl_3, kl_4, kl_5, kl_6, kl_7, kl_8, kl_9, kl_10, kl_11, kl_12, kl_13, kl_14, kl_16, kl_20, kl_21, kl_30, kl_31, kl_32, kl_33, kl_35, kl_37, kl_38, kl_39, kl_40, kl_41, kl_42, kl_43, kl_45, kl_47, kl_48, kl_50, kl_57, kl_59, kl_60, kl_61, kl_62, kl_63, kl_64, kl_97, kl_98, kl_99, kl_100, kl_101, kl_102, kl_103, kl_104, kl_105, kl_106, kl_107, kl_108, kl_109, kl_110, kl_111, kl_112, kl_113, kl_114, kl_115, kl_120, kl_124, kl_126, kl_127, kl_255, kl_720, kl_2048, kl_252645135, kl_858993459, kl_1431655765, kl_1640531535, kl_2000000000])
        rfl
      all_goals intro _
      all_goals try (exfalso; first | (rename_i q; exact q trivial) | (rename_i q; exact q) | omega)
    | with_reducible apply wp_mr
    | with_reducible apply wp_b
      · simp (disch := omega) only [Int.add_zero, Int.zero_add, true_or, or_true, true_and, and_true, not_false_eq_true, not_true_eq_false, if_true, if_false, if_pos, if_neg, ki_add, ki_sub, ki_mul, ki_neg, ki_lt, ki_le, ki_eq, ki_cl, ki_div, ki_ite, ck5, kl_0, kl_1, kl_2, kl_3, kl_4, kl_5, kl_6, kl_7, kl_8, kl_9, kl_10, kl_11, kl_12, kl_13, kl_14, kl_16, kl_20, kl_21, kl_30, kl_31, kl_32, kl_33, kl_35, kl_37, kl_38, kl_39, kl_40, kl_41, kl_42, kl_43, kl_45, kl_47, kl_48, kl_50, kl_57, kl_59, kl_60, kl_61, kl_62, kl_63, kl_64, kl_97, kl_98, kl_99, kl_100, kl_101, kl_102, kl_103, kl_104, kl_105, kl_106, kl_107, kl_108, kl_109, kl_110, kl_111, kl_112, kl_113, kl_114, kl_115, kl_120, kl_124, kl_126, kl_127, kl_255, kl_720, kl_2048, kl_252645135, kl_858993459, kl_1431655765, kl_1640531535, kl_2000000000]
        rfl
      all_goals intro _
      all_goals try (exfalso; first | (rename_i q; exact q trivial) | (rename_i q; exact q) | omega)
    | with_reducible apply wp_oe
      · simp (disch := omega) only [Int.add_zero, Int.zero_add, true_or, or_true, true_and, and_true, not_false_eq_true, not_true_eq_false, if_true, if_false, if_pos, if_neg, ki_add, ki_sub, ki_mul, ki_neg, ki_lt, ki_le, ki_eq, ki_cl, ki_div, ki_ite, ck5, kl_0, kl_1, kl_2, kl_3, kl_4, kl_5, kl_6, kl_7, kl_8, kl_9, kl_10, kl_11, kl_12, kl_13, kl_14, kl_16, kl_20, kl_21, kl_30, kl_31, kl_32, kl_33, kl_35, kl_37, kl_38, kl_39, kl_40, kl_41, kl_42, kl_43, kl_45, kl_47, kl_48, kl_50, kl_57, kl_59, kl_60, kl_61, kl_62, kl_63, kl_64, kl_97, kl_98, kl_99, kl_100, kl_101, kl_102, kl_103, kl_104, kl_105, kl_106, kl_107, kl_108, kl_109, kl_110, kl_111, kl_112, kl_113, kl_114, kl_115, kl_120, kl_124, kl_126, kl_127, kl_255, kl_720, kl_2048, kl_252645135, kl_858993459, kl_1431655765, kl_1640531535, kl_2000000000]
        try rfl
    | with_reducible apply wp_sv
      · (try simp (disch := omega) only [bi, Int.add_zero, Int.zero_add, true_or, or_true, true_and, and_true, not_false_eq_true, not_true_eq_false, if_true, if_false, if_pos, if_neg, ki_add, ki_sub, ki_mul, ki_neg, ki_lt, ki_le, ki_eq, ki_cl, ki_div, ki_ite, ck5, kl_0, kl_1, kl_2, kl_3, kl_4, kl_5, kl_6, kl_7, kl_8, kl_9, kl_10, kl_11, kl_12, kl_13, kl_14, kl_16, kl_20, kl_21, kl_30, kl_31, kl_32, kl_33, kl_35, kl_37, kl_38, kl_39, kl_40, kl_41, kl_42, kl_43, kl_45, kl_47, kl_48, kl_50, kl_57, kl_59, kl_60, kl_61, kl_62, kl_63, kl_64, kl_97, kl_98, kl_99, kl_100, kl_101, kl_102, kl_103, kl_104, kl_105, kl_106, kl_107, kl_108, kl_109, kl_110, kl_111, kl_112, kl_113, kl_114, kl_115, kl_120, kl_124, kl_126, kl_127, kl_255, kl_720, kl_2048, kl_252645135, kl_858993459, kl_1431655765, kl_1640531535, kl_2000000000])
        rfl
    | with_reducible apply wp_so
  all_goals refine sk ?_
  all_goals unfold hl
  all_goals omega
