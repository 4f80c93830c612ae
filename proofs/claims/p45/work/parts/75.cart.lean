/-! part 75: cart, loads -/
def crS (col d l : Int) (η : Hy) : Hy := ledS 0 (η 8 0 + 1) (carS col d l η)
theorem wf_cr {η : Hy} (hw : wf η) {col d l : Int} (hh : η 1 col ≤ 4) (d0 : 0 ≤ d) (d1 : d ≤ 9) (l0 : 0 ≤ l) (l1 : l ≤ 9) : wf (crS col d l η) := wf_led (wf_car hw hh d0 d1 l0 l1) (by omega)
theorem x_cartOne {η : Hy} {gn : (Int → Int) → Int} {S : xSt} {col d l : Int} (h : hx 16 η S) (hl : lawX gn S) (hw : wf η) (c0 : 0 ≤ col) (c1 : col < 6) :
    wp (f_X11_cartOne S (ki col) (ki d) (ki l)) (fun r => (η 1 col = 5 ∧ r = (S, ki (-3))) ∨ (η 1 col ≤ 4 ∧ r.2 = ki (5 * col + η 1 col) ∧ hx 16 (crS col d l η) r.1 ∧ fr S r.1 qX2 ∧ lawX gn r.1)) := by
  have b1 := hw.1 col
  unfold f_X11_cartOne f_X11_cartOne_0
  refine wp_ob (x_pile h hw c0 c1) (fun u v hp => ?_)
  rcases hp with ⟨hf, e⟩ | ⟨hf, ev, hh, hfr⟩
  · cases e
    repeat' first
      | with_reducible apply wp_bd
        · (try simp (disch := omega) only [bi, Int.add_zero, Int.zero_add, true_or, or_true, true_and, and_true, not_false_eq_true, not_true_eq_false, if_true, if_false, if_pos, if_neg, ki_add, ki_sub, ki_mul, ki_neg, ki_lt, ki_le, ki_eq, ki_cl, ki_div, ki_ite, ck5, kl_0, kl_1, kl_2, kl_3, kl_4, kl_5, kl_6, kl_7, kl_8, kl_9, kl_10, kl_11, kl_12, kl_13, kl_14, kl_16, kl_20, kl_21, kl_30, kl_31, kl_32, kl_33, kl_35, kl_37, kl_38, kl_39, kl_40, kl_41, kl_42, kl_43, kl_45, kl_47, kl_48, kl_50, kl_57, kl_59, kl_60, kl_61, kl_62, kl_63, kl_64, kl_97, kl_98, kl_99, kl_100, kl_101, kl_102, kl_103, kl_104, kl_105, kl_106, kl_107, kl_108, kl_109, kl_110, kl_111, kl_112, kl_113, kl_114, kl_115, kl_120, kl_124, kl_126, kl_127, kl_255, kl_720, kl_2048, kl_252645135, kl_858993459, kl_1431655765, kl_1640531535, kl_2000000000])
          rfl
      | with_reducible apply wp_in
        · (try simp (disch := omega) only [bi, Int.add_zero, Int.zero_add, true_or, or_true, true_and, and_true, not_false_eq_true, not_true_eq_false, if_true, if_false, if_pos, if_neg, ki_add, ki_sub, ki_mul, ki_neg, ki_lt, ki_le, ki_eq, ki_cl, ki_div, ki_ite, ck5, kl_0, kl_1, kl_2, kl_3, kl_4, kl_5, kl_6, kl_7, kl_8, kl_9, kl_10, kl_11, kl_12, kl_13, kl_14, kl_16, kl_20, kl_21, kl_30, kl_31, kl_32, kl_33, kl_35, kl_37, kl_38, kl_39, kl_40, kl_41, kl_42, kl_43, kl_45, kl_47, kl_48, kl_50, kl_57, kl_59, kl_60, kl_61, kl_62, kl_63, kl_64, kl_97, kl_98, kl_99, kl_100, kl_101, kl_102, kl_103, kl_104, kl_105, kl_106, kl_107, kl_108, kl_109, kl_110, kl_111, kl_112, kl_113, kl_114, kl_115, kl_120, kl_124, kl_126, kl_127, kl_255, kl_720, kl_2048, kl_252645135, kl_858993459, kl_1431655765, kl_1640531535, kl_2000000000])
          rfl
        · decide
        · omega
        · omega
      | with_reducible apply wp_gd
        · (try simp (disch := omega) only [bi, Int.add_zero, Int.zero_add, true_or, or_true, true_and, and_true, not_false_eq_true, not_true_eq_false, if_true, if_false, if_pos, if_neg, ki_add, ki_sub, ki_mul, ki_neg, ki_lt, ki_le, ki_eq, ki_cl, ki_div, ki_ite, ck5, kl_0, kl_1, kl_2, kl_3, kl_4, kl_5, kl_6, kl_7, kl_8, kl_9, kl_10, kl_11, kl_12, kl_13, kl_14, kl_16, kl_20, kl_21, kl_30, kl_31, kl_32, kl_33, kl_35, kl_37, kl_38, kl_39, kl_40, kl_41, kl_42, kl_43, kl_45, kl_47, kl_48, kl_50, kl_57, kl_59, kl_60, kl_61, kl_62, kl_63, kl_64, kl_97, kl_98, kl_99, kl_100, kl_101, kl_102, kl_103, kl_104, kl_105, kl_106, kl_107, kl_108, kl_109, kl_110, kl_111, kl_112, kl_113, kl_114, kl_115, kl_120, kl_124, kl_126, kl_127, kl_255, kl_720, kl_2048, kl_252645135, kl_858993459, kl_1431655765, kl_1640531535, kl_2000000000])
          rfl
        · first | exact True.intro | omega | assumption
      | with_reducible apply wp_is
        · (try simp (disch := omega) only [bi, Int.add_zero, Int.zero_add, true_or, or_true, true_and, and_true, not_false_eq_true, not_true_eq_false, if_true, if_false, if_pos, if_neg, ki_add, ki_sub, ki_mul, ki_neg, ki_lt, ki_le, ki_eq, ki_cl, ki_div, ki_ite, ck5, kl_0, kl_1, kl_2, kl_3, kl_4, kl_5, kl_6, kl_7, kl_8, kl_9, kl_10, kl_11, kl_12, kl_13, kl_14, kl_16, kl_20, kl_21, kl_30, kl_31, kl_32, kl_33, kl_35, kl_37, kl_38, kl_39, kl_40, kl_41, kl_42, kl_43, kl_45, kl_47, kl_48, kl_50, kl_57, kl_59, kl_60, kl_61, kl_62, kl_63, kl_64, kl_97, kl_98, kl_99, kl_100, kl_101, kl_102, kl_103, kl_104, kl_105, kl_106, kl_107, kl_108, kl_109, kl_110, kl_111, kl_112, kl_113, kl_114, kl_115, kl_120, kl_124, kl_126, kl_127, kl_255, kl_720, kl_2048, kl_252645135, kl_858993459, kl_1431655765, kl_1640531535, kl_2000000000])
          rfl
        all_goals intro _
        all_goals try (exfalso; first | (rename_i q; exact q trivial) | (rename_i q; exact q) | omega)
      | with_reducible apply wp_mr
      | with_reducible apply wp_b
        · simp (disch := omega) only [Int.add_zero, Int.zero_add, true_or, or_true, true_and, and_true, not_false_eq_true, not_true_eq_false, if_true, if_false, if_pos, if_neg, ki_add, ki_sub, ki_mul, ki_neg, ki_lt, ki_le, ki_eq, ki_cl, ki_div, ki_ite, ck5, kl_0, kl_1, kl_2, kl_3, kl_4, kl_5, kl_6, kl_7, kl_8, kl_9, kl_10, kl_11, kl_12, kl_13, kl_14, kl_16, kl_20, kl_21, kl_30, kl_31, kl_32, kl_33, kl_35, kl_37, kl_38, kl_39, kl_40, kl_41, kl_42, kl_43, kl_45, kl_47, kl_48, kl_50, kl_57, kl_59, kl_60, kl_61, kl_62, kl_63, kl_64, kl_97, kl_98, kl_99, kl_100, kl_101, kl_102, kl_103, kl_104, kl_105, kl_106, kl_107, kl_108, kl_109, kl_110, kl_111, kl_112, kl_113, kl_114, kl_115, kl_120, kl_124, kl_126, kl_127, kl_255, kl_720, kl_2048, kl_252645135, kl_858993459, kl_1431655765, kl_1640531535, kl_2000000000]
          rfl
        all_goals intro _
        all_goals try (exfalso; first | (rename_i q; exact q trivial) | (rename_i q; exact q) | omega)
      | with_reducible apply wp_oe
        · simp (disch := omega) only [Int.add_zero, Int.zero_add, true_or, or_true, true_and, and_true, not_false_eq_true, not_true_eq_false, if_true, if_false, if_pos, if_neg, ki_add, ki_sub, ki_mul, ki_neg, ki_lt, ki_le, ki_eq, ki_cl, ki_div, ki_ite, ck5, kl_0, kl_1, kl_2, kl_3, kl_4, kl_5, kl_6, kl_7, kl_8, kl_9, kl_10, kl_11, kl_12, kl_13, kl_14, kl_16, kl_20, kl_21, kl_30, kl_31, kl_32, kl_33, kl_35, kl_37, kl_38, kl_39, kl_40, kl_41, kl_42, kl_43, kl_45, kl_47, kl_48, kl_50, kl_57, kl_59, kl_60, kl_61, kl_62, kl_63, kl_64, kl_97, kl_98, kl_99, kl_100, kl_101, kl_102, kl_103, kl_104, kl_105, kl_106, kl_107, kl_108, kl_109, kl_110, kl_111, kl_112, kl_113, kl_114, kl_115, kl_120, kl_124, kl_126, kl_127, kl_255, kl_720, kl_2048, kl_252645135, kl_858993459, kl_1431655765, kl_1640531535, kl_2000000000]
          try rfl
      | with_reducible apply wp_sv
        · (try simp (disch := omega) only [bi, Int.add_zero, Int.zero_add, true_or, or_true, true_and, and_true, not_false_eq_true, not_true_eq_false, if_true, if_false, if_pos, if_neg, ki_add, ki_sub, ki_mul, ki_neg, ki_lt, ki_le, ki_eq, ki_cl, ki_div, ki_ite, ck5, kl_0, kl_1, kl_2, kl_3, kl_4, kl_5, kl_6, kl_7, kl_8, kl_9, kl_10, kl_11, kl_12, kl_13, kl_14, kl_16, kl_20, kl_21, kl_30, kl_31, kl_32, kl_33, kl_35, kl_37, kl_38, kl_39, kl_40, kl_41, kl_42, kl_43, kl_45, kl_47, kl_48, kl_50, kl_57, kl_59, kl_60, kl_61, kl_62, kl_63, kl_64, kl_97, kl_98, kl_99, kl_100, kl_101, kl_102, kl_103, kl_104, kl_105, kl_106, kl_107, kl_108, kl_109, kl_110, kl_111, kl_112, kl_113, kl_114, kl_115, kl_120, kl_124, kl_126, kl_127, kl_255, kl_720, kl_2048, kl_252645135, kl_858993459, kl_1431655765, kl_1640531535, kl_2000000000])
          rfl
      | with_reducible apply wp_so
    exact Or.inl ⟨hf, rfl⟩
  · dsimp only at ev hh hfr
    subst ev
    have r8 : u.1 24 (0 : Int).toNat = ki (η 8 0) := hh.2.2.2.2.2.2.2.1 0 (by omega) (by omega)
    repeat' first
      | with_reducible apply wp_bd
        · (try simp (disch := omega) only [bi, Int.add_zero, Int.zero_add, true_or, or_true, true_and, and_true, not_false_eq_true, not_true_eq_false, if_true, if_false, if_pos, if_neg, ki_add, ki_sub, ki_mul, ki_neg, ki_lt, ki_le, ki_eq, ki_cl, ki_div, ki_ite, ck5, kl_0, kl_1, kl_2, kl_3, kl_4, kl_5, kl_6, kl_7, kl_8, kl_9, kl_10, kl_11, kl_12, kl_13, kl_14, kl_16, kl_20, kl_21, kl_30, kl_31, kl_32, kl_33, kl_35, kl_37, kl_38, kl_39, kl_40, kl_41, kl_42, kl_43, kl_45, kl_47, kl_48, kl_50, kl_57, kl_59, kl_60, kl_61, kl_62, kl_63, kl_64, kl_97, kl_98, kl_99, kl_100, kl_101, kl_102, kl_103, kl_104, kl_105, kl_106, kl_107, kl_108, kl_109, kl_110, kl_111, kl_112, kl_113, kl_114, kl_115, kl_120, kl_124, kl_126, kl_127, kl_255, kl_720, kl_2048, kl_252645135, kl_858993459, kl_1431655765, kl_1640531535, kl_2000000000, r8, Nat.reduceAdd])
          rfl
      | with_reducible apply wp_in
        · (try simp (disch := omega) only [bi, Int.add_zero, Int.zero_add, true_or, or_true, true_and, and_true, not_false_eq_true, not_true_eq_false, if_true, if_false, if_pos, if_neg, ki_add, ki_sub, ki_mul, ki_neg, ki_lt, ki_le, ki_eq, ki_cl, ki_div, ki_ite, ck5, kl_0, kl_1, kl_2, kl_3, kl_4, kl_5, kl_6, kl_7, kl_8, kl_9, kl_10, kl_11, kl_12, kl_13, kl_14, kl_16, kl_20, kl_21, kl_30, kl_31, kl_32, kl_33, kl_35, kl_37, kl_38, kl_39, kl_40, kl_41, kl_42, kl_43, kl_45, kl_47, kl_48, kl_50, kl_57, kl_59, kl_60, kl_61, kl_62, kl_63, kl_64, kl_97, kl_98, kl_99, kl_100, kl_101, kl_102, kl_103, kl_104, kl_105, kl_106, kl_107, kl_108, kl_109, kl_110, kl_111, kl_112, kl_113, kl_114, kl_115, kl_120, kl_124, kl_126, kl_127, kl_255, kl_720, kl_2048, kl_252645135, kl_858993459, kl_1431655765, kl_1640531535, kl_2000000000, r8, Nat.reduceAdd])
          rfl
        · decide
        · omega
        · omega
      | with_reducible apply wp_gd
        · (try simp (disch := omega) only [bi, Int.add_zero, Int.zero_add, true_or, or_true, true_and, and_true, not_false_eq_true, not_true_eq_false, if_true, if_false, if_pos, if_neg, ki_add, ki_sub, ki_mul, ki_neg, ki_lt, ki_le, ki_eq, ki_cl, ki_div, ki_ite, ck5, kl_0, kl_1, kl_2, kl_3, kl_4, kl_5, kl_6, kl_7, kl_8, kl_9, kl_10, kl_11, kl_12, kl_13, kl_14, kl_16, kl_20, kl_21, kl_30, kl_31, kl_32, kl_33, kl_35, kl_37, kl_38, kl_39, kl_40, kl_41, kl_42, kl_43, kl_45, kl_47, kl_48, kl_50, kl_57, kl_59, kl_60, kl_61, kl_62, kl_63, kl_64, kl_97, kl_98, kl_99, kl_100, kl_101, kl_102, kl_103, kl_104, kl_105, kl_106, kl_107, kl_108, kl_109, kl_110, kl_111, kl_112, kl_113, kl_114, kl_115, kl_120, kl_124, kl_126, kl_127, kl_255, kl_720, kl_2048, kl_252645135, kl_858993459, kl_1431655765, kl_1640531535, kl_2000000000, r8, Nat.reduceAdd])
          rfl
        · first | exact True.intro | omega | assumption
      | with_reducible apply wp_is
        · (try simp (disch := omega) only [bi, Int.add_zero, Int.zero_add, true_or, or_true, true_and, and_true, not_false_eq_true, not_true_eq_false, if_true, if_false, if_pos, if_neg, ki_add, ki_sub, ki_mul, ki_neg, ki_lt, ki_le, ki_eq, ki_cl, ki_div, ki_ite, ck5, kl_0, kl_1, kl_2, kl_3, kl_4, kl_5, kl_6, kl_7, kl_8, kl_9, kl_10, kl_11, kl_12, kl_13, kl_14, kl_16, kl_20, kl_21, kl_30, kl_31, kl_32, kl_33, kl_35, kl_37, kl_38, kl_39, kl_40, kl_41, kl_42, kl_43, kl_45, kl_47, kl_48, kl_50, kl_57, kl_59, kl_60, kl_61, kl_62, kl_63, kl_64, kl_97, kl_98, kl_99, kl_100, kl_101, kl_102, kl_103, kl_104, kl_105, kl_106, kl_107, kl_108, kl_109, kl_110, kl_111, kl_112, kl_113, kl_114, kl_115, kl_120, kl_124, kl_126, kl_127, kl_255, kl_720, kl_2048, kl_252645135, kl_858993459, kl_1431655765, kl_1640531535, kl_2000000000, r8, Nat.reduceAdd])
          rfl
        all_goals intro _
        all_goals try (exfalso; first | (rename_i q; exact q trivial) | (rename_i q; exact q) | omega)
      | with_reducible apply wp_mr
      | with_reducible apply wp_b
        · simp (disch := omega) only [Int.add_zero, Int.zero_add, true_or, or_true, true_and, and_true, not_false_eq_true, not_true_eq_false, if_true, if_false, if_pos, if_neg, ki_add, ki_sub, ki_mul, ki_neg, ki_lt, ki_le, ki_eq, ki_cl, ki_div, ki_ite, ck5, kl_0, kl_1, kl_2, kl_3, kl_4, kl_5, kl_6, kl_7, kl_8, kl_9, kl_10, kl_11, kl_12, kl_13, kl_14, kl_16, kl_20, kl_21, kl_30, kl_31, kl_32, kl_33, kl_35, kl_37, kl_38, kl_39, kl_40, kl_41, kl_42, kl_43, kl_45, kl_47, kl_48, kl_50, kl_57, kl_59, kl_60, kl_61, kl_62, kl_63, kl_64, kl_97, kl_98, kl_99, kl_100, kl_101, kl_102, kl_103, kl_104, kl_105, kl_106, kl_107, kl_108, kl_109, kl_110, kl_111, kl_112, kl_113, kl_114, kl_115, kl_120, kl_124, kl_126, kl_127, kl_255, kl_720, kl_2048, kl_252645135, kl_858993459, kl_1431655765, kl_1640531535, kl_2000000000, r8, Nat.reduceAdd]
          rfl
        all_goals intro _
        all_goals try (exfalso; first | (rename_i q; exact q trivial) | (rename_i q; exact q) | omega)
      | with_reducible apply wp_oe
        · simp (disch := omega) only [Int.add_zero, Int.zero_add, true_or, or_true, true_and, and_true, not_false_eq_true, not_true_eq_false, if_true, if_false, if_pos, if_neg, ki_add, ki_sub, ki_mul, ki_neg, ki_lt, ki_le, ki_eq, ki_cl, ki_div, ki_ite, ck5, kl_0, kl_1, kl_2, kl_3, kl_4, kl_5, kl_6, kl_7, kl_8, kl_9, kl_10, kl_11, kl_12, kl_13, kl_14, kl_16, kl_20, kl_21, kl_30, kl_31, kl_32, kl_33, kl_35, kl_37, kl_38, kl_39, kl_40, kl_41, kl_42, kl_43, kl_45, kl_47, kl_48, kl_50, kl_57, kl_59, kl_60, kl_61, kl_62, kl_63, kl_64, kl_97, kl_98, kl_99, kl_100, kl_101, kl_102, kl_103, kl_104, kl_105, kl_106, kl_107, kl_108, kl_109, kl_110, kl_111, kl_112, kl_113, kl_114, kl_115, kl_120, kl_124, kl_126, kl_127, kl_255, kl_720, kl_2048, kl_252645135, kl_858993459, kl_1431655765, kl_1640531535, kl_2000000000, r8, Nat.reduceAdd]
          try rfl
      | with_reducible apply wp_sv
        · (try simp (disch := omega) only [bi, Int.add_zero, Int.zero_add, true_or, or_true, true_and, and_true, not_false_eq_true, not_true_eq_false, if_true, if_false, if_pos, if_neg, ki_add, ki_sub, ki_mul, ki_neg, ki_lt, ki_le, ki_eq, ki_cl, ki_div, ki_ite, ck5, kl_0, kl_1, kl_2, kl_3, kl_4, kl_5, kl_6, kl_7, kl_8, kl_9, kl_10, kl_11, kl_12, kl_13, kl_14, kl_16, kl_20, kl_21, kl_30, kl_31, kl_32, kl_33, kl_35, kl_37, kl_38, kl_39, kl_40, kl_41, kl_42, kl_43, kl_45, kl_47, kl_48, kl_50, kl_57, kl_59, kl_60, kl_61, kl_62, kl_63, kl_64, kl_97, kl_98, kl_99, kl_100, kl_101, kl_102, kl_103, kl_104, kl_105, kl_106, kl_107, kl_108, kl_109, kl_110, kl_111, kl_112, kl_113, kl_114, kl_115, kl_120, kl_124, kl_126, kl_127, kl_255, kl_720, kl_2048, kl_252645135, kl_858993459, kl_1431655765, kl_1640531535, kl_2000000000, r8, Nat.reduceAdd])
          rfl
      | with_reducible apply wp_so
    exact Or.inr ⟨hf, rfl, hx_led hh (by omega), fr_tr (fr_w hfr (fun k hk => by unfold pH at hk; unfold qX2; omega)) (fr_si (by unfold qX2; omega)), lawX_c (lawX_f hl hfr (fun k hk => by unfold pH at hk; omega)) (by omega)⟩
