/-! part 92: byTurns in the class: one deed at a node -/
/-- what a deed at node k may touch -/
def qV (k0 : Nat) (k j : Nat) : Prop := pV (k0 + 1) k j ∨ (k0 = 0 ∧ k = 93 ∧ j = 5)
theorem qV_pV {k0 k j : Nat} (h : qV k0 k j) : pV k0 k j := by
  rcases h with h | h
  · exact pV_mo h
  · exact Or.inr (Or.inr (Or.inr h))
theorem x_after {η : Hy} {gn : (Int → Int) → Int} {S S0 : xSt} {n r k : Nat} {x5 x6 x7 x8 c : Int} {g : xSt → Int32 → Int32 → Int32 → Option (xSt × Int32)} {r4 : Nat} (hk : k < 3) (h5 : x5 = if k % 2 = 1 then 0 else 1) (c0 : 0 ≤ c) (c1 : c ≤ 6) (x80 : 0 ≤ x8) (x81 : x8 ≤ 6) (a0 : -1 ≤ x6) (a1 : x6 < x7) (a2 : x7 ≤ 100) (hf : eq_ (qV k) S0 S) (h2 : S.2 = S0.2) (h9 : S.1 93 5 = S0.1 93 5)
    (hg : wp (g S (ki ((k : Int) + 1)) (ki x6) (ki x7)) (nodeP gn n r (k + 1) (deS k c η) x6 x7 S)) :
    wp (f_X3_outcome_160 g (ki k) r4 (ki x5) (ki x6) (ki x7) (ki x8) (ki c) S) (fun q => ∃ (R : Int) (S' : xSt), -2 ≤ R ∧ R ≤ 100 ∧ okAB x6 x7 (bst gn n r (k + 1) (deS k c η)) R ∧ lawX gn S' ∧ eq_ (qV k) S0 S' ∧ S'.2 = S0.2 ∧ q = .inl (S', ki (if x5 = 0 then (if R ≤ x6 then x6 else R) else x6), ki (if x5 = 0 then x7 else (if x7 ≤ R then x7 else R)), ki (x8 + 1)) ∧ (k = 0 → S'.1 93 5 = if x7 ≤ R then S0.1 93 5 else ki c)) := by
  obtain ⟨⟨S1, v⟩, e1, R, q1, q2, q3, q4, q5, q6, q7⟩ := hg
  dsimp only at q1 q5 q6 q7
  subst q1
  have f1 : eq_ (qV k) S0 S1 := eq_tr hf (fun k' j hk' => q6 k' j (fun q => hk' (Or.inl q)))
  have r9 : S1.1 93 5 = S0.1 93 5 := by rw [q6 93 5 (by unfold pV; omega)]; exact h9
  by_cases ho : k % 2 = 1
  · rw [if_pos ho] at h5
    subst h5
    by_cases hc : R ≤ x6
    · unfold f_X3_outcome_160 f_X3_outcome_209 f_X3_outcome_225
      repeat' first
        | with_reducible apply wp_bd
          · (try simp (disch := omega) only [bi, Int.add_zero, Int.zero_add, true_or, or_true, true_and, and_true, not_false_eq_true, not_true_eq_false, if_true, if_false, if_pos, if_neg, ki_add, ki_sub, ki_mul, ki_neg, ki_lt, ki_le, ki_eq, ki_cl, ki_div, ki_ite, ck5, kl_0, kl_1, kl_2, kl_3, kl_4, kl_5, kl_6, kl_7, kl_8, kl_9, kl_10, kl_11, kl_12, kl_13, kl_14, kl_16, kl_20, kl_21, kl_30, kl_31, kl_32, kl_33, kl_35, kl_37, kl_38, kl_39, kl_40, kl_41, kl_42, kl_43, kl_45, kl_47, kl_48, kl_50, kl_57, kl_59, kl_60, kl_61, kl_62, kl_63, kl_64, kl_97, kl_98, kl_99, kl_100, kl_101, kl_102, kl_103, kl_104, kl_105, kl_106, kl_107, kl_108, kl_109, kl_110, kl_111, kl_112, kl_113, kl_114, kl_115, kl_120, kl_124, kl_126, kl_127, kl_255, kl_720, kl_2048, kl_252645135, kl_858993459, kl_1431655765, kl_1640531535, kl_2000000000, e1])
            rfl
        | with_reducible apply wp_in
          · (try simp (disch := omega) only [bi, Int.add_zero, Int.zero_add, true_or, or_true, true_and, and_true, not_false_eq_true, not_true_eq_false, if_true, if_false, if_pos, if_neg, ki_add, ki_sub, ki_mul, ki_neg, ki_lt, ki_le, ki_eq, ki_cl, ki_div, ki_ite, ck5, kl_0, kl_1, kl_2, kl_3, kl_4, kl_5, kl_6, kl_7, kl_8, kl_9, kl_10, kl_11, kl_12, kl_13, kl_14, kl_16, kl_20, kl_21, kl_30, kl_31, kl_32, kl_33, kl_35, kl_37, kl_38, kl_39, kl_40, kl_41, kl_42, kl_43, kl_45, kl_47, kl_48, kl_50, kl_57, kl_59, kl_60, kl_61, kl_62, kl_63, kl_64, kl_97, kl_98, kl_99, kl_100, kl_101, kl_102, kl_103, kl_104, kl_105, kl_106, kl_107, kl_108, kl_109, kl_110, kl_111, kl_112, kl_113, kl_114, kl_115, kl_120, kl_124, kl_126, kl_127, kl_255, kl_720, kl_2048, kl_252645135, kl_858993459, kl_1431655765, kl_1640531535, kl_2000000000, e1])
            rfl
          · decide
          · omega
          · omega
        | with_reducible apply wp_gd
          · (try simp (disch := omega) only [bi, Int.add_zero, Int.zero_add, true_or, or_true, true_and, and_true, not_false_eq_true, not_true_eq_false, if_true, if_false, if_pos, if_neg, ki_add, ki_sub, ki_mul, ki_neg, ki_lt, ki_le, ki_eq, ki_cl, ki_div, ki_ite, ck5, kl_0, kl_1, kl_2, kl_3, kl_4, kl_5, kl_6, kl_7, kl_8, kl_9, kl_10, kl_11, kl_12, kl_13, kl_14, kl_16, kl_20, kl_21, kl_30, kl_31, kl_32, kl_33, kl_35, kl_37, kl_38, kl_39, kl_40, kl_41, kl_42, kl_43, kl_45, kl_47, kl_48, kl_50, kl_57, kl_59, kl_60, kl_61, kl_62, kl_63, kl_64, kl_97, kl_98, kl_99, kl_100, kl_101, kl_102, kl_103, kl_104, kl_105, kl_106, kl_107, kl_108, kl_109, kl_110, kl_111, kl_112, kl_113, kl_114, kl_115, kl_120, kl_124, kl_126, kl_127, kl_255, kl_720, kl_2048, kl_252645135, kl_858993459, kl_1431655765, kl_1640531535, kl_2000000000, e1])
            rfl
          · first | exact True.intro | omega | assumption
        | with_reducible apply wp_is
          · (try simp (disch := omega) only [bi, Int.add_zero, Int.zero_add, true_or, or_true, true_and, and_true, not_false_eq_true, not_true_eq_false, if_true, if_false, if_pos, if_neg, ki_add, ki_sub, ki_mul, ki_neg, ki_lt, ki_le, ki_eq, ki_cl, ki_div, ki_ite, ck5, kl_0, kl_1, kl_2, kl_3, kl_4, kl_5, kl_6, kl_7, kl_8, kl_9, kl_10, kl_11, kl_12, kl_13, kl_14, kl_16, kl_20, kl_21, kl_30, kl_31, kl_32, kl_33, kl_35, kl_37, kl_38, kl_39, kl_40, kl_41, kl_42, kl_43, kl_45, kl_47, kl_48, kl_50, kl_57, kl_59, kl_60, kl_61, kl_62, kl_63, kl_64, kl_97, kl_98, kl_99, kl_100, kl_101, kl_102, kl_103, kl_104, kl_105, kl_106, kl_107, kl_108, kl_109, kl_110, kl_111, kl_112, kl_113, kl_114, kl_115, kl_120, kl_124, kl_126, kl_127, kl_255, kl_720, kl_2048, kl_252645135, kl_858993459, kl_1431655765, kl_1640531535, kl_2000000000, e1])
            rfl
          all_goals intro _
          all_goals try (exfalso; first | (rename_i q; exact q trivial) | (rename_i q; exact q) | omega)
        | with_reducible apply wp_mr
        | with_reducible apply wp_b
          · simp (disch := omega) only [Int.add_zero, Int.zero_add, true_or, or_true, true_and, and_true, not_false_eq_true, not_true_eq_false, if_true, if_false, if_pos, if_neg, ki_add, ki_sub, ki_mul, ki_neg, ki_lt, ki_le, ki_eq, ki_cl, ki_div, ki_ite, ck5, kl_0, kl_1, kl_2, kl_3, kl_4, kl_5, kl_6, kl_7, kl_8, kl_9, kl_10, kl_11, kl_12, kl_13, kl_14, kl_16, kl_20, kl_21, kl_30, kl_31, kl_32, kl_33, kl_35, kl_37, kl_38, kl_39, kl_40, kl_41, kl_42, kl_43, kl_45, kl_47, kl_48, kl_50, kl_57, kl_59, kl_60, kl_61, kl_62, kl_63, kl_64, kl_97, kl_98, kl_99, kl_100, kl_101, kl_102, kl_103, kl_104, kl_105, kl_106, kl_107, kl_108, kl_109, kl_110, kl_111, kl_112, kl_113, kl_114, kl_115, kl_120, kl_124, kl_126, kl_127, kl_255, kl_720, kl_2048, kl_252645135, kl_858993459, kl_1431655765, kl_1640531535, kl_2000000000, e1]
            rfl
          all_goals intro _
          all_goals try (exfalso; first | (rename_i q; exact q trivial) | (rename_i q; exact q) | omega)
        | with_reducible apply wp_oe
          · simp (disch := omega) only [Int.add_zero, Int.zero_add, true_or, or_true, true_and, and_true, not_false_eq_true, not_true_eq_false, if_true, if_false, if_pos, if_neg, ki_add, ki_sub, ki_mul, ki_neg, ki_lt, ki_le, ki_eq, ki_cl, ki_div, ki_ite, ck5, kl_0, kl_1, kl_2, kl_3, kl_4, kl_5, kl_6, kl_7, kl_8, kl_9, kl_10, kl_11, kl_12, kl_13, kl_14, kl_16, kl_20, kl_21, kl_30, kl_31, kl_32, kl_33, kl_35, kl_37, kl_38, kl_39, kl_40, kl_41, kl_42, kl_43, kl_45, kl_47, kl_48, kl_50, kl_57, kl_59, kl_60, kl_61, kl_62, kl_63, kl_64, kl_97, kl_98, kl_99, kl_100, kl_101, kl_102, kl_103, kl_104, kl_105, kl_106, kl_107, kl_108, kl_109, kl_110, kl_111, kl_112, kl_113, kl_114, kl_115, kl_120, kl_124, kl_126, kl_127, kl_255, kl_720, kl_2048, kl_252645135, kl_858993459, kl_1431655765, kl_1640531535, kl_2000000000, e1]
            try rfl
        | with_reducible apply wp_sv
          · (try simp (disch := omega) only [bi, Int.add_zero, Int.zero_add, true_or, or_true, true_and, and_true, not_false_eq_true, not_true_eq_false, if_true, if_false, if_pos, if_neg, ki_add, ki_sub, ki_mul, ki_neg, ki_lt, ki_le, ki_eq, ki_cl, ki_div, ki_ite, ck5, kl_0, kl_1, kl_2, kl_3, kl_4, kl_5, kl_6, kl_7, kl_8, kl_9, kl_10, kl_11, kl_12, kl_13, kl_14, kl_16, kl_20, kl_21, kl_30, kl_31, kl_32, kl_33, kl_35, kl_37, kl_38, kl_39, kl_40, kl_41, kl_42, kl_43, kl_45, kl_47, kl_48, kl_50, kl_57, kl_59, kl_60, kl_61, kl_62, kl_63, kl_64, kl_97, kl_98, kl_99, kl_100, kl_101, kl_102, kl_103, kl_104, kl_105, kl_106, kl_107, kl_108, kl_109, kl_110, kl_111, kl_112, kl_113, kl_114, kl_115, kl_120, kl_124, kl_126, kl_127, kl_255, kl_720, kl_2048, kl_252645135, kl_858993459, kl_1431655765, kl_1640531535, kl_2000000000, e1])
            rfl
        | with_reducible apply wp_so
      exact ⟨R, S1, q2, q3, q4, q5, f1, q7.trans h2, by rw [if_pos rfl, if_pos rfl, if_pos hc], fun e => absurd e (by omega)⟩
    · unfold f_X3_outcome_160 f_X3_outcome_209 f_X3_outcome_225
      repeat' first
        | with_reducible apply wp_bd
          · (try simp (disch := omega) only [bi, Int.add_zero, Int.zero_add, true_or, or_true, true_and, and_true, not_false_eq_true, not_true_eq_false, if_true, if_false, if_pos, if_neg, ki_add, ki_sub, ki_mul, ki_neg, ki_lt, ki_le, ki_eq, ki_cl, ki_div, ki_ite, ck5, kl_0, kl_1, kl_2, kl_3, kl_4, kl_5, kl_6, kl_7, kl_8, kl_9, kl_10, kl_11, kl_12, kl_13, kl_14, kl_16, kl_20, kl_21, kl_30, kl_31, kl_32, kl_33, kl_35, kl_37, kl_38, kl_39, kl_40, kl_41, kl_42, kl_43, kl_45, kl_47, kl_48, kl_50, kl_57, kl_59, kl_60, kl_61, kl_62, kl_63, kl_64, kl_97, kl_98, kl_99, kl_100, kl_101, kl_102, kl_103, kl_104, kl_105, kl_106, kl_107, kl_108, kl_109, kl_110, kl_111, kl_112, kl_113, kl_114, kl_115, kl_120, kl_124, kl_126, kl_127, kl_255, kl_720, kl_2048, kl_252645135, kl_858993459, kl_1431655765, kl_1640531535, kl_2000000000, e1])
            rfl
        | with_reducible apply wp_in
          · (try simp (disch := omega) only [bi, Int.add_zero, Int.zero_add, true_or, or_true, true_and, and_true, not_false_eq_true, not_true_eq_false, if_true, if_false, if_pos, if_neg, ki_add, ki_sub, ki_mul, ki_neg, ki_lt, ki_le, ki_eq, ki_cl, ki_div, ki_ite, ck5, kl_0, kl_1, kl_2, kl_3, kl_4, kl_5, kl_6, kl_7, kl_8, kl_9, kl_10, kl_11, kl_12, kl_13, kl_14, kl_16, kl_20, kl_21, kl_30, kl_31, kl_32, kl_33, kl_35, kl_37, kl_38, kl_39, kl_40, kl_41, kl_42, kl_43, kl_45, kl_47, kl_48, kl_50, kl_57, kl_59, kl_60, kl_61, kl_62, kl_63, kl_64, kl_97, kl_98, kl_99, kl_100, kl_101, kl_102, kl_103, kl_104, kl_105, kl_106, kl_107, kl_108, kl_109, kl_110, kl_111, kl_112, kl_113, kl_114, kl_115, kl_120, kl_124, kl_126, kl_127, kl_255, kl_720, kl_2048, kl_252645135, kl_858993459, kl_1431655765, kl_1640531535, kl_2000000000, e1])
            rfl
          · decide
          · omega
          · omega
        | with_reducible apply wp_gd
          · (try simp (disch := omega) only [bi, Int.add_zero, Int.zero_add, true_or, or_true, true_and, and_true, not_false_eq_true, not_true_eq_false, if_true, if_false, if_pos, if_neg, ki_add, ki_sub, ki_mul, ki_neg, ki_lt, ki_le, ki_eq, ki_cl, ki_div, ki_ite, ck5, kl_0, kl_1, kl_2, kl_3, kl_4, kl_5, kl_6, kl_7, kl_8, kl_9, kl_10, kl_11, kl_12, kl_13, kl_14, kl_16, kl_20, kl_21, kl_30, kl_31, kl_32, kl_33, kl_35, kl_37, kl_38, kl_39, kl_40, kl_41, kl_42, kl_43, kl_45, kl_47, kl_48, kl_50, kl_57, kl_59, kl_60, kl_61, kl_62, kl_63, kl_64, kl_97, kl_98, kl_99, kl_100, kl_101, kl_102, kl_103, kl_104, kl_105, kl_106, kl_107, kl_108, kl_109, kl_110, kl_111, kl_112, kl_113, kl_114, kl_115, kl_120, kl_124, kl_126, kl_127, kl_255, kl_720, kl_2048, kl_252645135, kl_858993459, kl_1431655765, kl_1640531535, kl_2000000000, e1])
            rfl
          · first | exact True.intro | omega | assumption
        | with_reducible apply wp_is
          · (try simp (disch := omega) only [bi, Int.add_zero, Int.zero_add, true_or, or_true, true_and, and_true, not_false_eq_true, not_true_eq_false, if_true, if_false, if_pos, if_neg, ki_add, ki_sub, ki_mul, ki_neg, ki_lt, ki_le, ki_eq, ki_cl, ki_div, ki_ite, ck5, kl_0, kl_1, kl_2, kl_3, kl_4, kl_5, kl_6, kl_7, kl_8, kl_9, kl_10, kl_11, kl_12, kl_13, kl_14, kl_16, kl_20, kl_21, kl_30, kl_31, kl_32, kl_33, kl_35, kl_37, kl_38, kl_39, kl_40, kl_41, kl_42, kl_43, kl_45, kl_47, kl_48, kl_50, kl_57, kl_59, kl_60, kl_61, kl_62, kl_63, kl_64, kl_97, kl_98, kl_99, kl_100, kl_101, kl_102, kl_103, kl_104, kl_105, kl_106, kl_107, kl_108, kl_109, kl_110, kl_111, kl_112, kl_113, kl_114, kl_115, kl_120, kl_124, kl_126, kl_127, kl_255, kl_720, kl_2048, kl_252645135, kl_858993459, kl_1431655765, kl_1640531535, kl_2000000000, e1])
            rfl
          all_goals intro _
          all_goals try (exfalso; first | (rename_i q; exact q trivial) | (rename_i q; exact q) | omega)
        | with_reducible apply wp_mr
        | with_reducible apply wp_b
          · simp (disch := omega) only [Int.add_zero, Int.zero_add, true_or, or_true, true_and, and_true, not_false_eq_true, not_true_eq_false, if_true, if_false, if_pos, if_neg, ki_add, ki_sub, ki_mul, ki_neg, ki_lt, ki_le, ki_eq, ki_cl, ki_div, ki_ite, ck5, kl_0, kl_1, kl_2, kl_3, kl_4, kl_5, kl_6, kl_7, kl_8, kl_9, kl_10, kl_11, kl_12, kl_13, kl_14, kl_16, kl_20, kl_21, kl_30, kl_31, kl_32, kl_33, kl_35, kl_37, kl_38, kl_39, kl_40, kl_41, kl_42, kl_43, kl_45, kl_47, kl_48, kl_50, kl_57, kl_59, kl_60, kl_61, kl_62, kl_63, kl_64, kl_97, kl_98, kl_99, kl_100, kl_101, kl_102, kl_103, kl_104, kl_105, kl_106, kl_107, kl_108, kl_109, kl_110, kl_111, kl_112, kl_113, kl_114, kl_115, kl_120, kl_124, kl_126, kl_127, kl_255, kl_720, kl_2048, kl_252645135, kl_858993459, kl_1431655765, kl_1640531535, kl_2000000000, e1]
            rfl
          all_goals intro _
          all_goals try (exfalso; first | (rename_i q; exact q trivial) | (rename_i q; exact q) | omega)
        | with_reducible apply wp_oe
          · simp (disch := omega) only [Int.add_zero, Int.zero_add, true_or, or_true, true_and, and_true, not_false_eq_true, not_true_eq_false, if_true, if_false, if_pos, if_neg, ki_add, ki_sub, ki_mul, ki_neg, ki_lt, ki_le, ki_eq, ki_cl, ki_div, ki_ite, ck5, kl_0, kl_1, kl_2, kl_3, kl_4, kl_5, kl_6, kl_7, kl_8, kl_9, kl_10, kl_11, kl_12, kl_13, kl_14, kl_16, kl_20, kl_21, kl_30, kl_31, kl_32, kl_33, kl_35, kl_37, kl_38, kl_39, kl_40, kl_41, kl_42, kl_43, kl_45, kl_47, kl_48, kl_50, kl_57, kl_59, kl_60, kl_61, kl_62, kl_63, kl_64, kl_97, kl_98, kl_99, kl_100, kl_101, kl_102, kl_103, kl_104, kl_105, kl_106, kl_107, kl_108, kl_109, kl_110, kl_111, kl_112, kl_113, kl_114, kl_115, kl_120, kl_124, kl_126, kl_127, kl_255, kl_720, kl_2048, kl_252645135, kl_858993459, kl_1431655765, kl_1640531535, kl_2000000000, e1]
            try rfl
        | with_reducible apply wp_sv
          · (try simp (disch := omega) only [bi, Int.add_zero, Int.zero_add, true_or, or_true, true_and, and_true, not_false_eq_true, not_true_eq_false, if_true, if_false, if_pos, if_neg, ki_add, ki_sub, ki_mul, ki_neg, ki_lt, ki_le, ki_eq, ki_cl, ki_div, ki_ite, ck5, kl_0, kl_1, kl_2, kl_3, kl_4, kl_5, kl_6, kl_7, kl_8, kl_9, kl_10, kl_11, kl_12, kl_13, kl_14, kl_16, kl_20, kl_21, kl_30, kl_31, kl_32, kl_33, kl_35, kl_37, kl_38, kl_39, kl_40, kl_41, kl_42, kl_43, kl_45, kl_47, kl_48, kl_50, kl_57, kl_59, kl_60, kl_61, kl_62, kl_63, kl_64, kl_97, kl_98, kl_99, kl_100, kl_101, kl_102, kl_103, kl_104, kl_105, kl_106, kl_107, kl_108, kl_109, kl_110, kl_111, kl_112, kl_113, kl_114, kl_115, kl_120, kl_124, kl_126, kl_127, kl_255, kl_720, kl_2048, kl_252645135, kl_858993459, kl_1431655765, kl_1640531535, kl_2000000000, e1])
            rfl
        | with_reducible apply wp_so
      exact ⟨R, S1, q2, q3, q4, q5, f1, q7.trans h2, by rw [if_pos rfl, if_pos rfl, if_neg hc], fun e => absurd e (by omega)⟩
  · rw [if_neg ho] at h5
    subst h5
    by_cases hc : x7 ≤ R
    · unfold f_X3_outcome_160 f_X3_outcome_209 f_X3_outcome_225
      repeat' first
        | with_reducible apply wp_bd
          · (try simp (disch := omega) only [bi, Int.add_zero, Int.zero_add, true_or, or_true, true_and, and_true, not_false_eq_true, not_true_eq_false, if_true, if_false, if_pos, if_neg, ki_add, ki_sub, ki_mul, ki_neg, ki_lt, ki_le, ki_eq, ki_cl, ki_div, ki_ite, ck5, kl_0, kl_1, kl_2, kl_3, kl_4, kl_5, kl_6, kl_7, kl_8, kl_9, kl_10, kl_11, kl_12, kl_13, kl_14, kl_16, kl_20, kl_21, kl_30, kl_31, kl_32, kl_33, kl_35, kl_37, kl_38, kl_39, kl_40, kl_41, kl_42, kl_43, kl_45, kl_47, kl_48, kl_50, kl_57, kl_59, kl_60, kl_61, kl_62, kl_63, kl_64, kl_97, kl_98, kl_99, kl_100, kl_101, kl_102, kl_103, kl_104, kl_105, kl_106, kl_107, kl_108, kl_109, kl_110, kl_111, kl_112, kl_113, kl_114, kl_115, kl_120, kl_124, kl_126, kl_127, kl_255, kl_720, kl_2048, kl_252645135, kl_858993459, kl_1431655765, kl_1640531535, kl_2000000000, e1])
            rfl
        | with_reducible apply wp_in
          · (try simp (disch := omega) only [bi, Int.add_zero, Int.zero_add, true_or, or_true, true_and, and_true, not_false_eq_true, not_true_eq_false, if_true, if_false, if_pos, if_neg, ki_add, ki_sub, ki_mul, ki_neg, ki_lt, ki_le, ki_eq, ki_cl, ki_div, ki_ite, ck5, kl_0, kl_1, kl_2, kl_3, kl_4, kl_5, kl_6, kl_7, kl_8, kl_9, kl_10, kl_11, kl_12, kl_13, kl_14, kl_16, kl_20, kl_21, kl_30, kl_31, kl_32, kl_33, kl_35, kl_37, kl_38, kl_39, kl_40, kl_41, kl_42, kl_43, kl_45, kl_47, kl_48, kl_50, kl_57, kl_59, kl_60, kl_61, kl_62, kl_63, kl_64, kl_97, kl_98, kl_99, kl_100, kl_101, kl_102, kl_103, kl_104, kl_105, kl_106, kl_107, kl_108, kl_109, kl_110, kl_111, kl_112, kl_113, kl_114, kl_115, kl_120, kl_124, kl_126, kl_127, kl_255, kl_720, kl_2048, kl_252645135, kl_858993459, kl_1431655765, kl_1640531535, kl_2000000000, e1])
            rfl
          · decide
          · omega
          · omega
        | with_reducible apply wp_gd
          · (try simp (disch := omega) only [bi, Int.add_zero, Int.zero_add, true_or, or_true, true_and, and_true, not_false_eq_true, not_true_eq_false, if_true, if_false, if_pos, if_neg, ki_add, ki_sub, ki_mul, ki_neg, ki_lt, ki_le, ki_eq, ki_cl, ki_div, ki_ite, ck5, kl_0, kl_1, kl_2, kl_3, kl_4, kl_5, kl_6, kl_7, kl_8, kl_9, kl_10, kl_11, kl_12, kl_13, kl_14, kl_16, kl_20, kl_21, kl_30, kl_31, kl_32, kl_33, kl_35, kl_37, kl_38, kl_39, kl_40, kl_41, kl_42, kl_43, kl_45, kl_47, kl_48, kl_50, kl_57, kl_59, kl_60, kl_61, kl_62, kl_63, kl_64, kl_97, kl_98, kl_99, kl_100, kl_101, kl_102, kl_103, kl_104, kl_105, kl_106, kl_107, kl_108, kl_109, kl_110, kl_111, kl_112, kl_113, kl_114, kl_115, kl_120, kl_124, kl_126, kl_127, kl_255, kl_720, kl_2048, kl_252645135, kl_858993459, kl_1431655765, kl_1640531535, kl_2000000000, e1])
            rfl
          · first | exact True.intro | omega | assumption
        | with_reducible apply wp_is
          · (try simp (disch := omega) only [bi, Int.add_zero, Int.zero_add, true_or, or_true, true_and, and_true, not_false_eq_true, not_true_eq_false, if_true, if_false, if_pos, if_neg, ki_add, ki_sub, ki_mul, ki_neg, ki_lt, ki_le, ki_eq, ki_cl, ki_div, ki_ite, ck5, kl_0, kl_1, kl_2, kl_3, kl_4, kl_5, kl_6, kl_7, kl_8, kl_9, kl_10, kl_11, kl_12, kl_13, kl_14, kl_16, kl_20, kl_21, kl_30, kl_31, kl_32, kl_33, kl_35, kl_37, kl_38, kl_39, kl_40, kl_41, kl_42, kl_43, kl_45, kl_47, kl_48, kl_50, kl_57, kl_59, kl_60, kl_61, kl_62, kl_63, kl_64, kl_97, kl_98, kl_99, kl_100, kl_101, kl_102, kl_103, kl_104, kl_105, kl_106, kl_107, kl_108, kl_109, kl_110, kl_111, kl_112, kl_113, kl_114, kl_115, kl_120, kl_124, kl_126, kl_127, kl_255, kl_720, kl_2048, kl_252645135, kl_858993459, kl_1431655765, kl_1640531535, kl_2000000000, e1])
            rfl
          all_goals intro _
          all_goals try (exfalso; first | (rename_i q; exact q trivial) | (rename_i q; exact q) | omega)
        | with_reducible apply wp_mr
        | with_reducible apply wp_b
          · simp (disch := omega) only [Int.add_zero, Int.zero_add, true_or, or_true, true_and, and_true, not_false_eq_true, not_true_eq_false, if_true, if_false, if_pos, if_neg, ki_add, ki_sub, ki_mul, ki_neg, ki_lt, ki_le, ki_eq, ki_cl, ki_div, ki_ite, ck5, kl_0, kl_1, kl_2, kl_3, kl_4, kl_5, kl_6, kl_7, kl_8, kl_9, kl_10, kl_11, kl_12, kl_13, kl_14, kl_16, kl_20, kl_21, kl_30, kl_31, kl_32, kl_33, kl_35, kl_37, kl_38, kl_39, kl_40, kl_41, kl_42, kl_43, kl_45, kl_47, kl_48, kl_50, kl_57, kl_59, kl_60, kl_61, kl_62, kl_63, kl_64, kl_97, kl_98, kl_99, kl_100, kl_101, kl_102, kl_103, kl_104, kl_105, kl_106, kl_107, kl_108, kl_109, kl_110, kl_111, kl_112, kl_113, kl_114, kl_115, kl_120, kl_124, kl_126, kl_127, kl_255, kl_720, kl_2048, kl_252645135, kl_858993459, kl_1431655765, kl_1640531535, kl_2000000000, e1]
            rfl
          all_goals intro _
          all_goals try (exfalso; first | (rename_i q; exact q trivial) | (rename_i q; exact q) | omega)
        | with_reducible apply wp_oe
          · simp (disch := omega) only [Int.add_zero, Int.zero_add, true_or, or_true, true_and, and_true, not_false_eq_true, not_true_eq_false, if_true, if_false, if_pos, if_neg, ki_add, ki_sub, ki_mul, ki_neg, ki_lt, ki_le, ki_eq, ki_cl, ki_div, ki_ite, ck5, kl_0, kl_1, kl_2, kl_3, kl_4, kl_5, kl_6, kl_7, kl_8, kl_9, kl_10, kl_11, kl_12, kl_13, kl_14, kl_16, kl_20, kl_21, kl_30, kl_31, kl_32, kl_33, kl_35, kl_37, kl_38, kl_39, kl_40, kl_41, kl_42, kl_43, kl_45, kl_47, kl_48, kl_50, kl_57, kl_59, kl_60, kl_61, kl_62, kl_63, kl_64, kl_97, kl_98, kl_99, kl_100, kl_101, kl_102, kl_103, kl_104, kl_105, kl_106, kl_107, kl_108, kl_109, kl_110, kl_111, kl_112, kl_113, kl_114, kl_115, kl_120, kl_124, kl_126, kl_127, kl_255, kl_720, kl_2048, kl_252645135, kl_858993459, kl_1431655765, kl_1640531535, kl_2000000000, e1]
            try rfl
        | with_reducible apply wp_sv
          · (try simp (disch := omega) only [bi, Int.add_zero, Int.zero_add, true_or, or_true, true_and, and_true, not_false_eq_true, not_true_eq_false, if_true, if_false, if_pos, if_neg, ki_add, ki_sub, ki_mul, ki_neg, ki_lt, ki_le, ki_eq, ki_cl, ki_div, ki_ite, ck5, kl_0, kl_1, kl_2, kl_3, kl_4, kl_5, kl_6, kl_7, kl_8, kl_9, kl_10, kl_11, kl_12, kl_13, kl_14, kl_16, kl_20, kl_21, kl_30, kl_31, kl_32, kl_33, kl_35, kl_37, kl_38, kl_39, kl_40, kl_41, kl_42, kl_43, kl_45, kl_47, kl_48, kl_50, kl_57, kl_59, kl_60, kl_61, kl_62, kl_63, kl_64, kl_97, kl_98, kl_99, kl_100, kl_101, kl_102, kl_103, kl_104, kl_105, kl_106, kl_107, kl_108, kl_109, kl_110, kl_111, kl_112, kl_113, kl_114, kl_115, kl_120, kl_124, kl_126, kl_127, kl_255, kl_720, kl_2048, kl_252645135, kl_858993459, kl_1431655765, kl_1640531535, kl_2000000000, e1])
            rfl
        | with_reducible apply wp_so
      exact ⟨R, S1, q2, q3, q4, q5, f1, q7.trans h2, by rw [if_neg (by omega), if_neg (by omega), if_pos hc], fun e => by rw [if_pos hc]; exact r9⟩
    · by_cases hz : k = 0
      · subst hz
        unfold f_X3_outcome_160 f_X3_outcome_203 f_X3_outcome_225
        repeat' first
          | with_reducible apply wp_bd
            · (try simp (disch := omega) only [bi, Int.add_zero, Int.zero_add, true_or, or_true, true_and, and_true, not_false_eq_true, not_true_eq_false, if_true, if_false, if_pos, if_neg, ki_add, ki_sub, ki_mul, ki_neg, ki_lt, ki_le, ki_eq, ki_cl, ki_div, ki_ite, ck5, kl_0, kl_1, kl_2, kl_3, kl_4, kl_5, kl_6, kl_7, kl_8, kl_9, kl_10, kl_11, kl_12, kl_13, kl_14, kl_16, kl_20, kl_21, kl_30, kl_31, kl_32, kl_33, kl_35, kl_37, kl_38, kl_39, kl_40, kl_41, kl_42, kl_43, kl_45, kl_47, kl_48, kl_50, kl_57, kl_59, kl_60, kl_61, kl_62, kl_63, kl_64, kl_97, kl_98, kl_99, kl_100, kl_101, kl_102, kl_103, kl_104, kl_105, kl_106, kl_107, kl_108, kl_109, kl_110, kl_111, kl_112, kl_113, kl_114, kl_115, kl_120, kl_124, kl_126, kl_127, kl_255, kl_720, kl_2048, kl_252645135, kl_858993459, kl_1431655765, kl_1640531535, kl_2000000000, e1])
              rfl
          | with_reducible apply wp_in
            · (try simp (disch := omega) only [bi, Int.add_zero, Int.zero_add, true_or, or_true, true_and, and_true, not_false_eq_true, not_true_eq_false, if_true, if_false, if_pos, if_neg, ki_add, ki_sub, ki_mul, ki_neg, ki_lt, ki_le, ki_eq, ki_cl, ki_div, ki_ite, ck5, kl_0, kl_1, kl_2, kl_3, kl_4, kl_5, kl_6, kl_7, kl_8, kl_9, kl_10, kl_11, kl_12, kl_13, kl_14, kl_16, kl_20, kl_21, kl_30, kl_31, kl_32, kl_33, kl_35, kl_37, kl_38, kl_39, kl_40, kl_41, kl_42, kl_43, kl_45, kl_47, kl_48, kl_50, kl_57, kl_59, kl_60, kl_61, kl_62, kl_63, kl_64, kl_97, kl_98, kl_99, kl_100, kl_101, kl_102, kl_103, kl_104, kl_105, kl_106, kl_107, kl_108, kl_109, kl_110, kl_111, kl_112, kl_113, kl_114, kl_115, kl_120, kl_124, kl_126, kl_127, kl_255, kl_720, kl_2048, kl_252645135, kl_858993459, kl_1431655765, kl_1640531535, kl_2000000000, e1])
              rfl
            · decide
            · omega
            · omega
          | with_reducible apply wp_gd
            · (try simp (disch := omega) only [bi, Int.add_zero, Int.zero_add, true_or, or_true, true_and, and_true, not_false_eq_true, not_true_eq_false, if_true, if_false, if_pos, if_neg, ki_add, ki_sub, ki_mul, ki_neg, ki_lt, ki_le, ki_eq, ki_cl, ki_div, ki_ite, ck5, kl_0, kl_1, kl_2, kl_3, kl_4, kl_5, kl_6, kl_7, kl_8, kl_9, kl_10, kl_11, kl_12, kl_13, kl_14, kl_16, kl_20, kl_21, kl_30, kl_31, kl_32, kl_33, kl_35, kl_37, kl_38, kl_39, kl_40, kl_41, kl_42, kl_43, kl_45, kl_47, kl_48, kl_50, kl_57, kl_59, kl_60, kl_61, kl_62, kl_63, kl_64, kl_97, kl_98, kl_99, kl_100, kl_101, kl_102, kl_103, kl_104, kl_105, kl_106, kl_107, kl_108, kl_109, kl_110, kl_111, kl_112, kl_113, kl_114, kl_115, kl_120, kl_124, kl_126, kl_127, kl_255, kl_720, kl_2048, kl_252645135, kl_858993459, kl_1431655765, kl_1640531535, kl_2000000000, e1])
              rfl
            · first | exact True.intro | omega | assumption
          | with_reducible apply wp_is
            · (try simp (disch := omega) only [bi, Int.add_zero, Int.zero_add, true_or, or_true, true_and, and_true, not_false_eq_true, not_true_eq_false, if_true, if_false, if_pos, if_neg, ki_add, ki_sub, ki_mul, ki_neg, ki_lt, ki_le, ki_eq, ki_cl, ki_div, ki_ite, ck5, kl_0, kl_1, kl_2, kl_3, kl_4, kl_5, kl_6, kl_7, kl_8, kl_9, kl_10, kl_11, kl_12, kl_13, kl_14, kl_16, kl_20, kl_21, kl_30, kl_31, kl_32, kl_33, kl_35, kl_37, kl_38, kl_39, kl_40, kl_41, kl_42, kl_43, kl_45, kl_47, kl_48, kl_50, kl_57, kl_59, kl_60, kl_61, kl_62, kl_63, kl_64, kl_97, kl_98, kl_99, kl_100, kl_101, kl_102, kl_103, kl_104, kl_105, kl_106, kl_107, kl_108, kl_109, kl_110, kl_111, kl_112, kl_113, kl_114, kl_115, kl_120, kl_124, kl_126, kl_127, kl_255, kl_720, kl_2048, kl_252645135, kl_858993459, kl_1431655765, kl_1640531535, kl_2000000000, e1])
              rfl
            all_goals intro _
            all_goals try (exfalso; first | (rename_i q; exact q trivial) | (rename_i q; exact q) | omega)
          | with_reducible apply wp_mr
          | with_reducible apply wp_b
            · simp (disch := omega) only [Int.add_zero, Int.zero_add, true_or, or_true, true_and, and_true, not_false_eq_true, not_true_eq_false, if_true, if_false, if_pos, if_neg, ki_add, ki_sub, ki_mul, ki_neg, ki_lt, ki_le, ki_eq, ki_cl, ki_div, ki_ite, ck5, kl_0, kl_1, kl_2, kl_3, kl_4, kl_5, kl_6, kl_7, kl_8, kl_9, kl_10, kl_11, kl_12, kl_13, kl_14, kl_16, kl_20, kl_21, kl_30, kl_31, kl_32, kl_33, kl_35, kl_37, kl_38, kl_39, kl_40, kl_41, kl_42, kl_43, kl_45, kl_47, kl_48, kl_50, kl_57, kl_59, kl_60, kl_61, kl_62, kl_63, kl_64, kl_97, kl_98, kl_99, kl_100, kl_101, kl_102, kl_103, kl_104, kl_105, kl_106, kl_107, kl_108, kl_109, kl_110, kl_111, kl_112, kl_113, kl_114, kl_115, kl_120, kl_124, kl_126, kl_127, kl_255, kl_720, kl_2048, kl_252645135, kl_858993459, kl_1431655765, kl_1640531535, kl_2000000000, e1]
              rfl
            all_goals intro _
            all_goals try (exfalso; first | (rename_i q; exact q trivial) | (rename_i q; exact q) | omega)
          | with_reducible apply wp_oe
            · simp (disch := omega) only [Int.add_zero, Int.zero_add, true_or, or_true, true_and, and_true, not_false_eq_true, not_true_eq_false, if_true, if_false, if_pos, if_neg, ki_add, ki_sub, ki_mul, ki_neg, ki_lt, ki_le, ki_eq, ki_cl, ki_div, ki_ite, ck5, kl_0, kl_1, kl_2, kl_3, kl_4, kl_5, kl_6, kl_7, kl_8, kl_9, kl_10, kl_11, kl_12, kl_13, kl_14, kl_16, kl_20, kl_21, kl_30, kl_31, kl_32, kl_33, kl_35, kl_37, kl_38, kl_39, kl_40, kl_41, kl_42, kl_43, kl_45, kl_47, kl_48, kl_50, kl_57, kl_59, kl_60, kl_61, kl_62, kl_63, kl_64, kl_97, kl_98, kl_99, kl_100, kl_101, kl_102, kl_103, kl_104, kl_105, kl_106, kl_107, kl_108, kl_109, kl_110, kl_111, kl_112, kl_113, kl_114, kl_115, kl_120, kl_124, kl_126, kl_127, kl_255, kl_720, kl_2048, kl_252645135, kl_858993459, kl_1431655765, kl_1640531535, kl_2000000000, e1]
              try rfl
          | with_reducible apply wp_sv
            · (try simp (disch := omega) only [bi, Int.add_zero, Int.zero_add, true_or, or_true, true_and, and_true, not_false_eq_true, not_true_eq_false, if_true, if_false, if_pos, if_neg, ki_add, ki_sub, ki_mul, ki_neg, ki_lt, ki_le, ki_eq, ki_cl, ki_div, ki_ite, ck5, kl_0, kl_1, kl_2, kl_3, kl_4, kl_5, kl_6, kl_7, kl_8, kl_9, kl_10, kl_11, kl_12, kl_13, kl_14, kl_16, kl_20, kl_21, kl_30, kl_31, kl_32, kl_33, kl_35, kl_37, kl_38, kl_39, kl_40, kl_41, kl_42, kl_43, kl_45, kl_47, kl_48, kl_50, kl_57, kl_59, kl_60, kl_61, kl_62, kl_63, kl_64, kl_97, kl_98, kl_99, kl_100, kl_101, kl_102, kl_103, kl_104, kl_105, kl_106, kl_107, kl_108, kl_109, kl_110, kl_111, kl_112, kl_113, kl_114, kl_115, kl_120, kl_124, kl_126, kl_127, kl_255, kl_720, kl_2048, kl_252645135, kl_858993459, kl_1431655765, kl_1640531535, kl_2000000000, e1])
              rfl
          | with_reducible apply wp_so
        refine ⟨R, xsi S1 93 5 (ki c), q2, q3, q4, lawX_c q5 (by omega), eq_tr f1 (eq_i (Or.inr ⟨rfl, rfl, rfl⟩)), q7.trans h2, by rw [if_neg (by omega), if_neg (by omega), if_neg hc], fun e => ?_⟩
        rw [if_neg hc, xsi_r, if_pos ⟨rfl, rfl⟩]
      · unfold f_X3_outcome_160 f_X3_outcome_203 f_X3_outcome_225
        repeat' first
          | with_reducible apply wp_bd
            · (try simp (disch := omega) only [bi, Int.add_zero, Int.zero_add, true_or, or_true, true_and, and_true, not_false_eq_true, not_true_eq_false, if_true, if_false, if_pos, if_neg, ki_add, ki_sub, ki_mul, ki_neg, ki_lt, ki_le, ki_eq, ki_cl, ki_div, ki_ite, ck5, kl_0, kl_1, kl_2, kl_3, kl_4, kl_5, kl_6, kl_7, kl_8, kl_9, kl_10, kl_11, kl_12, kl_13, kl_14, kl_16, kl_20, kl_21, kl_30, kl_31, kl_32, kl_33, kl_35, kl_37, kl_38, kl_39, kl_40, kl_41, kl_42, kl_43, kl_45, kl_47, kl_48, kl_50, kl_57, kl_59, kl_60, kl_61, kl_62, kl_63, kl_64, kl_97, kl_98, kl_99, kl_100, kl_101, kl_102, kl_103, kl_104, kl_105, kl_106, kl_107, kl_108, kl_109, kl_110, kl_111, kl_112, kl_113, kl_114, kl_115, kl_120, kl_124, kl_126, kl_127, kl_255, kl_720, kl_2048, kl_252645135, kl_858993459, kl_1431655765, kl_1640531535, kl_2000000000, e1])
              rfl
          | with_reducible apply wp_in
            · (try simp (disch := omega) only [bi, Int.add_zero, Int.zero_add, true_or, or_true, true_and, and_true, not_false_eq_true, not_true_eq_false, if_true, if_false, if_pos, if_neg, ki_add, ki_sub, ki_mul, ki_neg, ki_lt, ki_le, ki_eq, ki_cl, ki_div, ki_ite, ck5, kl_0, kl_1, kl_2, kl_3, kl_4, kl_5, kl_6, kl_7, kl_8, kl_9, kl_10, kl_11, kl_12, kl_13, kl_14, kl_16, kl_20, kl_21, kl_30, kl_31, kl_32, kl_33, kl_35, kl_37, kl_38, kl_39, kl_40, kl_41, kl_42, kl_43, kl_45, kl_47, kl_48, kl_50, kl_57, kl_59, kl_60, kl_61, kl_62, kl_63, kl_64, kl_97, kl_98, kl_99, kl_100, kl_101, kl_102, kl_103, kl_104, kl_105, kl_106, kl_107, kl_108, kl_109, kl_110, kl_111, kl_112, kl_113, kl_114, kl_115, kl_120, kl_124, kl_126, kl_127, kl_255, kl_720, kl_2048, kl_252645135, kl_858993459, kl_1431655765, kl_1640531535, kl_2000000000, e1])
              rfl
            · decide
            · omega
            · omega
          | with_reducible apply wp_gd
            · (try simp (disch := omega) only [bi, Int.add_zero, Int.zero_add, true_or, or_true, true_and, and_true, not_false_eq_true, not_true_eq_false, if_true, if_false, if_pos, if_neg, ki_add, ki_sub, ki_mul, ki_neg, ki_lt, ki_le, ki_eq, ki_cl, ki_div, ki_ite, ck5, kl_0, kl_1, kl_2, kl_3, kl_4, kl_5, kl_6, kl_7, kl_8, kl_9, kl_10, kl_11, kl_12, kl_13, kl_14, kl_16, kl_20, kl_21, kl_30, kl_31, kl_32, kl_33, kl_35, kl_37, kl_38, kl_39, kl_40, kl_41, kl_42, kl_43, kl_45, kl_47, kl_48, kl_50, kl_57, kl_59, kl_60, kl_61, kl_62, kl_63, kl_64, kl_97, kl_98, kl_99, kl_100, kl_101, kl_102, kl_103, kl_104, kl_105, kl_106, kl_107, kl_108, kl_109, kl_110, kl_111, kl_112, kl_113, kl_114, kl_115, kl_120, kl_124, kl_126, kl_127, kl_255, kl_720, kl_2048, kl_252645135, kl_858993459, kl_1431655765, kl_1640531535, kl_2000000000, e1])
              rfl
            · first | exact True.intro | omega | assumption
          | with_reducible apply wp_is
            · (try simp (disch := omega) only [bi, Int.add_zero, Int.zero_add, true_or, or_true, true_and, and_true, not_false_eq_true, not_true_eq_false, if_true, if_false, if_pos, if_neg, ki_add, ki_sub, ki_mul, ki_neg, ki_lt, ki_le, ki_eq, ki_cl, ki_div, ki_ite, ck5, kl_0, kl_1, kl_2, kl_3, kl_4, kl_5, kl_6, kl_7, kl_8, kl_9, kl_10, kl_11, kl_12, kl_13, kl_14, kl_16, kl_20, kl_21, kl_30, kl_31, kl_32, kl_33, kl_35, kl_37, kl_38, kl_39, kl_40, kl_41, kl_42, kl_43, kl_45, kl_47, kl_48, kl_50, kl_57, kl_59, kl_60, kl_61, kl_62, kl_63, kl_64, kl_97, kl_98, kl_99, kl_100, kl_101, kl_102, kl_103, kl_104, kl_105, kl_106, kl_107, kl_108, kl_109, kl_110, kl_111, kl_112, kl_113, kl_114, kl_115, kl_120, kl_124, kl_126, kl_127, kl_255, kl_720, kl_2048, kl_252645135, kl_858993459, kl_1431655765, kl_1640531535, kl_2000000000, e1])
              rfl
            all_goals intro _
            all_goals try (exfalso; first | (rename_i q; exact q trivial) | (rename_i q; exact q) | omega)
          | with_reducible apply wp_mr
          | with_reducible apply wp_b
            · simp (disch := omega) only [Int.add_zero, Int.zero_add, true_or, or_true, true_and, and_true, not_false_eq_true, not_true_eq_false, if_true, if_false, if_pos, if_neg, ki_add, ki_sub, ki_mul, ki_neg, ki_lt, ki_le, ki_eq, ki_cl, ki_div, ki_ite, ck5, kl_0, kl_1, kl_2, kl_3, kl_4, kl_5, kl_6, kl_7, kl_8, kl_9, kl_10, kl_11, kl_12, kl_13, kl_14, kl_16, kl_20, kl_21, kl_30, kl_31, kl_32, kl_33, kl_35, kl_37, kl_38, kl_39, kl_40, kl_41, kl_42, kl_43, kl_45, kl_47, kl_48, kl_50, kl_57, kl_59, kl_60, kl_61, kl_62, kl_63, kl_64, kl_97, kl_98, kl_99, kl_100, kl_101, kl_102, kl_103, kl_104, kl_105, kl_106, kl_107, kl_108, kl_109, kl_110, kl_111, kl_112, kl_113, kl_114, kl_115, kl_120, kl_124, kl_126, kl_127, kl_255, kl_720, kl_2048, kl_252645135, kl_858993459, kl_1431655765, kl_1640531535, kl_2000000000, e1]
              rfl
            all_goals intro _
            all_goals try (exfalso; first | (rename_i q; exact q trivial) | (rename_i q; exact q) | omega)
          | with_reducible apply wp_oe
            · simp (disch := omega) only [Int.add_zero, Int.zero_add, true_or, or_true, true_and, and_true, not_false_eq_true, not_true_eq_false, if_true, if_false, if_pos, if_neg, ki_add, ki_sub, ki_mul, ki_neg, ki_lt, ki_le, ki_eq, ki_cl, ki_div, ki_ite, ck5, kl_0, kl_1, kl_2, kl_3, kl_4, kl_5, kl_6, kl_7, kl_8, kl_9, kl_10, kl_11, kl_12, kl_13, kl_14, kl_16, kl_20, kl_21, kl_30, kl_31, kl_32, kl_33, kl_35, kl_37, kl_38, kl_39, kl_40, kl_41, kl_42, kl_43, kl_45, kl_47, kl_48, kl_50, kl_57, kl_59, kl_60, kl_61, kl_62, kl_63, kl_64, kl_97, kl_98, kl_99, kl_100, kl_101, kl_102, kl_103, kl_104, kl_105, kl_106, kl_107, kl_108, kl_109, kl_110, kl_111, kl_112, kl_113, kl_114, kl_115, kl_120, kl_124, kl_126, kl_127, kl_255, kl_720, kl_2048, kl_252645135, kl_858993459, kl_1431655765, kl_1640531535, kl_2000000000, e1]
              try rfl
          | with_reducible apply wp_sv
            · (try simp (disch := omega) only [bi, Int.add_zero, Int.zero_add, true_or, or_true, true_and, and_true, not_false_eq_true, not_true_eq_false, if_true, if_false, if_pos, if_neg, ki_add, ki_sub, ki_mul, ki_neg, ki_lt, ki_le, ki_eq, ki_cl, ki_div, ki_ite, ck5, kl_0, kl_1, kl_2, kl_3, kl_4, kl_5, kl_6, kl_7, kl_8, kl_9, kl_10, kl_11, kl_12, kl_13, kl_14, kl_16, kl_20, kl_21, kl_30, kl_31, kl_32, kl_33, kl_35, kl_37, kl_38, kl_39, kl_40, kl_41, kl_42, kl_43, kl_45, kl_47, kl_48, kl_50, kl_57, kl_59, kl_60, kl_61, kl_62, kl_63, kl_64, kl_97, kl_98, kl_99, kl_100, kl_101, kl_102, kl_103, kl_104, kl_105, kl_106, kl_107, kl_108, kl_109, kl_110, kl_111, kl_112, kl_113, kl_114, kl_115, kl_120, kl_124, kl_126, kl_127, kl_255, kl_720, kl_2048, kl_252645135, kl_858993459, kl_1431655765, kl_1640531535, kl_2000000000, e1])
              rfl
          | with_reducible apply wp_so
        refine ⟨R, xsi S1 93 5 (S1.1 93 5), q2, q3, q4, lawX_c q5 (by omega), eq_tr f1 (fun k' j' hq => ?_), q7.trans h2, by rw [if_neg (by omega), if_neg (by omega), if_neg hc], fun e => absurd e hz⟩
        rw [xsi_r]
        by_cases e : k' = 93 ∧ j' = 5
        · rw [if_pos e, e.1, e.2]
        · rw [if_neg e]
theorem x_deed {η : Hy} {gn : (Int → Int) → Int} {S : xSt} {N n r k : Nat} {x5 x6 x7 x8 c : Int} {g : xSt → Int32 → Int32 → Int32 → Option (xSt × Int32)} (hk : k < 3) (hw : wf η) (h : hx (46 + 10 * k) η S) (hl : lawX gn S) (e2 : S.1 93 2 = ki N) (e3 : S.1 93 3 = ki n) (h5 : x5 = if k % 2 = 1 then 0 else 1) (c0 : 0 ≤ c) (c1 : c ≤ 6) (x80 : 0 ≤ x8) (x81 : x8 ≤ 6) (a0 : -1 ≤ x6) (a1 : x6 < x7) (a2 : x7 ≤ 100)
    (hg : ∀ (S' : xSt) (η' : Hy), wf η' → hx (46 + 10 * (k + 1)) η' S' → lawX gn S' → S'.1 93 2 = ki N → S'.1 93 3 = ki n → wp (g S' (ki ((k : Int) + 1)) (ki x6) (ki x7)) (nodeP gn n r (k + 1) η' x6 x7 S')) :
    wp (f_X3_outcome_99 g (ki k) (46 + 10 * k) (ki x5) (ki x6) (ki x7) (ki x8) (ki c) S) (fun q => ∃ (R : Int) (S' : xSt), -2 ≤ R ∧ R ≤ 100 ∧ okAB x6 x7 (bst gn n r (k + 1) (deS k c η)) R ∧ lawX gn S' ∧ eq_ (qV k) S S' ∧ S'.2 = S.2 ∧ q = .inl (S', ki (if x5 = 0 then (if R ≤ x6 then x6 else R) else x6), ki (if x5 = 0 then x7 else (if x7 ≤ R then x7 else R)), ki (x8 + 1)) ∧ (k = 0 → S'.1 93 5 = if x7 ≤ R then S.1 93 5 else ki c)) := by
  have kt : (ki ((k : Int) + 1)).toNatClampNeg = k + 1 := by rw [ki_cl (by omega) (by omega)]; omega
  obtain ⟨⟨S1, u1⟩, e1, p1, p2⟩ := x_take (o := 46 + 10 * (k + 1)) (o1 := 46 + 10 * k) h (by omega)
  dsimp only at p1 p2
  have f1 : eq_ (qV k) S S1 := eq_f p2 (fun k' j hk' => Or.inl (pV_H rfl (by omega) hk'))
  have t2 : S1.1 93 2 = ki N := by rw [p2.2 93 (by unfold pH; omega)]; exact e2
  have t3 : S1.1 93 3 = ki n := by rw [p2.2 93 (by unfold pH; omega)]; exact e3
  have t5 : S1.1 93 5 = S.1 93 5 := by rw [p2.2 93 (by unfold pH; omega)]
  have l1 : lawX gn S1 := lawX_f hl p2 (fun q hq => by unfold pH at hq; omega)
  by_cases e6 : c = 6
  · have ed : deS k c η = η := by unfold deS; rw [if_pos e6]
    have fin := x_after (x5 := x5) (x8 := x8) (r4 := 46 + 10 * k) hk h5 c0 c1 x80 x81 a0 a1 a2 f1 p2.1 t5 (by rw [ed]; exact hg S1 η hw p1 l1 t2 t3)
    subst e6
    unfold f_X3_outcome_99 f_X3_outcome_140
    repeat' first
      | with_reducible apply wp_bd
        · (try simp (disch := omega) only [bi, Int.add_zero, Int.zero_add, true_or, or_true, true_and, and_true, not_false_eq_true, not_true_eq_false, if_true, if_false, if_pos, if_neg, ki_add, ki_sub, ki_mul, ki_neg, ki_lt, ki_le, ki_eq, ki_cl, ki_div, ki_ite, ck5, kl_0, kl_1, kl_2, kl_3, kl_4, kl_5, kl_6, kl_7, kl_8, kl_9, kl_10, kl_11, kl_12, kl_13, kl_14, kl_16, kl_20, kl_21, kl_30, kl_31, kl_32, kl_33, kl_35, kl_37, kl_38, kl_39, kl_40, kl_41, kl_42, kl_43, kl_45, kl_47, kl_48, kl_50, kl_57, kl_59, kl_60, kl_61, kl_62, kl_63, kl_64, kl_97, kl_98, kl_99, kl_100, kl_101, kl_102, kl_103, kl_104, kl_105, kl_106, kl_107, kl_108, kl_109, kl_110, kl_111, kl_112, kl_113, kl_114, kl_115, kl_120, kl_124, kl_126, kl_127, kl_255, kl_720, kl_2048, kl_252645135, kl_858993459, kl_1431655765, kl_1640531535, kl_2000000000, kt, e1])
          rfl
      | with_reducible apply wp_in
        · (try simp (disch := omega) only [bi, Int.add_zero, Int.zero_add, true_or, or_true, true_and, and_true, not_false_eq_true, not_true_eq_false, if_true, if_false, if_pos, if_neg, ki_add, ki_sub, ki_mul, ki_neg, ki_lt, ki_le, ki_eq, ki_cl, ki_div, ki_ite, ck5, kl_0, kl_1, kl_2, kl_3, kl_4, kl_5, kl_6, kl_7, kl_8, kl_9, kl_10, kl_11, kl_12, kl_13, kl_14, kl_16, kl_20, kl_21, kl_30, kl_31, kl_32, kl_33, kl_35, kl_37, kl_38, kl_39, kl_40, kl_41, kl_42, kl_43, kl_45, kl_47, kl_48, kl_50, kl_57, kl_59, kl_60, kl_61, kl_62, kl_63, kl_64, kl_97, kl_98, kl_99, kl_100, kl_101, kl_102, kl_103, kl_104, kl_105, kl_106, kl_107, kl_108, kl_109, kl_110, kl_111, kl_112, kl_113, kl_114, kl_115, kl_120, kl_124, kl_126, kl_127, kl_255, kl_720, kl_2048, kl_252645135, kl_858993459, kl_1431655765, kl_1640531535, kl_2000000000, kt, e1])
          rfl
        · decide
        · omega
        · omega
      | with_reducible apply wp_gd
        · (try simp (disch := omega) only [bi, Int.add_zero, Int.zero_add, true_or, or_true, true_and, and_true, not_false_eq_true, not_true_eq_false, if_true, if_false, if_pos, if_neg, ki_add, ki_sub, ki_mul, ki_neg, ki_lt, ki_le, ki_eq, ki_cl, ki_div, ki_ite, ck5, kl_0, kl_1, kl_2, kl_3, kl_4, kl_5, kl_6, kl_7, kl_8, kl_9, kl_10, kl_11, kl_12, kl_13, kl_14, kl_16, kl_20, kl_21, kl_30, kl_31, kl_32, kl_33, kl_35, kl_37, kl_38, kl_39, kl_40, kl_41, kl_42, kl_43, kl_45, kl_47, kl_48, kl_50, kl_57, kl_59, kl_60, kl_61, kl_62, kl_63, kl_64, kl_97, kl_98, kl_99, kl_100, kl_101, kl_102, kl_103, kl_104, kl_105, kl_106, kl_107, kl_108, kl_109, kl_110, kl_111, kl_112, kl_113, kl_114, kl_115, kl_120, kl_124, kl_126, kl_127, kl_255, kl_720, kl_2048, kl_252645135, kl_858993459, kl_1431655765, kl_1640531535, kl_2000000000, kt, e1])
          rfl
        · first | exact True.intro | omega | assumption
      | with_reducible apply wp_is
        · (try simp (disch := omega) only [bi, Int.add_zero, Int.zero_add, true_or, or_true, true_and, and_true, not_false_eq_true, not_true_eq_false, if_true, if_false, if_pos, if_neg, ki_add, ki_sub, ki_mul, ki_neg, ki_lt, ki_le, ki_eq, ki_cl, ki_div, ki_ite, ck5, kl_0, kl_1, kl_2, kl_3, kl_4, kl_5, kl_6, kl_7, kl_8, kl_9, kl_10, kl_11, kl_12, kl_13, kl_14, kl_16, kl_20, kl_21, kl_30, kl_31, kl_32, kl_33, kl_35, kl_37, kl_38, kl_39, kl_40, kl_41, kl_42, kl_43, kl_45, kl_47, kl_48, kl_50, kl_57, kl_59, kl_60, kl_61, kl_62, kl_63, kl_64, kl_97, kl_98, kl_99, kl_100, kl_101, kl_102, kl_103, kl_104, kl_105, kl_106, kl_107, kl_108, kl_109, kl_110, kl_111, kl_112, kl_113, kl_114, kl_115, kl_120, kl_124, kl_126, kl_127, kl_255, kl_720, kl_2048, kl_252645135, kl_858993459, kl_1431655765, kl_1640531535, kl_2000000000, kt, e1])
          rfl
        all_goals intro _
        all_goals try (exfalso; first | (rename_i q; exact q trivial) | (rename_i q; exact q) | omega)
      | with_reducible apply wp_mr
      | with_reducible apply wp_b
        · simp (disch := omega) only [Int.add_zero, Int.zero_add, true_or, or_true, true_and, and_true, not_false_eq_true, not_true_eq_false, if_true, if_false, if_pos, if_neg, ki_add, ki_sub, ki_mul, ki_neg, ki_lt, ki_le, ki_eq, ki_cl, ki_div, ki_ite, ck5, kl_0, kl_1, kl_2, kl_3, kl_4, kl_5, kl_6, kl_7, kl_8, kl_9, kl_10, kl_11, kl_12, kl_13, kl_14, kl_16, kl_20, kl_21, kl_30, kl_31, kl_32, kl_33, kl_35, kl_37, kl_38, kl_39, kl_40, kl_41, kl_42, kl_43, kl_45, kl_47, kl_48, kl_50, kl_57, kl_59, kl_60, kl_61, kl_62, kl_63, kl_64, kl_97, kl_98, kl_99, kl_100, kl_101, kl_102, kl_103, kl_104, kl_105, kl_106, kl_107, kl_108, kl_109, kl_110, kl_111, kl_112, kl_113, kl_114, kl_115, kl_120, kl_124, kl_126, kl_127, kl_255, kl_720, kl_2048, kl_252645135, kl_858993459, kl_1431655765, kl_1640531535, kl_2000000000, kt, e1]
          rfl
        all_goals intro _
        all_goals try (exfalso; first | (rename_i q; exact q trivial) | (rename_i q; exact q) | omega)
      | with_reducible apply wp_oe
        · simp (disch := omega) only [Int.add_zero, Int.zero_add, true_or, or_true, true_and, and_true, not_false_eq_true, not_true_eq_false, if_true, if_false, if_pos, if_neg, ki_add, ki_sub, ki_mul, ki_neg, ki_lt, ki_le, ki_eq, ki_cl, ki_div, ki_ite, ck5, kl_0, kl_1, kl_2, kl_3, kl_4, kl_5, kl_6, kl_7, kl_8, kl_9, kl_10, kl_11, kl_12, kl_13, kl_14, kl_16, kl_20, kl_21, kl_30, kl_31, kl_32, kl_33, kl_35, kl_37, kl_38, kl_39, kl_40, kl_41, kl_42, kl_43, kl_45, kl_47, kl_48, kl_50, kl_57, kl_59, kl_60, kl_61, kl_62, kl_63, kl_64, kl_97, kl_98, kl_99, kl_100, kl_101, kl_102, kl_103, kl_104, kl_105, kl_106, kl_107, kl_108, kl_109, kl_110, kl_111, kl_112, kl_113, kl_114, kl_115, kl_120, kl_124, kl_126, kl_127, kl_255, kl_720, kl_2048, kl_252645135, kl_858993459, kl_1431655765, kl_1640531535, kl_2000000000, kt, e1]
          try rfl
      | with_reducible apply wp_sv
        · (try simp (disch := omega) only [bi, Int.add_zero, Int.zero_add, true_or, or_true, true_and, and_true, not_false_eq_true, not_true_eq_false, if_true, if_false, if_pos, if_neg, ki_add, ki_sub, ki_mul, ki_neg, ki_lt, ki_le, ki_eq, ki_cl, ki_div, ki_ite, ck5, kl_0, kl_1, kl_2, kl_3, kl_4, kl_5, kl_6, kl_7, kl_8, kl_9, kl_10, kl_11, kl_12, kl_13, kl_14, kl_16, kl_20, kl_21, kl_30, kl_31, kl_32, kl_33, kl_35, kl_37, kl_38, kl_39, kl_40, kl_41, kl_42, kl_43, kl_45, kl_47, kl_48, kl_50, kl_57, kl_59, kl_60, kl_61, kl_62, kl_63, kl_64, kl_97, kl_98, kl_99, kl_100, kl_101, kl_102, kl_103, kl_104, kl_105, kl_106, kl_107, kl_108, kl_109, kl_110, kl_111, kl_112, kl_113, kl_114, kl_115, kl_120, kl_124, kl_126, kl_127, kl_255, kl_720, kl_2048, kl_252645135, kl_858993459, kl_1431655765, kl_1640531535, kl_2000000000, kt, e1])
          rfl
      | with_reducible apply wp_so
    exact fin
  · by_cases ho : k % 2 = 1
    · have ed : deS k c η = wetS c η := by unfold deS; rw [if_neg e6, if_pos ho]
      obtain ⟨⟨S2, u2⟩, g1, w1, w2⟩ := x_wet p1 hw c0 (by omega : c < 6)
      dsimp only at w1 w2
      have f2 : eq_ (qV k) S S2 := eq_tr f1 (eq_f w2 (fun k' j hk' => Or.inl (pV_H rfl (by omega) hk')))
      have fin := x_after (x5 := x5) (x8 := x8) (r4 := 46 + 10 * k) hk h5 c0 c1 x80 x81 a0 a1 a2 f2 (w2.1.trans p2.1) (by rw [w2.2 93 (by unfold pH; omega)]; exact t5) (by rw [ed]; exact hg S2 _ (wf_wet hw c) w1 (lawX_f l1 w2 (fun q hq => by unfold pH at hq; omega)) (by rw [w2.2 93 (by unfold pH; omega)]; exact t2) (by rw [w2.2 93 (by unfold pH; omega)]; exact t3))
      rw [if_pos ho] at h5
      subst h5
      unfold f_X3_outcome_99 f_X3_outcome_140
      repeat' first
        | with_reducible apply wp_bd
          · (try simp (disch := omega) only [bi, Int.add_zero, Int.zero_add, true_or, or_true, true_and, and_true, not_false_eq_true, not_true_eq_false, if_true, if_false, if_pos, if_neg, ki_add, ki_sub, ki_mul, ki_neg, ki_lt, ki_le, ki_eq, ki_cl, ki_div, ki_ite, ck5, kl_0, kl_1, kl_2, kl_3, kl_4, kl_5, kl_6, kl_7, kl_8, kl_9, kl_10, kl_11, kl_12, kl_13, kl_14, kl_16, kl_20, kl_21, kl_30, kl_31, kl_32, kl_33, kl_35, kl_37, kl_38, kl_39, kl_40, kl_41, kl_42, kl_43, kl_45, kl_47, kl_48, kl_50, kl_57, kl_59, kl_60, kl_61, kl_62, kl_63, kl_64, kl_97, kl_98, kl_99, kl_100, kl_101, kl_102, kl_103, kl_104, kl_105, kl_106, kl_107, kl_108, kl_109, kl_110, kl_111, kl_112, kl_113, kl_114, kl_115, kl_120, kl_124, kl_126, kl_127, kl_255, kl_720, kl_2048, kl_252645135, kl_858993459, kl_1431655765, kl_1640531535, kl_2000000000, kt, e1, g1])
            rfl
        | with_reducible apply wp_in
          · (try simp (disch := omega) only [bi, Int.add_zero, Int.zero_add, true_or, or_true, true_and, and_true, not_false_eq_true, not_true_eq_false, if_true, if_false, if_pos, if_neg, ki_add, ki_sub, ki_mul, ki_neg, ki_lt, ki_le, ki_eq, ki_cl, ki_div, ki_ite, ck5, kl_0, kl_1, kl_2, kl_3, kl_4, kl_5, kl_6, kl_7, kl_8, kl_9, kl_10, kl_11, kl_12, kl_13, kl_14, kl_16, kl_20, kl_21, kl_30, kl_31, kl_32, kl_33, kl_35, kl_37, kl_38, kl_39, kl_40, kl_41, kl_42, kl_43, kl_45, kl_47, kl_48, kl_50, kl_57, kl_59, kl_60, kl_61, kl_62, kl_63, kl_64, kl_97, kl_98, kl_99, kl_100, kl_101, kl_102, kl_103, kl_104, kl_105, kl_106, kl_107, kl_108, kl_109, kl_110, kl_111, kl_112, kl_113, kl_114, kl_115, kl_120, kl_124, kl_126, kl_127, kl_255, kl_720, kl_2048, kl_252645135, kl_858993459, kl_1431655765, kl_1640531535, kl_2000000000, kt, e1, g1])
            rfl
          · decide
          · omega
          · omega
        | with_reducible apply wp_gd
          · (try simp (disch := omega) only [bi, Int.add_zero, Int.zero_add, true_or, or_true, true_and, and_true, not_false_eq_true, not_true_eq_false, if_true, if_false, if_pos, if_neg, ki_add, ki_sub, ki_mul, ki_neg, ki_lt, ki_le, ki_eq, ki_cl, ki_div, ki_ite, ck5, kl_0, kl_1, kl_2, kl_3, kl_4, kl_5, kl_6, kl_7, kl_8, kl_9, kl_10, kl_11, kl_12, kl_13, kl_14, kl_16, kl_20, kl_21, kl_30, kl_31, kl_32, kl_33, kl_35, kl_37, kl_38, kl_39, kl_40, kl_41, kl_42, kl_43, kl_45, kl_47, kl_48, kl_50, kl_57, kl_59, kl_60, kl_61, kl_62, kl_63, kl_64, kl_97, kl_98, kl_99, kl_100, kl_101, kl_102, kl_103, kl_104, kl_105, kl_106, kl_107, kl_108, kl_109, kl_110, kl_111, kl_112, kl_113, kl_114, kl_115, kl_120, kl_124, kl_126, kl_127, kl_255, kl_720, kl_2048, kl_252645135, kl_858993459, kl_1431655765, kl_1640531535, kl_2000000000, kt, e1, g1])
            rfl
          · first | exact True.intro | omega | assumption
        | with_reducible apply wp_is
          · (try simp (disch := omega) only [bi, Int.add_zero, Int.zero_add, true_or, or_true, true_and, and_true, not_false_eq_true, not_true_eq_false, if_true, if_false, if_pos, if_neg, ki_add, ki_sub, ki_mul, ki_neg, ki_lt, ki_le, ki_eq, ki_cl, ki_div, ki_ite, ck5, kl_0, kl_1, kl_2, kl_3, kl_4, kl_5, kl_6, kl_7, kl_8, kl_9, kl_10, kl_11, kl_12, kl_13, kl_14, kl_16, kl_20, kl_21, kl_30, kl_31, kl_32, kl_33, kl_35, kl_37, kl_38, kl_39, kl_40, kl_41, kl_42, kl_43, kl_45, kl_47, kl_48, kl_50, kl_57, kl_59, kl_60, kl_61, kl_62, kl_63, kl_64, kl_97, kl_98, kl_99, kl_100, kl_101, kl_102, kl_103, kl_104, kl_105, kl_106, kl_107, kl_108, kl_109, kl_110, kl_111, kl_112, kl_113, kl_114, kl_115, kl_120, kl_124, kl_126, kl_127, kl_255, kl_720, kl_2048, kl_252645135, kl_858993459, kl_1431655765, kl_1640531535, kl_2000000000, kt, e1, g1])
            rfl
          all_goals intro _
          all_goals try (exfalso; first | (rename_i q; exact q trivial) | (rename_i q; exact q) | omega)
        | with_reducible apply wp_mr
        | with_reducible apply wp_b
          · simp (disch := omega) only [Int.add_zero, Int.zero_add, true_or, or_true, true_and, and_true, not_false_eq_true, not_true_eq_false, if_true, if_false, if_pos, if_neg, ki_add, ki_sub, ki_mul, ki_neg, ki_lt, ki_le, ki_eq, ki_cl, ki_div, ki_ite, ck5, kl_0, kl_1, kl_2, kl_3, kl_4, kl_5, kl_6, kl_7, kl_8, kl_9, kl_10, kl_11, kl_12, kl_13, kl_14, kl_16, kl_20, kl_21, kl_30, kl_31, kl_32, kl_33, kl_35, kl_37, kl_38, kl_39, kl_40, kl_41, kl_42, kl_43, kl_45, kl_47, kl_48, kl_50, kl_57, kl_59, kl_60, kl_61, kl_62, kl_63, kl_64, kl_97, kl_98, kl_99, kl_100, kl_101, kl_102, kl_103, kl_104, kl_105, kl_106, kl_107, kl_108, kl_109, kl_110, kl_111, kl_112, kl_113, kl_114, kl_115, kl_120, kl_124, kl_126, kl_127, kl_255, kl_720, kl_2048, kl_252645135, kl_858993459, kl_1431655765, kl_1640531535, kl_2000000000, kt, e1, g1]
            rfl
          all_goals intro _
          all_goals try (exfalso; first | (rename_i q; exact q trivial) | (rename_i q; exact q) | omega)
        | with_reducible apply wp_oe
          · simp (disch := omega) only [Int.add_zero, Int.zero_add, true_or, or_true, true_and, and_true, not_false_eq_true, not_true_eq_false, if_true, if_false, if_pos, if_neg, ki_add, ki_sub, ki_mul, ki_neg, ki_lt, ki_le, ki_eq, ki_cl, ki_div, ki_ite, ck5, kl_0, kl_1, kl_2, kl_3, kl_4, kl_5, kl_6, kl_7, kl_8, kl_9, kl_10, kl_11, kl_12, kl_13, kl_14, kl_16, kl_20, kl_21, kl_30, kl_31, kl_32, kl_33, kl_35, kl_37, kl_38, kl_39, kl_40, kl_41, kl_42, kl_43, kl_45, kl_47, kl_48, kl_50, kl_57, kl_59, kl_60, kl_61, kl_62, kl_63, kl_64, kl_97, kl_98, kl_99, kl_100, kl_101, kl_102, kl_103, kl_104, kl_105, kl_106, kl_107, kl_108, kl_109, kl_110, kl_111, kl_112, kl_113, kl_114, kl_115, kl_120, kl_124, kl_126, kl_127, kl_255, kl_720, kl_2048, kl_252645135, kl_858993459, kl_1431655765, kl_1640531535, kl_2000000000, kt, e1, g1]
            try rfl
        | with_reducible apply wp_sv
          · (try simp (disch := omega) only [bi, Int.add_zero, Int.zero_add, true_or, or_true, true_and, and_true, not_false_eq_true, not_true_eq_false, if_true, if_false, if_pos, if_neg, ki_add, ki_sub, ki_mul, ki_neg, ki_lt, ki_le, ki_eq, ki_cl, ki_div, ki_ite, ck5, kl_0, kl_1, kl_2, kl_3, kl_4, kl_5, kl_6, kl_7, kl_8, kl_9, kl_10, kl_11, kl_12, kl_13, kl_14, kl_16, kl_20, kl_21, kl_30, kl_31, kl_32, kl_33, kl_35, kl_37, kl_38, kl_39, kl_40, kl_41, kl_42, kl_43, kl_45, kl_47, kl_48, kl_50, kl_57, kl_59, kl_60, kl_61, kl_62, kl_63, kl_64, kl_97, kl_98, kl_99, kl_100, kl_101, kl_102, kl_103, kl_104, kl_105, kl_106, kl_107, kl_108, kl_109, kl_110, kl_111, kl_112, kl_113, kl_114, kl_115, kl_120, kl_124, kl_126, kl_127, kl_255, kl_720, kl_2048, kl_252645135, kl_858993459, kl_1431655765, kl_1640531535, kl_2000000000, kt, e1, g1])
            rfl
        | with_reducible apply wp_so
      exact fin
    · have ed : deS k c η = turS c η := by unfold deS; rw [if_neg e6, if_neg ho]
      obtain ⟨⟨S2, u2⟩, g1, w1, w2⟩ := x_turn p1 hw c0 (by omega : c < 6)
      dsimp only at w1 w2
      have f2 : eq_ (qV k) S S2 := eq_tr f1 (eq_f w2 (fun k' j hk' => Or.inl (pV_H rfl (by omega) hk')))
      have fin := x_after (x5 := x5) (x8 := x8) (r4 := 46 + 10 * k) hk h5 c0 c1 x80 x81 a0 a1 a2 f2 (w2.1.trans p2.1) (by rw [w2.2 93 (by unfold pH; omega)]; exact t5) (by rw [ed]; exact hg S2 _ (wf_tur hw c) w1 (lawX_f l1 w2 (fun q hq => by unfold pH at hq; omega)) (by rw [w2.2 93 (by unfold pH; omega)]; exact t2) (by rw [w2.2 93 (by unfold pH; omega)]; exact t3))
      rw [if_neg ho] at h5
      subst h5
      unfold f_X3_outcome_99
      repeat' first
        | with_reducible apply wp_bd
          · (try simp (disch := omega) only [bi, Int.add_zero, Int.zero_add, true_or, or_true, true_and, and_true, not_false_eq_true, not_true_eq_false, if_true, if_false, if_pos, if_neg, ki_add, ki_sub, ki_mul, ki_neg, ki_lt, ki_le, ki_eq, ki_cl, ki_div, ki_ite, ck5, kl_0, kl_1, kl_2, kl_3, kl_4, kl_5, kl_6, kl_7, kl_8, kl_9, kl_10, kl_11, kl_12, kl_13, kl_14, kl_16, kl_20, kl_21, kl_30, kl_31, kl_32, kl_33, kl_35, kl_37, kl_38, kl_39, kl_40, kl_41, kl_42, kl_43, kl_45, kl_47, kl_48, kl_50, kl_57, kl_59, kl_60, kl_61, kl_62, kl_63, kl_64, kl_97, kl_98, kl_99, kl_100, kl_101, kl_102, kl_103, kl_104, kl_105, kl_106, kl_107, kl_108, kl_109, kl_110, kl_111, kl_112, kl_113, kl_114, kl_115, kl_120, kl_124, kl_126, kl_127, kl_255, kl_720, kl_2048, kl_252645135, kl_858993459, kl_1431655765, kl_1640531535, kl_2000000000, kt, e1, g1])
            rfl
        | with_reducible apply wp_in
          · (try simp (disch := omega) only [bi, Int.add_zero, Int.zero_add, true_or, or_true, true_and, and_true, not_false_eq_true, not_true_eq_false, if_true, if_false, if_pos, if_neg, ki_add, ki_sub, ki_mul, ki_neg, ki_lt, ki_le, ki_eq, ki_cl, ki_div, ki_ite, ck5, kl_0, kl_1, kl_2, kl_3, kl_4, kl_5, kl_6, kl_7, kl_8, kl_9, kl_10, kl_11, kl_12, kl_13, kl_14, kl_16, kl_20, kl_21, kl_30, kl_31, kl_32, kl_33, kl_35, kl_37, kl_38, kl_39, kl_40, kl_41, kl_42, kl_43, kl_45, kl_47, kl_48, kl_50, kl_57, kl_59, kl_60, kl_61, kl_62, kl_63, kl_64, kl_97, kl_98, kl_99, kl_100, kl_101, kl_102, kl_103, kl_104, kl_105, kl_106, kl_107, kl_108, kl_109, kl_110, kl_111, kl_112, kl_113, kl_114, kl_115, kl_120, kl_124, kl_126, kl_127, kl_255, kl_720, kl_2048, kl_252645135, kl_858993459, kl_1431655765, kl_1640531535, kl_2000000000, kt, e1, g1])
            rfl
          · decide
          · omega
          · omega
        | with_reducible apply wp_gd
          · (try simp (disch := omega) only [bi, Int.add_zero, Int.zero_add, true_or, or_true, true_and, and_true, not_false_eq_true, not_true_eq_false, if_true, if_false, if_pos, if_neg, ki_add, ki_sub, ki_mul, ki_neg, ki_lt, ki_le, ki_eq, ki_cl, ki_div, ki_ite, ck5, kl_0, kl_1, kl_2, kl_3, kl_4, kl_5, kl_6, kl_7, kl_8, kl_9, kl_10, kl_11, kl_12, kl_13, kl_14, kl_16, kl_20, kl_21, kl_30, kl_31, kl_32, kl_33, kl_35, kl_37, kl_38, kl_39, kl_40, kl_41, kl_42, kl_43, kl_45, kl_47, kl_48, kl_50, kl_57, kl_59, kl_60, kl_61, kl_62, kl_63, kl_64, kl_97, kl_98, kl_99, kl_100, kl_101, kl_102, kl_103, kl_104, kl_105, kl_106, kl_107, kl_108, kl_109, kl_110, kl_111, kl_112, kl_113, kl_114, kl_115, kl_120, kl_124, kl_126, kl_127, kl_255, kl_720, kl_2048, kl_252645135, kl_858993459, kl_1431655765, kl_1640531535, kl_2000000000, kt, e1, g1])
            rfl
          · first | exact True.intro | omega | assumption
        | with_reducible apply wp_is
          · (try simp (disch := omega) only [bi, Int.add_zero, Int.zero_add, true_or, or_true, true_and, and_true, not_false_eq_true, not_true_eq_false, if_true, if_false, if_pos, if_neg, ki_add, ki_sub, ki_mul, ki_neg, ki_lt, ki_le, ki_eq, ki_cl, ki_div, ki_ite, ck5, kl_0, kl_1, kl_2, kl_3, kl_4, kl_5, kl_6, kl_7, kl_8, kl_9, kl_10, kl_11, kl_12, kl_13, kl_14, kl_16, kl_20, kl_21, kl_30, kl_31, kl_32, kl_33, kl_35, kl_37, kl_38, kl_39, kl_40, kl_41, kl_42, kl_43, kl_45, kl_47, kl_48, kl_50, kl_57, kl_59, kl_60, kl_61, kl_62, kl_63, kl_64, kl_97, kl_98, kl_99, kl_100, kl_101, kl_102, kl_103, kl_104, kl_105, kl_106, kl_107, kl_108, kl_109, kl_110, kl_111, kl_112, kl_113, kl_114, kl_115, kl_120, kl_124, kl_126, kl_127, kl_255, kl_720, kl_2048, kl_252645135, kl_858993459, kl_1431655765, kl_1640531535, kl_2000000000, kt, e1, g1])
            rfl
          all_goals intro _
          all_goals try (exfalso; first | (rename_i q; exact q trivial) | (rename_i q; exact q) | omega)
        | with_reducible apply wp_mr
        | with_reducible apply wp_b
          · simp (disch := omega) only [Int.add_zero, Int.zero_add, true_or, or_true, true_and, and_true, not_false_eq_true, not_true_eq_false, if_true, if_false, if_pos, if_neg, ki_add, ki_sub, ki_mul, ki_neg, ki_lt, ki_le, ki_eq, ki_cl, ki_div, ki_ite, ck5, kl_0, kl_1, kl_2, kl_3, kl_4, kl_5, kl_6, kl_7, kl_8, kl_9, kl_10, kl_11, kl_12, kl_13, kl_14, kl_16, kl_20, kl_21, kl_30, kl_31, kl_32, kl_33, kl_35, kl_37, kl_38, kl_39, kl_40, kl_41, kl_42, kl_43, kl_45, kl_47, kl_48, kl_50, kl_57, kl_59, kl_60, kl_61, kl_62, kl_63, kl_64, kl_97, kl_98, kl_99, kl_100, kl_101, kl_102, kl_103, kl_104, kl_105, kl_106, kl_107, kl_108, kl_109, kl_110, kl_111, kl_112, kl_113, kl_114, kl_115, kl_120, kl_124, kl_126, kl_127, kl_255, kl_720, kl_2048, kl_252645135, kl_858993459, kl_1431655765, kl_1640531535, kl_2000000000, kt, e1, g1]
            rfl
          all_goals intro _
          all_goals try (exfalso; first | (rename_i q; exact q trivial) | (rename_i q; exact q) | omega)
        | with_reducible apply wp_oe
          · simp (disch := omega) only [Int.add_zero, Int.zero_add, true_or, or_true, true_and, and_true, not_false_eq_true, not_true_eq_false, if_true, if_false, if_pos, if_neg, ki_add, ki_sub, ki_mul, ki_neg, ki_lt, ki_le, ki_eq, ki_cl, ki_div, ki_ite, ck5, kl_0, kl_1, kl_2, kl_3, kl_4, kl_5, kl_6, kl_7, kl_8, kl_9, kl_10, kl_11, kl_12, kl_13, kl_14, kl_16, kl_20, kl_21, kl_30, kl_31, kl_32, kl_33, kl_35, kl_37, kl_38, kl_39, kl_40, kl_41, kl_42, kl_43, kl_45, kl_47, kl_48, kl_50, kl_57, kl_59, kl_60, kl_61, kl_62, kl_63, kl_64, kl_97, kl_98, kl_99, kl_100, kl_101, kl_102, kl_103, kl_104, kl_105, kl_106, kl_107, kl_108, kl_109, kl_110, kl_111, kl_112, kl_113, kl_114, kl_115, kl_120, kl_124, kl_126, kl_127, kl_255, kl_720, kl_2048, kl_252645135, kl_858993459, kl_1431655765, kl_1640531535, kl_2000000000, kt, e1, g1]
            try rfl
        | with_reducible apply wp_sv
          · (try simp (disch := omega) only [bi, Int.add_zero, Int.zero_add, true_or, or_true, true_and, and_true, not_false_eq_true, not_true_eq_false, if_true, if_false, if_pos, if_neg, ki_add, ki_sub, ki_mul, ki_neg, ki_lt, ki_le, ki_eq, ki_cl, ki_div, ki_ite, ck5, kl_0, kl_1, kl_2, kl_3, kl_4, kl_5, kl_6, kl_7, kl_8, kl_9, kl_10, kl_11, kl_12, kl_13, kl_14, kl_16, kl_20, kl_21, kl_30, kl_31, kl_32, kl_33, kl_35, kl_37, kl_38, kl_39, kl_40, kl_41, kl_42, kl_43, kl_45, kl_47, kl_48, kl_50, kl_57, kl_59, kl_60, kl_61, kl_62, kl_63, kl_64, kl_97, kl_98, kl_99, kl_100, kl_101, kl_102, kl_103, kl_104, kl_105, kl_106, kl_107, kl_108, kl_109, kl_110, kl_111, kl_112, kl_113, kl_114, kl_115, kl_120, kl_124, kl_126, kl_127, kl_255, kl_720, kl_2048, kl_252645135, kl_858993459, kl_1431655765, kl_1640531535, kl_2000000000, kt, e1, g1])
            rfl
        | with_reducible apply wp_so
      exact fin
