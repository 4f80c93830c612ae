/-! part 74: salt, read, cart -/
def saS (η : Hy) (c z : Int) : Int := if hasS η z ∧ z / 5 = c then 1 else η 6 z
def sltS (c : Int) (η : Hy) : Hy := uh η 6 (saS η c)
theorem wf_slt {η : Hy} (hw : wf η) (c : Int) : wf (sltS c η) := by
  obtain ⟨h1, h2, h3, h4, h5, h6, h7, h8, h9, h10⟩ := hw
  refine ⟨h1, h2, h3, h4, h5, fun z => ?_, h7, h8, h9, h10⟩
  show 0 ≤ saS η c z ∧ saS η c z ≤ 1
  have := h6 z
  unfold saS
  by_cases hc : hasS η z ∧ z / 5 = c
  · rw [if_pos hc]; omega
  · rw [if_neg hc]; omega
theorem saS_off {η : Hy} {c z : Int} (h : ¬ (hasS η z ∧ z / 5 = c)) : saS η c z = η 6 z := by unfold saS; rw [if_neg h]
theorem saS_on {η : Hy} {c z : Int} (h : hasS η z ∧ z / 5 = c) : saS η c z = 1 := by unfold saS; rw [if_pos h]
theorem x_salt {η : Hy} {S0 : xSt} {col : Int} (h : hx 16 η S0) (hw : wf η) (c0 : 0 ≤ col) (c1 : col < 6) : wp (f_X4_saltColumn 16 S0 (ki col)) (fun r => hx 16 (sltS col η) r.1 ∧ fr S0 r.1 (fun k => k = 22)) := by
  unfold f_X4_saltColumn f_X4_saltColumn_0
  have hb := hw.1 col
  obtain ⟨j1, j2, j3, j4, j5, j6, j7, j8, j9, j10⟩ := h
  refine wp_lp (fun n s => ∃ l, s.2 = ki l ∧ 0 ≤ l ∧ l ≤ η 1 col ∧ n = (η 1 col - l).toNat ∧ vw s.1 22 30 (mix (5 * col + l) (saS η col) (η 6)) ∧ fr S0 s.1 (fun k => k = 22)) (η 1 col).toNat ?_ ?_ (by omega)
  · intro n s hI
    obtain ⟨S, x⟩ := s
    obtain ⟨l, hx1, l0, l1, hn, w6, hf⟩ := hI
    dsimp only at hx1 w6 hf
    subst hx1
    show wp (f_X4_saltColumn_2 16 (ki col) S (ki l)) _
    have r1 : S.1 17 col.toNat = ki (η 1 col) := by rw [hf.2 17 (by omega)]; exact j1 col c0 c1
    unfold f_X4_saltColumn_2
    by_cases hl : l = η 1 col
    · subst hl
      repeat' first
        | with_reducible apply wp_bd
          · (try simp (disch := omega) only [bi, Int.add_zero, Int.zero_add, true_or, or_true, true_and, and_true, not_false_eq_true, not_true_eq_false, if_true, if_false, if_pos, if_neg, ki_add, ki_sub, ki_mul, ki_neg, ki_lt, ki_le, ki_eq, ki_cl, ki_div, ki_ite, ck5, kl_0, kl_1, kl_2, kl_3, kl_4, kl_5, kl_6, kl_7, kl_8, kl_9, kl_10, kl_11, kl_12, kl_13, kl_14, kl_16, kl_20, kl_21, kl_24, kl_29, kl_30, kl_31, kl_33, kl_35, kl_37, kl_38, kl_39, kl_40, kl_41, kl_42, kl_43, kl_44, kl_45, kl_46, kl_47, kl_48, kl_49, kl_50, kl_51, kl_52, kl_53, kl_54, kl_55, kl_56, kl_57, kl_58, kl_59, kl_60, kl_61, kl_62, kl_63, kl_64, kl_70, kl_80, kl_81, kl_97, kl_98, kl_99, kl_100, kl_101, kl_102, kl_103, kl_104, kl_105, kl_106, kl_107, kl_108, kl_109, kl_110, kl_111, kl_112, kl_113, kl_114, kl_115, kl_120, kl_124, kl_126, kl_130, kl_255, kl_720, kl_2048, kl_10000, kl_12345, kl_252645135, kl_858993459, kl_1103515245, kl_1431655765, kl_1640531535, kl_2000000000, r1, Nat.reduceAdd])
            rfl
        | with_reducible apply wp_in
          · (try simp (disch := omega) only [bi, Int.add_zero, Int.zero_add, true_or, or_true, true_and, and_true, not_false_eq_true, not_true_eq_false, if_true, if_false, if_pos, if_neg, ki_add, ki_sub, ki_mul, ki_neg, ki_lt, ki_le, ki_eq, ki_cl, ki_div, ki_ite, ck5, kl_0, kl_1, kl_2, kl_3, kl_4, kl_5, kl_6, kl_7, kl_8, kl_9, kl_10, kl_11, kl_12, kl_13, kl_14, kl_16, kl_20, kl_21, kl_24, kl_29, kl_30, kl_31, kl_33, kl_35, kl_37, kl_38, kl_39, kl_40, kl_41, kl_42, kl_43, kl_44, kl_45, kl_46, kl_47, kl_48, kl_49, kl_50, kl_51, kl_52, kl_53, kl_54, kl_55, kl_56, kl_57, kl_58, kl_59, kl_60, kl_61, kl_62, kl_63, kl_64, kl_70, kl_80, kl_81, kl_97, kl_98, kl_99, kl_100, kl_101, kl_102, kl_103, kl_104, kl_105, kl_106, kl_107, kl_108, kl_109, kl_110, kl_111, kl_112, kl_113, kl_114, kl_115, kl_120, kl_124, kl_126, kl_130, kl_255, kl_720, kl_2048, kl_10000, kl_12345, kl_252645135, kl_858993459, kl_1103515245, kl_1431655765, kl_1640531535, kl_2000000000, r1, Nat.reduceAdd])
            rfl
          · decide
          · omega
          · omega
        | with_reducible apply wp_gd
          · (try simp (disch := omega) only [bi, Int.add_zero, Int.zero_add, true_or, or_true, true_and, and_true, not_false_eq_true, not_true_eq_false, if_true, if_false, if_pos, if_neg, ki_add, ki_sub, ki_mul, ki_neg, ki_lt, ki_le, ki_eq, ki_cl, ki_div, ki_ite, ck5, kl_0, kl_1, kl_2, kl_3, kl_4, kl_5, kl_6, kl_7, kl_8, kl_9, kl_10, kl_11, kl_12, kl_13, kl_14, kl_16, kl_20, kl_21, kl_24, kl_29, kl_30, kl_31, kl_33, kl_35, kl_37, kl_38, kl_39, kl_40, kl_41, kl_42, kl_43, kl_44, kl_45, kl_46, kl_47, kl_48, kl_49, kl_50, kl_51, kl_52, kl_53, kl_54, kl_55, kl_56, kl_57, kl_58, kl_59, kl_60, kl_61, kl_62, kl_63, kl_64, kl_70, kl_80, kl_81, kl_97, kl_98, kl_99, kl_100, kl_101, kl_102, kl_103, kl_104, kl_105, kl_106, kl_107, kl_108, kl_109, kl_110, kl_111, kl_112, kl_113, kl_114, kl_115, kl_120, kl_124, kl_126, kl_130, kl_255, kl_720, kl_2048, kl_10000, kl_12345, kl_252645135, kl_858993459, kl_1103515245, kl_1431655765, kl_1640531535, kl_2000000000, r1, Nat.reduceAdd])
            rfl
          · first | exact True.intro | omega | assumption
        | with_reducible apply wp_is
          · (try simp (disch := omega) only [bi, Int.add_zero, Int.zero_add, true_or, or_true, true_and, and_true, not_false_eq_true, not_true_eq_false, if_true, if_false, if_pos, if_neg, ki_add, ki_sub, ki_mul, ki_neg, ki_lt, ki_le, ki_eq, ki_cl, ki_div, ki_ite, ck5, kl_0, kl_1, kl_2, kl_3, kl_4, kl_5, kl_6, kl_7, kl_8, kl_9, kl_10, kl_11, kl_12, kl_13, kl_14, kl_16, kl_20, kl_21, kl_24, kl_29, kl_30, kl_31, kl_33, kl_35, kl_37, kl_38, kl_39, kl_40, kl_41, kl_42, kl_43, kl_44, kl_45, kl_46, kl_47, kl_48, kl_49, kl_50, kl_51, kl_52, kl_53, kl_54, kl_55, kl_56, kl_57, kl_58, kl_59, kl_60, kl_61, kl_62, kl_63, kl_64, kl_70, kl_80, kl_81, kl_97, kl_98, kl_99, kl_100, kl_101, kl_102, kl_103, kl_104, kl_105, kl_106, kl_107, kl_108, kl_109, kl_110, kl_111, kl_112, kl_113, kl_114, kl_115, kl_120, kl_124, kl_126, kl_130, kl_255, kl_720, kl_2048, kl_10000, kl_12345, kl_252645135, kl_858993459, kl_1103515245, kl_1431655765, kl_1640531535, kl_2000000000, r1, Nat.reduceAdd])
            rfl
          all_goals intro _
          all_goals try (exfalso; first | (rename_i q; exact q trivial) | (rename_i q; exact q) | omega)
        | with_reducible apply wp_mr
        | with_reducible apply wp_b
          · simp (disch := omega) only [Int.add_zero, Int.zero_add, true_or, or_true, true_and, and_true, not_false_eq_true, not_true_eq_false, if_true, if_false, if_pos, if_neg, ki_add, ki_sub, ki_mul, ki_neg, ki_lt, ki_le, ki_eq, ki_cl, ki_div, ki_ite, ck5, kl_0, kl_1, kl_2, kl_3, kl_4, kl_5, kl_6, kl_7, kl_8, kl_9, kl_10, kl_11, kl_12, kl_13, kl_14, kl_16, kl_20, kl_21, kl_24, kl_29, kl_30, kl_31, kl_33, kl_35, kl_37, kl_38, kl_39, kl_40, kl_41, kl_42, kl_43, kl_44, kl_45, kl_46, kl_47, kl_48, kl_49, kl_50, kl_51, kl_52, kl_53, kl_54, kl_55, kl_56, kl_57, kl_58, kl_59, kl_60, kl_61, kl_62, kl_63, kl_64, kl_70, kl_80, kl_81, kl_97, kl_98, kl_99, kl_100, kl_101, kl_102, kl_103, kl_104, kl_105, kl_106, kl_107, kl_108, kl_109, kl_110, kl_111, kl_112, kl_113, kl_114, kl_115, kl_120, kl_124, kl_126, kl_130, kl_255, kl_720, kl_2048, kl_10000, kl_12345, kl_252645135, kl_858993459, kl_1103515245, kl_1431655765, kl_1640531535, kl_2000000000, r1, Nat.reduceAdd]
            rfl
          all_goals intro _
          all_goals try (exfalso; first | (rename_i q; exact q trivial) | (rename_i q; exact q) | omega)
        | with_reducible apply wp_oe
          · simp (disch := omega) only [Int.add_zero, Int.zero_add, true_or, or_true, true_and, and_true, not_false_eq_true, not_true_eq_false, if_true, if_false, if_pos, if_neg, ki_add, ki_sub, ki_mul, ki_neg, ki_lt, ki_le, ki_eq, ki_cl, ki_div, ki_ite, ck5, kl_0, kl_1, kl_2, kl_3, kl_4, kl_5, kl_6, kl_7, kl_8, kl_9, kl_10, kl_11, kl_12, kl_13, kl_14, kl_16, kl_20, kl_21, kl_24, kl_29, kl_30, kl_31, kl_33, kl_35, kl_37, kl_38, kl_39, kl_40, kl_41, kl_42, kl_43, kl_44, kl_45, kl_46, kl_47, kl_48, kl_49, kl_50, kl_51, kl_52, kl_53, kl_54, kl_55, kl_56, kl_57, kl_58, kl_59, kl_60, kl_61, kl_62, kl_63, kl_64, kl_70, kl_80, kl_81, kl_97, kl_98, kl_99, kl_100, kl_101, kl_102, kl_103, kl_104, kl_105, kl_106, kl_107, kl_108, kl_109, kl_110, kl_111, kl_112, kl_113, kl_114, kl_115, kl_120, kl_124, kl_126, kl_130, kl_255, kl_720, kl_2048, kl_10000, kl_12345, kl_252645135, kl_858993459, kl_1103515245, kl_1431655765, kl_1640531535, kl_2000000000, r1, Nat.reduceAdd]
            try rfl
        | with_reducible apply wp_sv
          · (try simp (disch := omega) only [bi, Int.add_zero, Int.zero_add, true_or, or_true, true_and, and_true, not_false_eq_true, not_true_eq_false, if_true, if_false, if_pos, if_neg, ki_add, ki_sub, ki_mul, ki_neg, ki_lt, ki_le, ki_eq, ki_cl, ki_div, ki_ite, ck5, kl_0, kl_1, kl_2, kl_3, kl_4, kl_5, kl_6, kl_7, kl_8, kl_9, kl_10, kl_11, kl_12, kl_13, kl_14, kl_16, kl_20, kl_21, kl_24, kl_29, kl_30, kl_31, kl_33, kl_35, kl_37, kl_38, kl_39, kl_40, kl_41, kl_42, kl_43, kl_44, kl_45, kl_46, kl_47, kl_48, kl_49, kl_50, kl_51, kl_52, kl_53, kl_54, kl_55, kl_56, kl_57, kl_58, kl_59, kl_60, kl_61, kl_62, kl_63, kl_64, kl_70, kl_80, kl_81, kl_97, kl_98, kl_99, kl_100, kl_101, kl_102, kl_103, kl_104, kl_105, kl_106, kl_107, kl_108, kl_109, kl_110, kl_111, kl_112, kl_113, kl_114, kl_115, kl_120, kl_124, kl_126, kl_130, kl_255, kl_720, kl_2048, kl_10000, kl_12345, kl_252645135, kl_858993459, kl_1103515245, kl_1431655765, kl_1640531535, kl_2000000000, r1, Nat.reduceAdd])
            rfl
        | with_reducible apply wp_so
      exact qr ⟨⟨vw_f j1 hf (by omega), vw_f j2 hf (by omega), vw_f j3 hf (by omega), vw_f j4 hf (by omega), vw_f j5 hf (by omega), vw_mixE w6 (fun z h1 h2 => saS_off (fun q => by obtain ⟨⟨g0, g1, g2⟩, e⟩ := q; rw [e] at g2; omega)), vw_f j7 hf (by omega), vw_f j8 hf (by omega), by rw [hf.2 16 (by omega)]; exact j9, by rw [hf.2 16 (by omega)]; exact j10⟩, hf⟩
    · have e0 : (5 * col + l) / 5 = col := by omega
      have hon : hasS η (5 * col + l) ∧ (5 * col + l) / 5 = col := ⟨⟨by omega, by omega, by rw [e0]; omega⟩, e0⟩
      have e4 := saS_on hon
      have ec : col * 5 + l = 5 * col + l := by omega
      repeat' first
        | with_reducible apply wp_bd
          · (try simp (disch := omega) only [bi, Int.add_zero, Int.zero_add, true_or, or_true, true_and, and_true, not_false_eq_true, not_true_eq_false, if_true, if_false, if_pos, if_neg, ki_add, ki_sub, ki_mul, ki_neg, ki_lt, ki_le, ki_eq, ki_cl, ki_div, ki_ite, ck5, kl_0, kl_1, kl_2, kl_3, kl_4, kl_5, kl_6, kl_7, kl_8, kl_9, kl_10, kl_11, kl_12, kl_13, kl_14, kl_16, kl_20, kl_21, kl_24, kl_29, kl_30, kl_31, kl_33, kl_35, kl_37, kl_38, kl_39, kl_40, kl_41, kl_42, kl_43, kl_44, kl_45, kl_46, kl_47, kl_48, kl_49, kl_50, kl_51, kl_52, kl_53, kl_54, kl_55, kl_56, kl_57, kl_58, kl_59, kl_60, kl_61, kl_62, kl_63, kl_64, kl_70, kl_80, kl_81, kl_97, kl_98, kl_99, kl_100, kl_101, kl_102, kl_103, kl_104, kl_105, kl_106, kl_107, kl_108, kl_109, kl_110, kl_111, kl_112, kl_113, kl_114, kl_115, kl_120, kl_124, kl_126, kl_130, kl_255, kl_720, kl_2048, kl_10000, kl_12345, kl_252645135, kl_858993459, kl_1103515245, kl_1431655765, kl_1640531535, kl_2000000000, r1, ec, Nat.reduceAdd])
            rfl
        | with_reducible apply wp_in
          · (try simp (disch := omega) only [bi, Int.add_zero, Int.zero_add, true_or, or_true, true_and, and_true, not_false_eq_true, not_true_eq_false, if_true, if_false, if_pos, if_neg, ki_add, ki_sub, ki_mul, ki_neg, ki_lt, ki_le, ki_eq, ki_cl, ki_div, ki_ite, ck5, kl_0, kl_1, kl_2, kl_3, kl_4, kl_5, kl_6, kl_7, kl_8, kl_9, kl_10, kl_11, kl_12, kl_13, kl_14, kl_16, kl_20, kl_21, kl_24, kl_29, kl_30, kl_31, kl_33, kl_35, kl_37, kl_38, kl_39, kl_40, kl_41, kl_42, kl_43, kl_44, kl_45, kl_46, kl_47, kl_48, kl_49, kl_50, kl_51, kl_52, kl_53, kl_54, kl_55, kl_56, kl_57, kl_58, kl_59, kl_60, kl_61, kl_62, kl_63, kl_64, kl_70, kl_80, kl_81, kl_97, kl_98, kl_99, kl_100, kl_101, kl_102, kl_103, kl_104, kl_105, kl_106, kl_107, kl_108, kl_109, kl_110, kl_111, kl_112, kl_113, kl_114, kl_115, kl_120, kl_124, kl_126, kl_130, kl_255, kl_720, kl_2048, kl_10000, kl_12345, kl_252645135, kl_858993459, kl_1103515245, kl_1431655765, kl_1640531535, kl_2000000000, r1, ec, Nat.reduceAdd])
            rfl
          · decide
          · omega
          · omega
        | with_reducible apply wp_gd
          · (try simp (disch := omega) only [bi, Int.add_zero, Int.zero_add, true_or, or_true, true_and, and_true, not_false_eq_true, not_true_eq_false, if_true, if_false, if_pos, if_neg, ki_add, ki_sub, ki_mul, ki_neg, ki_lt, ki_le, ki_eq, ki_cl, ki_div, ki_ite, ck5, kl_0, kl_1, kl_2, kl_3, kl_4, kl_5, kl_6, kl_7, kl_8, kl_9, kl_10, kl_11, kl_12, kl_13, kl_14, kl_16, kl_20, kl_21, kl_24, kl_29, kl_30, kl_31, kl_33, kl_35, kl_37, kl_38, kl_39, kl_40, kl_41, kl_42, kl_43, kl_44, kl_45, kl_46, kl_47, kl_48, kl_49, kl_50, kl_51, kl_52, kl_53, kl_54, kl_55, kl_56, kl_57, kl_58, kl_59, kl_60, kl_61, kl_62, kl_63, kl_64, kl_70, kl_80, kl_81, kl_97, kl_98, kl_99, kl_100, kl_101, kl_102, kl_103, kl_104, kl_105, kl_106, kl_107, kl_108, kl_109, kl_110, kl_111, kl_112, kl_113, kl_114, kl_115, kl_120, kl_124, kl_126, kl_130, kl_255, kl_720, kl_2048, kl_10000, kl_12345, kl_252645135, kl_858993459, kl_1103515245, kl_1431655765, kl_1640531535, kl_2000000000, r1, ec, Nat.reduceAdd])
            rfl
          · first | exact True.intro | omega | assumption
        | with_reducible apply wp_is
          · (try simp (disch := omega) only [bi, Int.add_zero, Int.zero_add, true_or, or_true, true_and, and_true, not_false_eq_true, not_true_eq_false, if_true, if_false, if_pos, if_neg, ki_add, ki_sub, ki_mul, ki_neg, ki_lt, ki_le, ki_eq, ki_cl, ki_div, ki_ite, ck5, kl_0, kl_1, kl_2, kl_3, kl_4, kl_5, kl_6, kl_7, kl_8, kl_9, kl_10, kl_11, kl_12, kl_13, kl_14, kl_16, kl_20, kl_21, kl_24, kl_29, kl_30, kl_31, kl_33, kl_35, kl_37, kl_38, kl_39, kl_40, kl_41, kl_42, kl_43, kl_44, kl_45, kl_46, kl_47, kl_48, kl_49, kl_50, kl_51, kl_52, kl_53, kl_54, kl_55, kl_56, kl_57, kl_58, kl_59, kl_60, kl_61, kl_62, kl_63, kl_64, kl_70, kl_80, kl_81, kl_97, kl_98, kl_99, kl_100, kl_101, kl_102, kl_103, kl_104, kl_105, kl_106, kl_107, kl_108, kl_109, kl_110, kl_111, kl_112, kl_113, kl_114, kl_115, kl_120, kl_124, kl_126, kl_130, kl_255, kl_720, kl_2048, kl_10000, kl_12345, kl_252645135, kl_858993459, kl_1103515245, kl_1431655765, kl_1640531535, kl_2000000000, r1, ec, Nat.reduceAdd])
            rfl
          all_goals intro _
          all_goals try (exfalso; first | (rename_i q; exact q trivial) | (rename_i q; exact q) | omega)
        | with_reducible apply wp_mr
        | with_reducible apply wp_b
          · simp (disch := omega) only [Int.add_zero, Int.zero_add, true_or, or_true, true_and, and_true, not_false_eq_true, not_true_eq_false, if_true, if_false, if_pos, if_neg, ki_add, ki_sub, ki_mul, ki_neg, ki_lt, ki_le, ki_eq, ki_cl, ki_div, ki_ite, ck5, kl_0, kl_1, kl_2, kl_3, kl_4, kl_5, kl_6, kl_7, kl_8, kl_9, kl_10, kl_11, kl_12, kl_13, kl_14, kl_16, kl_20, kl_21, kl_24, kl_29, kl_30, kl_31, kl_33, kl_35, kl_37, kl_38, kl_39, kl_40, kl_41, kl_42, kl_43, kl_44, kl_45, kl_46, kl_47, kl_48, kl_49, kl_50, kl_51, kl_52, kl_53, kl_54, kl_55, kl_56, kl_57, kl_58, kl_59, kl_60, kl_61, kl_62, kl_63, kl_64, kl_70, kl_80, kl_81, kl_97, kl_98, kl_99, kl_100, kl_101, kl_102, kl_103, kl_104, kl_105, kl_106, kl_107, kl_108, kl_109, kl_110, kl_111, kl_112, kl_113, kl_114, kl_115, kl_120, kl_124, kl_126, kl_130, kl_255, kl_720, kl_2048, kl_10000, kl_12345, kl_252645135, kl_858993459, kl_1103515245, kl_1431655765, kl_1640531535, kl_2000000000, r1, ec, Nat.reduceAdd]
            rfl
          all_goals intro _
          all_goals try (exfalso; first | (rename_i q; exact q trivial) | (rename_i q; exact q) | omega)
        | with_reducible apply wp_oe
          · simp (disch := omega) only [Int.add_zero, Int.zero_add, true_or, or_true, true_and, and_true, not_false_eq_true, not_true_eq_false, if_true, if_false, if_pos, if_neg, ki_add, ki_sub, ki_mul, ki_neg, ki_lt, ki_le, ki_eq, ki_cl, ki_div, ki_ite, ck5, kl_0, kl_1, kl_2, kl_3, kl_4, kl_5, kl_6, kl_7, kl_8, kl_9, kl_10, kl_11, kl_12, kl_13, kl_14, kl_16, kl_20, kl_21, kl_24, kl_29, kl_30, kl_31, kl_33, kl_35, kl_37, kl_38, kl_39, kl_40, kl_41, kl_42, kl_43, kl_44, kl_45, kl_46, kl_47, kl_48, kl_49, kl_50, kl_51, kl_52, kl_53, kl_54, kl_55, kl_56, kl_57, kl_58, kl_59, kl_60, kl_61, kl_62, kl_63, kl_64, kl_70, kl_80, kl_81, kl_97, kl_98, kl_99, kl_100, kl_101, kl_102, kl_103, kl_104, kl_105, kl_106, kl_107, kl_108, kl_109, kl_110, kl_111, kl_112, kl_113, kl_114, kl_115, kl_120, kl_124, kl_126, kl_130, kl_255, kl_720, kl_2048, kl_10000, kl_12345, kl_252645135, kl_858993459, kl_1103515245, kl_1431655765, kl_1640531535, kl_2000000000, r1, ec, Nat.reduceAdd]
            try rfl
        | with_reducible apply wp_sv
          · (try simp (disch := omega) only [bi, Int.add_zero, Int.zero_add, true_or, or_true, true_and, and_true, not_false_eq_true, not_true_eq_false, if_true, if_false, if_pos, if_neg, ki_add, ki_sub, ki_mul, ki_neg, ki_lt, ki_le, ki_eq, ki_cl, ki_div, ki_ite, ck5, kl_0, kl_1, kl_2, kl_3, kl_4, kl_5, kl_6, kl_7, kl_8, kl_9, kl_10, kl_11, kl_12, kl_13, kl_14, kl_16, kl_20, kl_21, kl_24, kl_29, kl_30, kl_31, kl_33, kl_35, kl_37, kl_38, kl_39, kl_40, kl_41, kl_42, kl_43, kl_44, kl_45, kl_46, kl_47, kl_48, kl_49, kl_50, kl_51, kl_52, kl_53, kl_54, kl_55, kl_56, kl_57, kl_58, kl_59, kl_60, kl_61, kl_62, kl_63, kl_64, kl_70, kl_80, kl_81, kl_97, kl_98, kl_99, kl_100, kl_101, kl_102, kl_103, kl_104, kl_105, kl_106, kl_107, kl_108, kl_109, kl_110, kl_111, kl_112, kl_113, kl_114, kl_115, kl_120, kl_124, kl_126, kl_130, kl_255, kl_720, kl_2048, kl_10000, kl_12345, kl_252645135, kl_858993459, kl_1103515245, kl_1431655765, kl_1640531535, kl_2000000000, r1, ec, Nat.reduceAdd])
            rfl
        | with_reducible apply wp_so
      refine ql ⟨(η 1 col - (l + 1)).toNat, by omega, l + 1, rfl, by omega, by omega, rfl, ?_, fr_tr hf (fr_si (by omega))⟩
      rw [show 5 * col + (l + 1) = 5 * col + l + 1 by omega]
      exact vw_mixw w6 (by omega) (by omega)
  · exact ⟨0, kl_0, by omega, by omega, by rw [Int.sub_zero], vw_mix0 j6 (fun z h1 h2 => saS_off (fun q => by omega)), fr_rf _ _⟩
theorem q_salt {η : Hy} {gn : (Int → Int) → Int} {SX SM : xSt} (h : R1 η gn SX SM) (a : Int32) : cs (f_X11_salt SX a) (f_X12_salt SM a) := by
  obtain ⟨c, rfl, c1, c2⟩ := ki_of a
  obtain ⟨hw, hX, hM, lX, lM, hK⟩ := id h
  unfold f_X11_salt f_X11_salt_0 f_X12_salt f_X12_salt_0
  by_cases hc : 0 ≤ c ∧ c ≤ 5
  · have hb := hw.1 c
    refine cs_w h (ki (η 1 c)) (wf_led (wf_slt hw c) (i := 2) (v := η 8 2 + 1) (by omega)) ?_ ?_
    · repeat' first
        | with_reducible apply wp_bd
          · (try simp (disch := omega) only [bi, Int.add_zero, Int.zero_add, true_or, or_true, true_and, and_true, not_false_eq_true, not_true_eq_false, if_true, if_false, if_pos, if_neg, ki_add, ki_sub, ki_mul, ki_neg, ki_lt, ki_le, ki_eq, ki_cl, ki_div, ki_ite, ck5, kl_0, kl_1, kl_2, kl_3, kl_4, kl_5, kl_6, kl_7, kl_8, kl_9, kl_10, kl_11, kl_12, kl_13, kl_14, kl_16, kl_20, kl_21, kl_24, kl_29, kl_30, kl_31, kl_33, kl_35, kl_37, kl_38, kl_39, kl_40, kl_41, kl_42, kl_43, kl_44, kl_45, kl_46, kl_47, kl_48, kl_49, kl_50, kl_51, kl_52, kl_53, kl_54, kl_55, kl_56, kl_57, kl_58, kl_59, kl_60, kl_61, kl_62, kl_63, kl_64, kl_70, kl_80, kl_81, kl_97, kl_98, kl_99, kl_100, kl_101, kl_102, kl_103, kl_104, kl_105, kl_106, kl_107, kl_108, kl_109, kl_110, kl_111, kl_112, kl_113, kl_114, kl_115, kl_120, kl_124, kl_126, kl_130, kl_255, kl_720, kl_2048, kl_10000, kl_12345, kl_252645135, kl_858993459, kl_1103515245, kl_1431655765, kl_1640531535, kl_2000000000, x_in])
            rfl
        | with_reducible apply wp_in
          · (try simp (disch := omega) only [bi, Int.add_zero, Int.zero_add, true_or, or_true, true_and, and_true, not_false_eq_true, not_true_eq_false, if_true, if_false, if_pos, if_neg, ki_add, ki_sub, ki_mul, ki_neg, ki_lt, ki_le, ki_eq, ki_cl, ki_div, ki_ite, ck5, kl_0, kl_1, kl_2, kl_3, kl_4, kl_5, kl_6, kl_7, kl_8, kl_9, kl_10, kl_11, kl_12, kl_13, kl_14, kl_16, kl_20, kl_21, kl_24, kl_29, kl_30, kl_31, kl_33, kl_35, kl_37, kl_38, kl_39, kl_40, kl_41, kl_42, kl_43, kl_44, kl_45, kl_46, kl_47, kl_48, kl_49, kl_50, kl_51, kl_52, kl_53, kl_54, kl_55, kl_56, kl_57, kl_58, kl_59, kl_60, kl_61, kl_62, kl_63, kl_64, kl_70, kl_80, kl_81, kl_97, kl_98, kl_99, kl_100, kl_101, kl_102, kl_103, kl_104, kl_105, kl_106, kl_107, kl_108, kl_109, kl_110, kl_111, kl_112, kl_113, kl_114, kl_115, kl_120, kl_124, kl_126, kl_130, kl_255, kl_720, kl_2048, kl_10000, kl_12345, kl_252645135, kl_858993459, kl_1103515245, kl_1431655765, kl_1640531535, kl_2000000000, x_in])
            rfl
          · decide
          · omega
          · omega
        | with_reducible apply wp_gd
          · (try simp (disch := omega) only [bi, Int.add_zero, Int.zero_add, true_or, or_true, true_and, and_true, not_false_eq_true, not_true_eq_false, if_true, if_false, if_pos, if_neg, ki_add, ki_sub, ki_mul, ki_neg, ki_lt, ki_le, ki_eq, ki_cl, ki_div, ki_ite, ck5, kl_0, kl_1, kl_2, kl_3, kl_4, kl_5, kl_6, kl_7, kl_8, kl_9, kl_10, kl_11, kl_12, kl_13, kl_14, kl_16, kl_20, kl_21, kl_24, kl_29, kl_30, kl_31, kl_33, kl_35, kl_37, kl_38, kl_39, kl_40, kl_41, kl_42, kl_43, kl_44, kl_45, kl_46, kl_47, kl_48, kl_49, kl_50, kl_51, kl_52, kl_53, kl_54, kl_55, kl_56, kl_57, kl_58, kl_59, kl_60, kl_61, kl_62, kl_63, kl_64, kl_70, kl_80, kl_81, kl_97, kl_98, kl_99, kl_100, kl_101, kl_102, kl_103, kl_104, kl_105, kl_106, kl_107, kl_108, kl_109, kl_110, kl_111, kl_112, kl_113, kl_114, kl_115, kl_120, kl_124, kl_126, kl_130, kl_255, kl_720, kl_2048, kl_10000, kl_12345, kl_252645135, kl_858993459, kl_1103515245, kl_1431655765, kl_1640531535, kl_2000000000, x_in])
            rfl
          · first | exact True.intro | omega | assumption
        | with_reducible apply wp_is
          · (try simp (disch := omega) only [bi, Int.add_zero, Int.zero_add, true_or, or_true, true_and, and_true, not_false_eq_true, not_true_eq_false, if_true, if_false, if_pos, if_neg, ki_add, ki_sub, ki_mul, ki_neg, ki_lt, ki_le, ki_eq, ki_cl, ki_div, ki_ite, ck5, kl_0, kl_1, kl_2, kl_3, kl_4, kl_5, kl_6, kl_7, kl_8, kl_9, kl_10, kl_11, kl_12, kl_13, kl_14, kl_16, kl_20, kl_21, kl_24, kl_29, kl_30, kl_31, kl_33, kl_35, kl_37, kl_38, kl_39, kl_40, kl_41, kl_42, kl_43, kl_44, kl_45, kl_46, kl_47, kl_48, kl_49, kl_50, kl_51, kl_52, kl_53, kl_54, kl_55, kl_56, kl_57, kl_58, kl_59, kl_60, kl_61, kl_62, kl_63, kl_64, kl_70, kl_80, kl_81, kl_97, kl_98, kl_99, kl_100, kl_101, kl_102, kl_103, kl_104, kl_105, kl_106, kl_107, kl_108, kl_109, kl_110, kl_111, kl_112, kl_113, kl_114, kl_115, kl_120, kl_124, kl_126, kl_130, kl_255, kl_720, kl_2048, kl_10000, kl_12345, kl_252645135, kl_858993459, kl_1103515245, kl_1431655765, kl_1640531535, kl_2000000000, x_in])
            rfl
          all_goals intro _
          all_goals try (exfalso; first | (rename_i q; exact q trivial) | (rename_i q; exact q) | omega)
        | with_reducible apply wp_mr
        | with_reducible apply wp_b
          · simp (disch := omega) only [Int.add_zero, Int.zero_add, true_or, or_true, true_and, and_true, not_false_eq_true, not_true_eq_false, if_true, if_false, if_pos, if_neg, ki_add, ki_sub, ki_mul, ki_neg, ki_lt, ki_le, ki_eq, ki_cl, ki_div, ki_ite, ck5, kl_0, kl_1, kl_2, kl_3, kl_4, kl_5, kl_6, kl_7, kl_8, kl_9, kl_10, kl_11, kl_12, kl_13, kl_14, kl_16, kl_20, kl_21, kl_24, kl_29, kl_30, kl_31, kl_33, kl_35, kl_37, kl_38, kl_39, kl_40, kl_41, kl_42, kl_43, kl_44, kl_45, kl_46, kl_47, kl_48, kl_49, kl_50, kl_51, kl_52, kl_53, kl_54, kl_55, kl_56, kl_57, kl_58, kl_59, kl_60, kl_61, kl_62, kl_63, kl_64, kl_70, kl_80, kl_81, kl_97, kl_98, kl_99, kl_100, kl_101, kl_102, kl_103, kl_104, kl_105, kl_106, kl_107, kl_108, kl_109, kl_110, kl_111, kl_112, kl_113, kl_114, kl_115, kl_120, kl_124, kl_126, kl_130, kl_255, kl_720, kl_2048, kl_10000, kl_12345, kl_252645135, kl_858993459, kl_1103515245, kl_1431655765, kl_1640531535, kl_2000000000, x_in]
            rfl
          all_goals intro _
          all_goals try (exfalso; first | (rename_i q; exact q trivial) | (rename_i q; exact q) | omega)
        | with_reducible apply wp_oe
          · simp (disch := omega) only [Int.add_zero, Int.zero_add, true_or, or_true, true_and, and_true, not_false_eq_true, not_true_eq_false, if_true, if_false, if_pos, if_neg, ki_add, ki_sub, ki_mul, ki_neg, ki_lt, ki_le, ki_eq, ki_cl, ki_div, ki_ite, ck5, kl_0, kl_1, kl_2, kl_3, kl_4, kl_5, kl_6, kl_7, kl_8, kl_9, kl_10, kl_11, kl_12, kl_13, kl_14, kl_16, kl_20, kl_21, kl_24, kl_29, kl_30, kl_31, kl_33, kl_35, kl_37, kl_38, kl_39, kl_40, kl_41, kl_42, kl_43, kl_44, kl_45, kl_46, kl_47, kl_48, kl_49, kl_50, kl_51, kl_52, kl_53, kl_54, kl_55, kl_56, kl_57, kl_58, kl_59, kl_60, kl_61, kl_62, kl_63, kl_64, kl_70, kl_80, kl_81, kl_97, kl_98, kl_99, kl_100, kl_101, kl_102, kl_103, kl_104, kl_105, kl_106, kl_107, kl_108, kl_109, kl_110, kl_111, kl_112, kl_113, kl_114, kl_115, kl_120, kl_124, kl_126, kl_130, kl_255, kl_720, kl_2048, kl_10000, kl_12345, kl_252645135, kl_858993459, kl_1103515245, kl_1431655765, kl_1640531535, kl_2000000000, x_in]
            try rfl
        | with_reducible apply wp_sv
          · (try simp (disch := omega) only [bi, Int.add_zero, Int.zero_add, true_or, or_true, true_and, and_true, not_false_eq_true, not_true_eq_false, if_true, if_false, if_pos, if_neg, ki_add, ki_sub, ki_mul, ki_neg, ki_lt, ki_le, ki_eq, ki_cl, ki_div, ki_ite, ck5, kl_0, kl_1, kl_2, kl_3, kl_4, kl_5, kl_6, kl_7, kl_8, kl_9, kl_10, kl_11, kl_12, kl_13, kl_14, kl_16, kl_20, kl_21, kl_24, kl_29, kl_30, kl_31, kl_33, kl_35, kl_37, kl_38, kl_39, kl_40, kl_41, kl_42, kl_43, kl_44, kl_45, kl_46, kl_47, kl_48, kl_49, kl_50, kl_51, kl_52, kl_53, kl_54, kl_55, kl_56, kl_57, kl_58, kl_59, kl_60, kl_61, kl_62, kl_63, kl_64, kl_70, kl_80, kl_81, kl_97, kl_98, kl_99, kl_100, kl_101, kl_102, kl_103, kl_104, kl_105, kl_106, kl_107, kl_108, kl_109, kl_110, kl_111, kl_112, kl_113, kl_114, kl_115, kl_120, kl_124, kl_126, kl_130, kl_255, kl_720, kl_2048, kl_10000, kl_12345, kl_252645135, kl_858993459, kl_1103515245, kl_1431655765, kl_1640531535, kl_2000000000, x_in])
            rfl
        | with_reducible apply wp_so
      refine wp_ob (x_salt hX hw hc.1 (by omega)) (fun u v hp => ?_)
      obtain ⟨hh, hf⟩ := hp
      dsimp only at hh hf
      have r8 : u.1 24 (2 : Int).toNat = ki (η 8 2) := hh.2.2.2.2.2.2.2.1 2 (by omega) (by omega)
      have r1 : u.1 17 c.toNat = ki (η 1 c) := hh.1 c hc.1 (by omega)
      repeat' first
        | with_reducible apply wp_bd
          · (try simp (disch := omega) only [bi, Int.add_zero, Int.zero_add, true_or, or_true, true_and, and_true, not_false_eq_true, not_true_eq_false, if_true, if_false, if_pos, if_neg, ki_add, ki_sub, ki_mul, ki_neg, ki_lt, ki_le, ki_eq, ki_cl, ki_div, ki_ite, ck5, kl_0, kl_1, kl_2, kl_3, kl_4, kl_5, kl_6, kl_7, kl_8, kl_9, kl_10, kl_11, kl_12, kl_13, kl_14, kl_16, kl_20, kl_21, kl_24, kl_29, kl_30, kl_31, kl_33, kl_35, kl_37, kl_38, kl_39, kl_40, kl_41, kl_42, kl_43, kl_44, kl_45, kl_46, kl_47, kl_48, kl_49, kl_50, kl_51, kl_52, kl_53, kl_54, kl_55, kl_56, kl_57, kl_58, kl_59, kl_60, kl_61, kl_62, kl_63, kl_64, kl_70, kl_80, kl_81, kl_97, kl_98, kl_99, kl_100, kl_101, kl_102, kl_103, kl_104, kl_105, kl_106, kl_107, kl_108, kl_109, kl_110, kl_111, kl_112, kl_113, kl_114, kl_115, kl_120, kl_124, kl_126, kl_130, kl_255, kl_720, kl_2048, kl_10000, kl_12345, kl_252645135, kl_858993459, kl_1103515245, kl_1431655765, kl_1640531535, kl_2000000000, r8, r1, xsi_r, Nat.reduceAdd])
            rfl
        | with_reducible apply wp_in
          · (try simp (disch := omega) only [bi, Int.add_zero, Int.zero_add, true_or, or_true, true_and, and_true, not_false_eq_true, not_true_eq_false, if_true, if_false, if_pos, if_neg, ki_add, ki_sub, ki_mul, ki_neg, ki_lt, ki_le, ki_eq, ki_cl, ki_div, ki_ite, ck5, kl_0, kl_1, kl_2, kl_3, kl_4, kl_5, kl_6, kl_7, kl_8, kl_9, kl_10, kl_11, kl_12, kl_13, kl_14, kl_16, kl_20, kl_21, kl_24, kl_29, kl_30, kl_31, kl_33, kl_35, kl_37, kl_38, kl_39, kl_40, kl_41, kl_42, kl_43, kl_44, kl_45, kl_46, kl_47, kl_48, kl_49, kl_50, kl_51, kl_52, kl_53, kl_54, kl_55, kl_56, kl_57, kl_58, kl_59, kl_60, kl_61, kl_62, kl_63, kl_64, kl_70, kl_80, kl_81, kl_97, kl_98, kl_99, kl_100, kl_101, kl_102, kl_103, kl_104, kl_105, kl_106, kl_107, kl_108, kl_109, kl_110, kl_111, kl_112, kl_113, kl_114, kl_115, kl_120, kl_124, kl_126, kl_130, kl_255, kl_720, kl_2048, kl_10000, kl_12345, kl_252645135, kl_858993459, kl_1103515245, kl_1431655765, kl_1640531535, kl_2000000000, r8, r1, xsi_r, Nat.reduceAdd])
            rfl
          · decide
          · omega
          · omega
        | with_reducible apply wp_gd
          · (try simp (disch := omega) only [bi, Int.add_zero, Int.zero_add, true_or, or_true, true_and, and_true, not_false_eq_true, not_true_eq_false, if_true, if_false, if_pos, if_neg, ki_add, ki_sub, ki_mul, ki_neg, ki_lt, ki_le, ki_eq, ki_cl, ki_div, ki_ite, ck5, kl_0, kl_1, kl_2, kl_3, kl_4, kl_5, kl_6, kl_7, kl_8, kl_9, kl_10, kl_11, kl_12, kl_13, kl_14, kl_16, kl_20, kl_21, kl_24, kl_29, kl_30, kl_31, kl_33, kl_35, kl_37, kl_38, kl_39, kl_40, kl_41, kl_42, kl_43, kl_44, kl_45, kl_46, kl_47, kl_48, kl_49, kl_50, kl_51, kl_52, kl_53, kl_54, kl_55, kl_56, kl_57, kl_58, kl_59, kl_60, kl_61, kl_62, kl_63, kl_64, kl_70, kl_80, kl_81, kl_97, kl_98, kl_99, kl_100, kl_101, kl_102, kl_103, kl_104, kl_105, kl_106, kl_107, kl_108, kl_109, kl_110, kl_111, kl_112, kl_113, kl_114, kl_115, kl_120, kl_124, kl_126, kl_130, kl_255, kl_720, kl_2048, kl_10000, kl_12345, kl_252645135, kl_858993459, kl_1103515245, kl_1431655765, kl_1640531535, kl_2000000000, r8, r1, xsi_r, Nat.reduceAdd])
            rfl
          · first | exact True.intro | omega | assumption
        | with_reducible apply wp_is
          · (try simp (disch := omega) only [bi, Int.add_zero, Int.zero_add, true_or, or_true, true_and, and_true, not_false_eq_true, not_true_eq_false, if_true, if_false, if_pos, if_neg, ki_add, ki_sub, ki_mul, ki_neg, ki_lt, ki_le, ki_eq, ki_cl, ki_div, ki_ite, ck5, kl_0, kl_1, kl_2, kl_3, kl_4, kl_5, kl_6, kl_7, kl_8, kl_9, kl_10, kl_11, kl_12, kl_13, kl_14, kl_16, kl_20, kl_21, kl_24, kl_29, kl_30, kl_31, kl_33, kl_35, kl_37, kl_38, kl_39, kl_40, kl_41, kl_42, kl_43, kl_44, kl_45, kl_46, kl_47, kl_48, kl_49, kl_50, kl_51, kl_52, kl_53, kl_54, kl_55, kl_56, kl_57, kl_58, kl_59, kl_60, kl_61, kl_62, kl_63, kl_64, kl_70, kl_80, kl_81, kl_97, kl_98, kl_99, kl_100, kl_101, kl_102, kl_103, kl_104, kl_105, kl_106, kl_107, kl_108, kl_109, kl_110, kl_111, kl_112, kl_113, kl_114, kl_115, kl_120, kl_124, kl_126, kl_130, kl_255, kl_720, kl_2048, kl_10000, kl_12345, kl_252645135, kl_858993459, kl_1103515245, kl_1431655765, kl_1640531535, kl_2000000000, r8, r1, xsi_r, Nat.reduceAdd])
            rfl
          all_goals intro _
          all_goals try (exfalso; first | (rename_i q; exact q trivial) | (rename_i q; exact q) | omega)
        | with_reducible apply wp_mr
        | with_reducible apply wp_b
          · simp (disch := omega) only [Int.add_zero, Int.zero_add, true_or, or_true, true_and, and_true, not_false_eq_true, not_true_eq_false, if_true, if_false, if_pos, if_neg, ki_add, ki_sub, ki_mul, ki_neg, ki_lt, ki_le, ki_eq, ki_cl, ki_div, ki_ite, ck5, kl_0, kl_1, kl_2, kl_3, kl_4, kl_5, kl_6, kl_7, kl_8, kl_9, kl_10, kl_11, kl_12, kl_13, kl_14, kl_16, kl_20, kl_21, kl_24, kl_29, kl_30, kl_31, kl_33, kl_35, kl_37, kl_38, kl_39, kl_40, kl_41, kl_42, kl_43, kl_44, kl_45, kl_46, kl_47, kl_48, kl_49, kl_50, kl_51, kl_52, kl_53, kl_54, kl_55, kl_56, kl_57, kl_58, kl_59, kl_60, kl_61, kl_62, kl_63, kl_64, kl_70, kl_80, kl_81, kl_97, kl_98, kl_99, kl_100, kl_101, kl_102, kl_103, kl_104, kl_105, kl_106, kl_107, kl_108, kl_109, kl_110, kl_111, kl_112, kl_113, kl_114, kl_115, kl_120, kl_124, kl_126, kl_130, kl_255, kl_720, kl_2048, kl_10000, kl_12345, kl_252645135, kl_858993459, kl_1103515245, kl_1431655765, kl_1640531535, kl_2000000000, r8, r1, xsi_r, Nat.reduceAdd]
            rfl
          all_goals intro _
          all_goals try (exfalso; first | (rename_i q; exact q trivial) | (rename_i q; exact q) | omega)
        | with_reducible apply wp_oe
          · simp (disch := omega) only [Int.add_zero, Int.zero_add, true_or, or_true, true_and, and_true, not_false_eq_true, not_true_eq_false, if_true, if_false, if_pos, if_neg, ki_add, ki_sub, ki_mul, ki_neg, ki_lt, ki_le, ki_eq, ki_cl, ki_div, ki_ite, ck5, kl_0, kl_1, kl_2, kl_3, kl_4, kl_5, kl_6, kl_7, kl_8, kl_9, kl_10, kl_11, kl_12, kl_13, kl_14, kl_16, kl_20, kl_21, kl_24, kl_29, kl_30, kl_31, kl_33, kl_35, kl_37, kl_38, kl_39, kl_40, kl_41, kl_42, kl_43, kl_44, kl_45, kl_46, kl_47, kl_48, kl_49, kl_50, kl_51, kl_52, kl_53, kl_54, kl_55, kl_56, kl_57, kl_58, kl_59, kl_60, kl_61, kl_62, kl_63, kl_64, kl_70, kl_80, kl_81, kl_97, kl_98, kl_99, kl_100, kl_101, kl_102, kl_103, kl_104, kl_105, kl_106, kl_107, kl_108, kl_109, kl_110, kl_111, kl_112, kl_113, kl_114, kl_115, kl_120, kl_124, kl_126, kl_130, kl_255, kl_720, kl_2048, kl_10000, kl_12345, kl_252645135, kl_858993459, kl_1103515245, kl_1431655765, kl_1640531535, kl_2000000000, r8, r1, xsi_r, Nat.reduceAdd]
            try rfl
        | with_reducible apply wp_sv
          · (try simp (disch := omega) only [bi, Int.add_zero, Int.zero_add, true_or, or_true, true_and, and_true, not_false_eq_true, not_true_eq_false, if_true, if_false, if_pos, if_neg, ki_add, ki_sub, ki_mul, ki_neg, ki_lt, ki_le, ki_eq, ki_cl, ki_div, ki_ite, ck5, kl_0, kl_1, kl_2, kl_3, kl_4, kl_5, kl_6, kl_7, kl_8, kl_9, kl_10, kl_11, kl_12, kl_13, kl_14, kl_16, kl_20, kl_21, kl_24, kl_29, kl_30, kl_31, kl_33, kl_35, kl_37, kl_38, kl_39, kl_40, kl_41, kl_42, kl_43, kl_44, kl_45, kl_46, kl_47, kl_48, kl_49, kl_50, kl_51, kl_52, kl_53, kl_54, kl_55, kl_56, kl_57, kl_58, kl_59, kl_60, kl_61, kl_62, kl_63, kl_64, kl_70, kl_80, kl_81, kl_97, kl_98, kl_99, kl_100, kl_101, kl_102, kl_103, kl_104, kl_105, kl_106, kl_107, kl_108, kl_109, kl_110, kl_111, kl_112, kl_113, kl_114, kl_115, kl_120, kl_124, kl_126, kl_130, kl_255, kl_720, kl_2048, kl_10000, kl_12345, kl_252645135, kl_858993459, kl_1103515245, kl_1431655765, kl_1640531535, kl_2000000000, r8, r1, xsi_r, Nat.reduceAdd])
            rfl
        | with_reducible apply wp_so
      exact ⟨rfl, hx_led hh (by omega), fr_tr (fr_w hf (fun k hk => by unfold qX2; omega)) (fr_si (by unfold qX2; omega)), lawX_c (lawX_f lX hf (fun k hk => by omega)) (by omega)⟩
    · repeat' first
        | with_reducible apply wp_bd
          · (try simp (disch := omega) only [bi, Int.add_zero, Int.zero_add, true_or, or_true, true_and, and_true, not_false_eq_true, not_true_eq_false, if_true, if_false, if_pos, if_neg, ki_add, ki_sub, ki_mul, ki_neg, ki_lt, ki_le, ki_eq, ki_cl, ki_div, ki_ite, ck5, kl_0, kl_1, kl_2, kl_3, kl_4, kl_5, kl_6, kl_7, kl_8, kl_9, kl_10, kl_11, kl_12, kl_13, kl_14, kl_16, kl_20, kl_21, kl_24, kl_29, kl_30, kl_31, kl_33, kl_35, kl_37, kl_38, kl_39, kl_40, kl_41, kl_42, kl_43, kl_44, kl_45, kl_46, kl_47, kl_48, kl_49, kl_50, kl_51, kl_52, kl_53, kl_54, kl_55, kl_56, kl_57, kl_58, kl_59, kl_60, kl_61, kl_62, kl_63, kl_64, kl_70, kl_80, kl_81, kl_97, kl_98, kl_99, kl_100, kl_101, kl_102, kl_103, kl_104, kl_105, kl_106, kl_107, kl_108, kl_109, kl_110, kl_111, kl_112, kl_113, kl_114, kl_115, kl_120, kl_124, kl_126, kl_130, kl_255, kl_720, kl_2048, kl_10000, kl_12345, kl_252645135, kl_858993459, kl_1103515245, kl_1431655765, kl_1640531535, kl_2000000000, m_col])
            rfl
        | with_reducible apply wp_in
          · (try simp (disch := omega) only [bi, Int.add_zero, Int.zero_add, true_or, or_true, true_and, and_true, not_false_eq_true, not_true_eq_false, if_true, if_false, if_pos, if_neg, ki_add, ki_sub, ki_mul, ki_neg, ki_lt, ki_le, ki_eq, ki_cl, ki_div, ki_ite, ck5, kl_0, kl_1, kl_2, kl_3, kl_4, kl_5, kl_6, kl_7, kl_8, kl_9, kl_10, kl_11, kl_12, kl_13, kl_14, kl_16, kl_20, kl_21, kl_24, kl_29, kl_30, kl_31, kl_33, kl_35, kl_37, kl_38, kl_39, kl_40, kl_41, kl_42, kl_43, kl_44, kl_45, kl_46, kl_47, kl_48, kl_49, kl_50, kl_51, kl_52, kl_53, kl_54, kl_55, kl_56, kl_57, kl_58, kl_59, kl_60, kl_61, kl_62, kl_63, kl_64, kl_70, kl_80, kl_81, kl_97, kl_98, kl_99, kl_100, kl_101, kl_102, kl_103, kl_104, kl_105, kl_106, kl_107, kl_108, kl_109, kl_110, kl_111, kl_112, kl_113, kl_114, kl_115, kl_120, kl_124, kl_126, kl_130, kl_255, kl_720, kl_2048, kl_10000, kl_12345, kl_252645135, kl_858993459, kl_1103515245, kl_1431655765, kl_1640531535, kl_2000000000, m_col])
            rfl
          · decide
          · omega
          · omega
        | with_reducible apply wp_gd
          · (try simp (disch := omega) only [bi, Int.add_zero, Int.zero_add, true_or, or_true, true_and, and_true, not_false_eq_true, not_true_eq_false, if_true, if_false, if_pos, if_neg, ki_add, ki_sub, ki_mul, ki_neg, ki_lt, ki_le, ki_eq, ki_cl, ki_div, ki_ite, ck5, kl_0, kl_1, kl_2, kl_3, kl_4, kl_5, kl_6, kl_7, kl_8, kl_9, kl_10, kl_11, kl_12, kl_13, kl_14, kl_16, kl_20, kl_21, kl_24, kl_29, kl_30, kl_31, kl_33, kl_35, kl_37, kl_38, kl_39, kl_40, kl_41, kl_42, kl_43, kl_44, kl_45, kl_46, kl_47, kl_48, kl_49, kl_50, kl_51, kl_52, kl_53, kl_54, kl_55, kl_56, kl_57, kl_58, kl_59, kl_60, kl_61, kl_62, kl_63, kl_64, kl_70, kl_80, kl_81, kl_97, kl_98, kl_99, kl_100, kl_101, kl_102, kl_103, kl_104, kl_105, kl_106, kl_107, kl_108, kl_109, kl_110, kl_111, kl_112, kl_113, kl_114, kl_115, kl_120, kl_124, kl_126, kl_130, kl_255, kl_720, kl_2048, kl_10000, kl_12345, kl_252645135, kl_858993459, kl_1103515245, kl_1431655765, kl_1640531535, kl_2000000000, m_col])
            rfl
          · first | exact True.intro | omega | assumption
        | with_reducible apply wp_is
          · (try simp (disch := omega) only [bi, Int.add_zero, Int.zero_add, true_or, or_true, true_and, and_true, not_false_eq_true, not_true_eq_false, if_true, if_false, if_pos, if_neg, ki_add, ki_sub, ki_mul, ki_neg, ki_lt, ki_le, ki_eq, ki_cl, ki_div, ki_ite, ck5, kl_0, kl_1, kl_2, kl_3, kl_4, kl_5, kl_6, kl_7, kl_8, kl_9, kl_10, kl_11, kl_12, kl_13, kl_14, kl_16, kl_20, kl_21, kl_24, kl_29, kl_30, kl_31, kl_33, kl_35, kl_37, kl_38, kl_39, kl_40, kl_41, kl_42, kl_43, kl_44, kl_45, kl_46, kl_47, kl_48, kl_49, kl_50, kl_51, kl_52, kl_53, kl_54, kl_55, kl_56, kl_57, kl_58, kl_59, kl_60, kl_61, kl_62, kl_63, kl_64, kl_70, kl_80, kl_81, kl_97, kl_98, kl_99, kl_100, kl_101, kl_102, kl_103, kl_104, kl_105, kl_106, kl_107, kl_108, kl_109, kl_110, kl_111, kl_112, kl_113, kl_114, kl_115, kl_120, kl_124, kl_126, kl_130, kl_255, kl_720, kl_2048, kl_10000, kl_12345, kl_252645135, kl_858993459, kl_1103515245, kl_1431655765, kl_1640531535, kl_2000000000, m_col])
            rfl
          all_goals intro _
          all_goals try (exfalso; first | (rename_i q; exact q trivial) | (rename_i q; exact q) | omega)
        | with_reducible apply wp_mr
        | with_reducible apply wp_b
          · simp (disch := omega) only [Int.add_zero, Int.zero_add, true_or, or_true, true_and, and_true, not_false_eq_true, not_true_eq_false, if_true, if_false, if_pos, if_neg, ki_add, ki_sub, ki_mul, ki_neg, ki_lt, ki_le, ki_eq, ki_cl, ki_div, ki_ite, ck5, kl_0, kl_1, kl_2, kl_3, kl_4, kl_5, kl_6, kl_7, kl_8, kl_9, kl_10, kl_11, kl_12, kl_13, kl_14, kl_16, kl_20, kl_21, kl_24, kl_29, kl_30, kl_31, kl_33, kl_35, kl_37, kl_38, kl_39, kl_40, kl_41, kl_42, kl_43, kl_44, kl_45, kl_46, kl_47, kl_48, kl_49, kl_50, kl_51, kl_52, kl_53, kl_54, kl_55, kl_56, kl_57, kl_58, kl_59, kl_60, kl_61, kl_62, kl_63, kl_64, kl_70, kl_80, kl_81, kl_97, kl_98, kl_99, kl_100, kl_101, kl_102, kl_103, kl_104, kl_105, kl_106, kl_107, kl_108, kl_109, kl_110, kl_111, kl_112, kl_113, kl_114, kl_115, kl_120, kl_124, kl_126, kl_130, kl_255, kl_720, kl_2048, kl_10000, kl_12345, kl_252645135, kl_858993459, kl_1103515245, kl_1431655765, kl_1640531535, kl_2000000000, m_col]
            rfl
          all_goals intro _
          all_goals try (exfalso; first | (rename_i q; exact q trivial) | (rename_i q; exact q) | omega)
        | with_reducible apply wp_oe
          · simp (disch := omega) only [Int.add_zero, Int.zero_add, true_or, or_true, true_and, and_true, not_false_eq_true, not_true_eq_false, if_true, if_false, if_pos, if_neg, ki_add, ki_sub, ki_mul, ki_neg, ki_lt, ki_le, ki_eq, ki_cl, ki_div, ki_ite, ck5, kl_0, kl_1, kl_2, kl_3, kl_4, kl_5, kl_6, kl_7, kl_8, kl_9, kl_10, kl_11, kl_12, kl_13, kl_14, kl_16, kl_20, kl_21, kl_24, kl_29, kl_30, kl_31, kl_33, kl_35, kl_37, kl_38, kl_39, kl_40, kl_41, kl_42, kl_43, kl_44, kl_45, kl_46, kl_47, kl_48, kl_49, kl_50, kl_51, kl_52, kl_53, kl_54, kl_55, kl_56, kl_57, kl_58, kl_59, kl_60, kl_61, kl_62, kl_63, kl_64, kl_70, kl_80, kl_81, kl_97, kl_98, kl_99, kl_100, kl_101, kl_102, kl_103, kl_104, kl_105, kl_106, kl_107, kl_108, kl_109, kl_110, kl_111, kl_112, kl_113, kl_114, kl_115, kl_120, kl_124, kl_126, kl_130, kl_255, kl_720, kl_2048, kl_10000, kl_12345, kl_252645135, kl_858993459, kl_1103515245, kl_1431655765, kl_1640531535, kl_2000000000, m_col]
            try rfl
        | with_reducible apply wp_sv
          · (try simp (disch := omega) only [bi, Int.add_zero, Int.zero_add, true_or, or_true, true_and, and_true, not_false_eq_true, not_true_eq_false, if_true, if_false, if_pos, if_neg, ki_add, ki_sub, ki_mul, ki_neg, ki_lt, ki_le, ki_eq, ki_cl, ki_div, ki_ite, ck5, kl_0, kl_1, kl_2, kl_3, kl_4, kl_5, kl_6, kl_7, kl_8, kl_9, kl_10, kl_11, kl_12, kl_13, kl_14, kl_16, kl_20, kl_21, kl_24, kl_29, kl_30, kl_31, kl_33, kl_35, kl_37, kl_38, kl_39, kl_40, kl_41, kl_42, kl_43, kl_44, kl_45, kl_46, kl_47, kl_48, kl_49, kl_50, kl_51, kl_52, kl_53, kl_54, kl_55, kl_56, kl_57, kl_58, kl_59, kl_60, kl_61, kl_62, kl_63, kl_64, kl_70, kl_80, kl_81, kl_97, kl_98, kl_99, kl_100, kl_101, kl_102, kl_103, kl_104, kl_105, kl_106, kl_107, kl_108, kl_109, kl_110, kl_111, kl_112, kl_113, kl_114, kl_115, kl_120, kl_124, kl_126, kl_130, kl_255, kl_720, kl_2048, kl_10000, kl_12345, kl_252645135, kl_858993459, kl_1103515245, kl_1431655765, kl_1640531535, kl_2000000000, m_col])
            rfl
        | with_reducible apply wp_so
      refine wp_lp (fun n s => ∃ l, s.2 = ki (5 * c + l) ∧ 0 ≤ l ∧ l ≤ η 1 c ∧ n = (η 1 c - l).toNat ∧ vw s.1 5 30 (mix (5 * c + l) (saS η c) (η 6)) ∧ fr SM s.1 (fun k => k = 5) ∧ lawM gn s.1) (η 1 c).toNat ?_ ?_ (by omega)
      · intro n s hI
        obtain ⟨S, x⟩ := s
        obtain ⟨l, hx1, l0, l1, hn, w6, hf, hl1⟩ := hI
        dsimp only at hx1 w6 hf hl1
        subst hx1
        show wp (f_X12_salt_13 (ki c) S (ki (5 * c + l))) _
        obtain ⟨j1, j2, j3, j4, j5, j6, j7, j8, j9, j10, j11⟩ := id hM
        have r1 : S.1 1 c.toNat = ki (η 1 c) := by rw [hf.2 1 (by omega)]; exact j1 c hc.1 (by omega)
        have r9 : S.1 9 (2 : Int).toNat = ki (η 8 2) := by rw [hf.2 9 (by omega)]; exact j8 2 (by omega) (by omega)
        unfold f_X12_salt_13 f_X12_salt_40
        by_cases hl : l = η 1 c
        · subst hl
          repeat' first
            | with_reducible apply wp_bd
              · (try simp (disch := omega) only [bi, Int.add_zero, Int.zero_add, true_or, or_true, true_and, and_true, not_false_eq_true, not_true_eq_false, if_true, if_false, if_pos, if_neg, ki_add, ki_sub, ki_mul, ki_neg, ki_lt, ki_le, ki_eq, ki_cl, ki_div, ki_ite, ck5, kl_0, kl_1, kl_2, kl_3, kl_4, kl_5, kl_6, kl_7, kl_8, kl_9, kl_10, kl_11, kl_12, kl_13, kl_14, kl_16, kl_20, kl_21, kl_24, kl_29, kl_30, kl_31, kl_33, kl_35, kl_37, kl_38, kl_39, kl_40, kl_41, kl_42, kl_43, kl_44, kl_45, kl_46, kl_47, kl_48, kl_49, kl_50, kl_51, kl_52, kl_53, kl_54, kl_55, kl_56, kl_57, kl_58, kl_59, kl_60, kl_61, kl_62, kl_63, kl_64, kl_70, kl_80, kl_81, kl_97, kl_98, kl_99, kl_100, kl_101, kl_102, kl_103, kl_104, kl_105, kl_106, kl_107, kl_108, kl_109, kl_110, kl_111, kl_112, kl_113, kl_114, kl_115, kl_120, kl_124, kl_126, kl_130, kl_255, kl_720, kl_2048, kl_10000, kl_12345, kl_252645135, kl_858993459, kl_1103515245, kl_1431655765, kl_1640531535, kl_2000000000, r1, r9, xsi_r])
                rfl
            | with_reducible apply wp_in
              · (try simp (disch := omega) only [bi, Int.add_zero, Int.zero_add, true_or, or_true, true_and, and_true, not_false_eq_true, not_true_eq_false, if_true, if_false, if_pos, if_neg, ki_add, ki_sub, ki_mul, ki_neg, ki_lt, ki_le, ki_eq, ki_cl, ki_div, ki_ite, ck5, kl_0, kl_1, kl_2, kl_3, kl_4, kl_5, kl_6, kl_7, kl_8, kl_9, kl_10, kl_11, kl_12, kl_13, kl_14, kl_16, kl_20, kl_21, kl_24, kl_29, kl_30, kl_31, kl_33, kl_35, kl_37, kl_38, kl_39, kl_40, kl_41, kl_42, kl_43, kl_44, kl_45, kl_46, kl_47, kl_48, kl_49, kl_50, kl_51, kl_52, kl_53, kl_54, kl_55, kl_56, kl_57, kl_58, kl_59, kl_60, kl_61, kl_62, kl_63, kl_64, kl_70, kl_80, kl_81, kl_97, kl_98, kl_99, kl_100, kl_101, kl_102, kl_103, kl_104, kl_105, kl_106, kl_107, kl_108, kl_109, kl_110, kl_111, kl_112, kl_113, kl_114, kl_115, kl_120, kl_124, kl_126, kl_130, kl_255, kl_720, kl_2048, kl_10000, kl_12345, kl_252645135, kl_858993459, kl_1103515245, kl_1431655765, kl_1640531535, kl_2000000000, r1, r9, xsi_r])
                rfl
              · decide
              · omega
              · omega
            | with_reducible apply wp_gd
              · (try simp (disch := omega) only [bi, Int.add_zero, Int.zero_add, true_or, or_true, true_and, and_true, not_false_eq_true, not_true_eq_false, if_true, if_false, if_pos, if_neg, ki_add, ki_sub, ki_mul, ki_neg, ki_lt, ki_le, ki_eq, ki_cl, ki_div, ki_ite, ck5, kl_0, kl_1, kl_2, kl_3, kl_4, kl_5, kl_6, kl_7, kl_8, kl_9, kl_10, kl_11, kl_12, kl_13, kl_14, kl_16, kl_20, kl_21, kl_24, kl_29, kl_30, kl_31, kl_33, kl_35, kl_37, kl_38, kl_39, kl_40, kl_41, kl_42, kl_43, kl_44, kl_45, kl_46, kl_47, kl_48, kl_49, kl_50, kl_51, kl_52, kl_53, kl_54, kl_55, kl_56, kl_57, kl_58, kl_59, kl_60, kl_61, kl_62, kl_63, kl_64, kl_70, kl_80, kl_81, kl_97, kl_98, kl_99, kl_100, kl_101, kl_102, kl_103, kl_104, kl_105, kl_106, kl_107, kl_108, kl_109, kl_110, kl_111, kl_112, kl_113, kl_114, kl_115, kl_120, kl_124, kl_126, kl_130, kl_255, kl_720, kl_2048, kl_10000, kl_12345, kl_252645135, kl_858993459, kl_1103515245, kl_1431655765, kl_1640531535, kl_2000000000, r1, r9, xsi_r])
                rfl
              · first | exact True.intro | omega | assumption
            | with_reducible apply wp_is
              · (try simp (disch := omega) only [bi, Int.add_zero, Int.zero_add, true_or, or_true, true_and, and_true, not_false_eq_true, not_true_eq_false, if_true, if_false, if_pos, if_neg, ki_add, ki_sub, ki_mul, ki_neg, ki_lt, ki_le, ki_eq, ki_cl, ki_div, ki_ite, ck5, kl_0, kl_1, kl_2, kl_3, kl_4, kl_5, kl_6, kl_7, kl_8, kl_9, kl_10, kl_11, kl_12, kl_13, kl_14, kl_16, kl_20, kl_21, kl_24, kl_29, kl_30, kl_31, kl_33, kl_35, kl_37, kl_38, kl_39, kl_40, kl_41, kl_42, kl_43, kl_44, kl_45, kl_46, kl_47, kl_48, kl_49, kl_50, kl_51, kl_52, kl_53, kl_54, kl_55, kl_56, kl_57, kl_58, kl_59, kl_60, kl_61, kl_62, kl_63, kl_64, kl_70, kl_80, kl_81, kl_97, kl_98, kl_99, kl_100, kl_101, kl_102, kl_103, kl_104, kl_105, kl_106, kl_107, kl_108, kl_109, kl_110, kl_111, kl_112, kl_113, kl_114, kl_115, kl_120, kl_124, kl_126, kl_130, kl_255, kl_720, kl_2048, kl_10000, kl_12345, kl_252645135, kl_858993459, kl_1103515245, kl_1431655765, kl_1640531535, kl_2000000000, r1, r9, xsi_r])
                rfl
              all_goals intro _
              all_goals try (exfalso; first | (rename_i q; exact q trivial) | (rename_i q; exact q) | omega)
            | with_reducible apply wp_mr
            | with_reducible apply wp_b
              · simp (disch := omega) only [Int.add_zero, Int.zero_add, true_or, or_true, true_and, and_true, not_false_eq_true, not_true_eq_false, if_true, if_false, if_pos, if_neg, ki_add, ki_sub, ki_mul, ki_neg, ki_lt, ki_le, ki_eq, ki_cl, ki_div, ki_ite, ck5, kl_0, kl_1, kl_2, kl_3, kl_4, kl_5, kl_6, kl_7, kl_8, kl_9, kl_10, kl_11, kl_12, kl_13, kl_14, kl_16, kl_20, kl_21, kl_24, kl_29, kl_30, kl_31, kl_33, kl_35, kl_37, kl_38, kl_39, kl_40, kl_41, kl_42, kl_43, kl_44, kl_45, kl_46, kl_47, kl_48, kl_49, kl_50, kl_51, kl_52, kl_53, kl_54, kl_55, kl_56, kl_57, kl_58, kl_59, kl_60, kl_61, kl_62, kl_63, kl_64, kl_70, kl_80, kl_81, kl_97, kl_98, kl_99, kl_100, kl_101, kl_102, kl_103, kl_104, kl_105, kl_106, kl_107, kl_108, kl_109, kl_110, kl_111, kl_112, kl_113, kl_114, kl_115, kl_120, kl_124, kl_126, kl_130, kl_255, kl_720, kl_2048, kl_10000, kl_12345, kl_252645135, kl_858993459, kl_1103515245, kl_1431655765, kl_1640531535, kl_2000000000, r1, r9, xsi_r]
                rfl
              all_goals intro _
              all_goals try (exfalso; first | (rename_i q; exact q trivial) | (rename_i q; exact q) | omega)
            | with_reducible apply wp_oe
              · simp (disch := omega) only [Int.add_zero, Int.zero_add, true_or, or_true, true_and, and_true, not_false_eq_true, not_true_eq_false, if_true, if_false, if_pos, if_neg, ki_add, ki_sub, ki_mul, ki_neg, ki_lt, ki_le, ki_eq, ki_cl, ki_div, ki_ite, ck5, kl_0, kl_1, kl_2, kl_3, kl_4, kl_5, kl_6, kl_7, kl_8, kl_9, kl_10, kl_11, kl_12, kl_13, kl_14, kl_16, kl_20, kl_21, kl_24, kl_29, kl_30, kl_31, kl_33, kl_35, kl_37, kl_38, kl_39, kl_40, kl_41, kl_42, kl_43, kl_44, kl_45, kl_46, kl_47, kl_48, kl_49, kl_50, kl_51, kl_52, kl_53, kl_54, kl_55, kl_56, kl_57, kl_58, kl_59, kl_60, kl_61, kl_62, kl_63, kl_64, kl_70, kl_80, kl_81, kl_97, kl_98, kl_99, kl_100, kl_101, kl_102, kl_103, kl_104, kl_105, kl_106, kl_107, kl_108, kl_109, kl_110, kl_111, kl_112, kl_113, kl_114, kl_115, kl_120, kl_124, kl_126, kl_130, kl_255, kl_720, kl_2048, kl_10000, kl_12345, kl_252645135, kl_858993459, kl_1103515245, kl_1431655765, kl_1640531535, kl_2000000000, r1, r9, xsi_r]
                try rfl
            | with_reducible apply wp_sv
              · (try simp (disch := omega) only [bi, Int.add_zero, Int.zero_add, true_or, or_true, true_and, and_true, not_false_eq_true, not_true_eq_false, if_true, if_false, if_pos, if_neg, ki_add, ki_sub, ki_mul, ki_neg, ki_lt, ki_le, ki_eq, ki_cl, ki_div, ki_ite, ck5, kl_0, kl_1, kl_2, kl_3, kl_4, kl_5, kl_6, kl_7, kl_8, kl_9, kl_10, kl_11, kl_12, kl_13, kl_14, kl_16, kl_20, kl_21, kl_24, kl_29, kl_30, kl_31, kl_33, kl_35, kl_37, kl_38, kl_39, kl_40, kl_41, kl_42, kl_43, kl_44, kl_45, kl_46, kl_47, kl_48, kl_49, kl_50, kl_51, kl_52, kl_53, kl_54, kl_55, kl_56, kl_57, kl_58, kl_59, kl_60, kl_61, kl_62, kl_63, kl_64, kl_70, kl_80, kl_81, kl_97, kl_98, kl_99, kl_100, kl_101, kl_102, kl_103, kl_104, kl_105, kl_106, kl_107, kl_108, kl_109, kl_110, kl_111, kl_112, kl_113, kl_114, kl_115, kl_120, kl_124, kl_126, kl_130, kl_255, kl_720, kl_2048, kl_10000, kl_12345, kl_252645135, kl_858993459, kl_1103515245, kl_1431655765, kl_1640531535, kl_2000000000, r1, r9, xsi_r])
                rfl
            | with_reducible apply wp_so
          have hM2 : hm0 (sltS c η) S := ⟨vw_f j1 hf (by omega), vw_f j2 hf (by omega), vw_f j3 hf (by omega), vw_f j4 hf (by omega), vw_f j5 hf (by omega), vw_mixE w6 (fun z h1 h2 => saS_off (fun q => by obtain ⟨⟨g0, g1, g2⟩, e⟩ := q; rw [e] at g2; omega)), vw_f j7 hf (by omega), vw_f j8 hf (by omega), by rw [hf.2 0 (by omega)]; exact j9, by rw [hf.2 8 (by omega)]; exact j10, by rw [hf.2 8 (by omega)]; exact j11⟩
          exact qr ⟨rfl, hm0_led hM2 (by omega) (by omega), frM2_tr (frM2_f hf (fun k hk => by omega)) (frM2_i (by unfold qM2; omega)), lawM_c hl1 (by omega)⟩
        · have e0 : (5 * c + l) / 5 = c := by omega
          have hon : hasS η (5 * c + l) ∧ (5 * c + l) / 5 = c := ⟨⟨by omega, by omega, by rw [e0]; omega⟩, e0⟩
          have e4 := saS_on hon
          repeat' first
            | with_reducible apply wp_bd
              · (try simp (disch := omega) only [bi, Int.add_zero, Int.zero_add, true_or, or_true, true_and, and_true, not_false_eq_true, not_true_eq_false, if_true, if_false, if_pos, if_neg, ki_add, ki_sub, ki_mul, ki_neg, ki_lt, ki_le, ki_eq, ki_cl, ki_div, ki_ite, ck5, kl_0, kl_1, kl_2, kl_3, kl_4, kl_5, kl_6, kl_7, kl_8, kl_9, kl_10, kl_11, kl_12, kl_13, kl_14, kl_16, kl_20, kl_21, kl_24, kl_29, kl_30, kl_31, kl_33, kl_35, kl_37, kl_38, kl_39, kl_40, kl_41, kl_42, kl_43, kl_44, kl_45, kl_46, kl_47, kl_48, kl_49, kl_50, kl_51, kl_52, kl_53, kl_54, kl_55, kl_56, kl_57, kl_58, kl_59, kl_60, kl_61, kl_62, kl_63, kl_64, kl_70, kl_80, kl_81, kl_97, kl_98, kl_99, kl_100, kl_101, kl_102, kl_103, kl_104, kl_105, kl_106, kl_107, kl_108, kl_109, kl_110, kl_111, kl_112, kl_113, kl_114, kl_115, kl_120, kl_124, kl_126, kl_130, kl_255, kl_720, kl_2048, kl_10000, kl_12345, kl_252645135, kl_858993459, kl_1103515245, kl_1431655765, kl_1640531535, kl_2000000000, r1])
                rfl
            | with_reducible apply wp_in
              · (try simp (disch := omega) only [bi, Int.add_zero, Int.zero_add, true_or, or_true, true_and, and_true, not_false_eq_true, not_true_eq_false, if_true, if_false, if_pos, if_neg, ki_add, ki_sub, ki_mul, ki_neg, ki_lt, ki_le, ki_eq, ki_cl, ki_div, ki_ite, ck5, kl_0, kl_1, kl_2, kl_3, kl_4, kl_5, kl_6, kl_7, kl_8, kl_9, kl_10, kl_11, kl_12, kl_13, kl_14, kl_16, kl_20, kl_21, kl_24, kl_29, kl_30, kl_31, kl_33, kl_35, kl_37, kl_38, kl_39, kl_40, kl_41, kl_42, kl_43, kl_44, kl_45, kl_46, kl_47, kl_48, kl_49, kl_50, kl_51, kl_52, kl_53, kl_54, kl_55, kl_56, kl_57, kl_58, kl_59, kl_60, kl_61, kl_62, kl_63, kl_64, kl_70, kl_80, kl_81, kl_97, kl_98, kl_99, kl_100, kl_101, kl_102, kl_103, kl_104, kl_105, kl_106, kl_107, kl_108, kl_109, kl_110, kl_111, kl_112, kl_113, kl_114, kl_115, kl_120, kl_124, kl_126, kl_130, kl_255, kl_720, kl_2048, kl_10000, kl_12345, kl_252645135, kl_858993459, kl_1103515245, kl_1431655765, kl_1640531535, kl_2000000000, r1])
                rfl
              · decide
              · omega
              · omega
            | with_reducible apply wp_gd
              · (try simp (disch := omega) only [bi, Int.add_zero, Int.zero_add, true_or, or_true, true_and, and_true, not_false_eq_true, not_true_eq_false, if_true, if_false, if_pos, if_neg, ki_add, ki_sub, ki_mul, ki_neg, ki_lt, ki_le, ki_eq, ki_cl, ki_div, ki_ite, ck5, kl_0, kl_1, kl_2, kl_3, kl_4, kl_5, kl_6, kl_7, kl_8, kl_9, kl_10, kl_11, kl_12, kl_13, kl_14, kl_16, kl_20, kl_21, kl_24, kl_29, kl_30, kl_31, kl_33, kl_35, kl_37, kl_38, kl_39, kl_40, kl_41, kl_42, kl_43, kl_44, kl_45, kl_46, kl_47, kl_48, kl_49, kl_50, kl_51, kl_52, kl_53, kl_54, kl_55, kl_56, kl_57, kl_58, kl_59, kl_60, kl_61, kl_62, kl_63, kl_64, kl_70, kl_80, kl_81, kl_97, kl_98, kl_99, kl_100, kl_101, kl_102, kl_103, kl_104, kl_105, kl_106, kl_107, kl_108, kl_109, kl_110, kl_111, kl_112, kl_113, kl_114, kl_115, kl_120, kl_124, kl_126, kl_130, kl_255, kl_720, kl_2048, kl_10000, kl_12345, kl_252645135, kl_858993459, kl_1103515245, kl_1431655765, kl_1640531535, kl_2000000000, r1])
                rfl
              · first | exact True.intro | omega | assumption
            | with_reducible apply wp_is
              · (try simp (disch := omega) only [bi, Int.add_zero, Int.zero_add, true_or, or_true, true_and, and_true, not_false_eq_true, not_true_eq_false, if_true, if_false, if_pos, if_neg, ki_add, ki_sub, ki_mul, ki_neg, ki_lt, ki_le, ki_eq, ki_cl, ki_div, ki_ite, ck5, kl_0, kl_1, kl_2, kl_3, kl_4, kl_5, kl_6, kl_7, kl_8, kl_9, kl_10, kl_11, kl_12, kl_13, kl_14, kl_16, kl_20, kl_21, kl_24, kl_29, kl_30, kl_31, kl_33, kl_35, kl_37, kl_38, kl_39, kl_40, kl_41, kl_42, kl_43, kl_44, kl_45, kl_46, kl_47, kl_48, kl_49, kl_50, kl_51, kl_52, kl_53, kl_54, kl_55, kl_56, kl_57, kl_58, kl_59, kl_60, kl_61, kl_62, kl_63, kl_64, kl_70, kl_80, kl_81, kl_97, kl_98, kl_99, kl_100, kl_101, kl_102, kl_103, kl_104, kl_105, kl_106, kl_107, kl_108, kl_109, kl_110, kl_111, kl_112, kl_113, kl_114, kl_115, kl_120, kl_124, kl_126, kl_130, kl_255, kl_720, kl_2048, kl_10000, kl_12345, kl_252645135, kl_858993459, kl_1103515245, kl_1431655765, kl_1640531535, kl_2000000000, r1])
                rfl
              all_goals intro _
              all_goals try (exfalso; first | (rename_i q; exact q trivial) | (rename_i q; exact q) | omega)
            | with_reducible apply wp_mr
            | with_reducible apply wp_b
              · simp (disch := omega) only [Int.add_zero, Int.zero_add, true_or, or_true, true_and, and_true, not_false_eq_true, not_true_eq_false, if_true, if_false, if_pos, if_neg, ki_add, ki_sub, ki_mul, ki_neg, ki_lt, ki_le, ki_eq, ki_cl, ki_div, ki_ite, ck5, kl_0, kl_1, kl_2, kl_3, kl_4, kl_5, kl_6, kl_7, kl_8, kl_9, kl_10, kl_11, kl_12, kl_13, kl_14, kl_16, kl_20, kl_21, kl_24, kl_29, kl_30, kl_31, kl_33, kl_35, kl_37, kl_38, kl_39, kl_40, kl_41, kl_42, kl_43, kl_44, kl_45, kl_46, kl_47, kl_48, kl_49, kl_50, kl_51, kl_52, kl_53, kl_54, kl_55, kl_56, kl_57, kl_58, kl_59, kl_60, kl_61, kl_62, kl_63, kl_64, kl_70, kl_80, kl_81, kl_97, kl_98, kl_99, kl_100, kl_101, kl_102, kl_103, kl_104, kl_105, kl_106, kl_107, kl_108, kl_109, kl_110, kl_111, kl_112, kl_113, kl_114, kl_115, kl_120, kl_124, kl_126, kl_130, kl_255, kl_720, kl_2048, kl_10000, kl_12345, kl_252645135, kl_858993459, kl_1103515245, kl_1431655765, kl_1640531535, kl_2000000000, r1]
                rfl
              all_goals intro _
              all_goals try (exfalso; first | (rename_i q; exact q trivial) | (rename_i q; exact q) | omega)
            | with_reducible apply wp_oe
              · simp (disch := omega) only [Int.add_zero, Int.zero_add, true_or, or_true, true_and, and_true, not_false_eq_true, not_true_eq_false, if_true, if_false, if_pos, if_neg, ki_add, ki_sub, ki_mul, ki_neg, ki_lt, ki_le, ki_eq, ki_cl, ki_div, ki_ite, ck5, kl_0, kl_1, kl_2, kl_3, kl_4, kl_5, kl_6, kl_7, kl_8, kl_9, kl_10, kl_11, kl_12, kl_13, kl_14, kl_16, kl_20, kl_21, kl_24, kl_29, kl_30, kl_31, kl_33, kl_35, kl_37, kl_38, kl_39, kl_40, kl_41, kl_42, kl_43, kl_44, kl_45, kl_46, kl_47, kl_48, kl_49, kl_50, kl_51, kl_52, kl_53, kl_54, kl_55, kl_56, kl_57, kl_58, kl_59, kl_60, kl_61, kl_62, kl_63, kl_64, kl_70, kl_80, kl_81, kl_97, kl_98, kl_99, kl_100, kl_101, kl_102, kl_103, kl_104, kl_105, kl_106, kl_107, kl_108, kl_109, kl_110, kl_111, kl_112, kl_113, kl_114, kl_115, kl_120, kl_124, kl_126, kl_130, kl_255, kl_720, kl_2048, kl_10000, kl_12345, kl_252645135, kl_858993459, kl_1103515245, kl_1431655765, kl_1640531535, kl_2000000000, r1]
                try rfl
            | with_reducible apply wp_sv
              · (try simp (disch := omega) only [bi, Int.add_zero, Int.zero_add, true_or, or_true, true_and, and_true, not_false_eq_true, not_true_eq_false, if_true, if_false, if_pos, if_neg, ki_add, ki_sub, ki_mul, ki_neg, ki_lt, ki_le, ki_eq, ki_cl, ki_div, ki_ite, ck5, kl_0, kl_1, kl_2, kl_3, kl_4, kl_5, kl_6, kl_7, kl_8, kl_9, kl_10, kl_11, kl_12, kl_13, kl_14, kl_16, kl_20, kl_21, kl_24, kl_29, kl_30, kl_31, kl_33, kl_35, kl_37, kl_38, kl_39, kl_40, kl_41, kl_42, kl_43, kl_44, kl_45, kl_46, kl_47, kl_48, kl_49, kl_50, kl_51, kl_52, kl_53, kl_54, kl_55, kl_56, kl_57, kl_58, kl_59, kl_60, kl_61, kl_62, kl_63, kl_64, kl_70, kl_80, kl_81, kl_97, kl_98, kl_99, kl_100, kl_101, kl_102, kl_103, kl_104, kl_105, kl_106, kl_107, kl_108, kl_109, kl_110, kl_111, kl_112, kl_113, kl_114, kl_115, kl_120, kl_124, kl_126, kl_130, kl_255, kl_720, kl_2048, kl_10000, kl_12345, kl_252645135, kl_858993459, kl_1103515245, kl_1431655765, kl_1640531535, kl_2000000000, r1])
                rfl
            | with_reducible apply wp_so
          refine ql ⟨(η 1 c - (l + 1)).toNat, by omega, l + 1, by rw [show 5 * c + (l + 1) = 5 * c + l + 1 by omega], by omega, by omega, rfl, ?_, fr_tr hf (fr_si (by omega)), lawM_c hl1 (by omega)⟩
          rw [show 5 * c + (l + 1) = 5 * c + l + 1 by omega]
          exact vw_mixw w6 (by omega) (by omega)
      · exact ⟨0, by rw [Int.add_zero], by omega, by omega, by rw [Int.sub_zero], vw_mix0 hM.2.2.2.2.2.1 (fun z h1 h2 => saS_off (fun q => by omega)), fr_rf _ _, lM⟩
  · refine cs_q h (ki (-1)) ?_ ?_
    · repeat' first
        | with_reducible apply wp_bd
          · (try simp (disch := omega) only [bi, Int.add_zero, Int.zero_add, true_or, or_true, true_and, and_true, not_false_eq_true, not_true_eq_false, if_true, if_false, if_pos, if_neg, ki_add, ki_sub, ki_mul, ki_neg, ki_lt, ki_le, ki_eq, ki_cl, ki_div, ki_ite, ck5, kl_0, kl_1, kl_2, kl_3, kl_4, kl_5, kl_6, kl_7, kl_8, kl_9, kl_10, kl_11, kl_12, kl_13, kl_14, kl_16, kl_20, kl_21, kl_24, kl_29, kl_30, kl_31, kl_33, kl_35, kl_37, kl_38, kl_39, kl_40, kl_41, kl_42, kl_43, kl_44, kl_45, kl_46, kl_47, kl_48, kl_49, kl_50, kl_51, kl_52, kl_53, kl_54, kl_55, kl_56, kl_57, kl_58, kl_59, kl_60, kl_61, kl_62, kl_63, kl_64, kl_70, kl_80, kl_81, kl_97, kl_98, kl_99, kl_100, kl_101, kl_102, kl_103, kl_104, kl_105, kl_106, kl_107, kl_108, kl_109, kl_110, kl_111, kl_112, kl_113, kl_114, kl_115, kl_120, kl_124, kl_126, kl_130, kl_255, kl_720, kl_2048, kl_10000, kl_12345, kl_252645135, kl_858993459, kl_1103515245, kl_1431655765, kl_1640531535, kl_2000000000, x_in])
            rfl
        | with_reducible apply wp_in
          · (try simp (disch := omega) only [bi, Int.add_zero, Int.zero_add, true_or, or_true, true_and, and_true, not_false_eq_true, not_true_eq_false, if_true, if_false, if_pos, if_neg, ki_add, ki_sub, ki_mul, ki_neg, ki_lt, ki_le, ki_eq, ki_cl, ki_div, ki_ite, ck5, kl_0, kl_1, kl_2, kl_3, kl_4, kl_5, kl_6, kl_7, kl_8, kl_9, kl_10, kl_11, kl_12, kl_13, kl_14, kl_16, kl_20, kl_21, kl_24, kl_29, kl_30, kl_31, kl_33, kl_35, kl_37, kl_38, kl_39, kl_40, kl_41, kl_42, kl_43, kl_44, kl_45, kl_46, kl_47, kl_48, kl_49, kl_50, kl_51, kl_52, kl_53, kl_54, kl_55, kl_56, kl_57, kl_58, kl_59, kl_60, kl_61, kl_62, kl_63, kl_64, kl_70, kl_80, kl_81, kl_97, kl_98, kl_99, kl_100, kl_101, kl_102, kl_103, kl_104, kl_105, kl_106, kl_107, kl_108, kl_109, kl_110, kl_111, kl_112, kl_113, kl_114, kl_115, kl_120, kl_124, kl_126, kl_130, kl_255, kl_720, kl_2048, kl_10000, kl_12345, kl_252645135, kl_858993459, kl_1103515245, kl_1431655765, kl_1640531535, kl_2000000000, x_in])
            rfl
          · decide
          · omega
          · omega
        | with_reducible apply wp_gd
          · (try simp (disch := omega) only [bi, Int.add_zero, Int.zero_add, true_or, or_true, true_and, and_true, not_false_eq_true, not_true_eq_false, if_true, if_false, if_pos, if_neg, ki_add, ki_sub, ki_mul, ki_neg, ki_lt, ki_le, ki_eq, ki_cl, ki_div, ki_ite, ck5, kl_0, kl_1, kl_2, kl_3, kl_4, kl_5, kl_6, kl_7, kl_8, kl_9, kl_10, kl_11, kl_12, kl_13, kl_14, kl_16, kl_20, kl_21, kl_24, kl_29, kl_30, kl_31, kl_33, kl_35, kl_37, kl_38, kl_39, kl_40, kl_41, kl_42, kl_43, kl_44, kl_45, kl_46, kl_47, kl_48, kl_49, kl_50, kl_51, kl_52, kl_53, kl_54, kl_55, kl_56, kl_57, kl_58, kl_59, kl_60, kl_61, kl_62, kl_63, kl_64, kl_70, kl_80, kl_81, kl_97, kl_98, kl_99, kl_100, kl_101, kl_102, kl_103, kl_104, kl_105, kl_106, kl_107, kl_108, kl_109, kl_110, kl_111, kl_112, kl_113, kl_114, kl_115, kl_120, kl_124, kl_126, kl_130, kl_255, kl_720, kl_2048, kl_10000, kl_12345, kl_252645135, kl_858993459, kl_1103515245, kl_1431655765, kl_1640531535, kl_2000000000, x_in])
            rfl
          · first | exact True.intro | omega | assumption
        | with_reducible apply wp_is
          · (try simp (disch := omega) only [bi, Int.add_zero, Int.zero_add, true_or, or_true, true_and, and_true, not_false_eq_true, not_true_eq_false, if_true, if_false, if_pos, if_neg, ki_add, ki_sub, ki_mul, ki_neg, ki_lt, ki_le, ki_eq, ki_cl, ki_div, ki_ite, ck5, kl_0, kl_1, kl_2, kl_3, kl_4, kl_5, kl_6, kl_7, kl_8, kl_9, kl_10, kl_11, kl_12, kl_13, kl_14, kl_16, kl_20, kl_21, kl_24, kl_29, kl_30, kl_31, kl_33, kl_35, kl_37, kl_38, kl_39, kl_40, kl_41, kl_42, kl_43, kl_44, kl_45, kl_46, kl_47, kl_48, kl_49, kl_50, kl_51, kl_52, kl_53, kl_54, kl_55, kl_56, kl_57, kl_58, kl_59, kl_60, kl_61, kl_62, kl_63, kl_64, kl_70, kl_80, kl_81, kl_97, kl_98, kl_99, kl_100, kl_101, kl_102, kl_103, kl_104, kl_105, kl_106, kl_107, kl_108, kl_109, kl_110, kl_111, kl_112, kl_113, kl_114, kl_115, kl_120, kl_124, kl_126, kl_130, kl_255, kl_720, kl_2048, kl_10000, kl_12345, kl_252645135, kl_858993459, kl_1103515245, kl_1431655765, kl_1640531535, kl_2000000000, x_in])
            rfl
          all_goals intro _
          all_goals try (exfalso; first | (rename_i q; exact q trivial) | (rename_i q; exact q) | omega)
        | with_reducible apply wp_mr
        | with_reducible apply wp_b
          · simp (disch := omega) only [Int.add_zero, Int.zero_add, true_or, or_true, true_and, and_true, not_false_eq_true, not_true_eq_false, if_true, if_false, if_pos, if_neg, ki_add, ki_sub, ki_mul, ki_neg, ki_lt, ki_le, ki_eq, ki_cl, ki_div, ki_ite, ck5, kl_0, kl_1, kl_2, kl_3, kl_4, kl_5, kl_6, kl_7, kl_8, kl_9, kl_10, kl_11, kl_12, kl_13, kl_14, kl_16, kl_20, kl_21, kl_24, kl_29, kl_30, kl_31, kl_33, kl_35, kl_37, kl_38, kl_39, kl_40, kl_41, kl_42, kl_43, kl_44, kl_45, kl_46, kl_47, kl_48, kl_49, kl_50, kl_51, kl_52, kl_53, kl_54, kl_55, kl_56, kl_57, kl_58, kl_59, kl_60, kl_61, kl_62, kl_63, kl_64, kl_70, kl_80, kl_81, kl_97, kl_98, kl_99, kl_100, kl_101, kl_102, kl_103, kl_104, kl_105, kl_106, kl_107, kl_108, kl_109, kl_110, kl_111, kl_112, kl_113, kl_114, kl_115, kl_120, kl_124, kl_126, kl_130, kl_255, kl_720, kl_2048, kl_10000, kl_12345, kl_252645135, kl_858993459, kl_1103515245, kl_1431655765, kl_1640531535, kl_2000000000, x_in]
            rfl
          all_goals intro _
          all_goals try (exfalso; first | (rename_i q; exact q trivial) | (rename_i q; exact q) | omega)
        | with_reducible apply wp_oe
          · simp (disch := omega) only [Int.add_zero, Int.zero_add, true_or, or_true, true_and, and_true, not_false_eq_true, not_true_eq_false, if_true, if_false, if_pos, if_neg, ki_add, ki_sub, ki_mul, ki_neg, ki_lt, ki_le, ki_eq, ki_cl, ki_div, ki_ite, ck5, kl_0, kl_1, kl_2, kl_3, kl_4, kl_5, kl_6, kl_7, kl_8, kl_9, kl_10, kl_11, kl_12, kl_13, kl_14, kl_16, kl_20, kl_21, kl_24, kl_29, kl_30, kl_31, kl_33, kl_35, kl_37, kl_38, kl_39, kl_40, kl_41, kl_42, kl_43, kl_44, kl_45, kl_46, kl_47, kl_48, kl_49, kl_50, kl_51, kl_52, kl_53, kl_54, kl_55, kl_56, kl_57, kl_58, kl_59, kl_60, kl_61, kl_62, kl_63, kl_64, kl_70, kl_80, kl_81, kl_97, kl_98, kl_99, kl_100, kl_101, kl_102, kl_103, kl_104, kl_105, kl_106, kl_107, kl_108, kl_109, kl_110, kl_111, kl_112, kl_113, kl_114, kl_115, kl_120, kl_124, kl_126, kl_130, kl_255, kl_720, kl_2048, kl_10000, kl_12345, kl_252645135, kl_858993459, kl_1103515245, kl_1431655765, kl_1640531535, kl_2000000000, x_in]
            try rfl
        | with_reducible apply wp_sv
          · (try simp (disch := omega) only [bi, Int.add_zero, Int.zero_add, true_or, or_true, true_and, and_true, not_false_eq_true, not_true_eq_false, if_true, if_false, if_pos, if_neg, ki_add, ki_sub, ki_mul, ki_neg, ki_lt, ki_le, ki_eq, ki_cl, ki_div, ki_ite, ck5, kl_0, kl_1, kl_2, kl_3, kl_4, kl_5, kl_6, kl_7, kl_8, kl_9, kl_10, kl_11, kl_12, kl_13, kl_14, kl_16, kl_20, kl_21, kl_24, kl_29, kl_30, kl_31, kl_33, kl_35, kl_37, kl_38, kl_39, kl_40, kl_41, kl_42, kl_43, kl_44, kl_45, kl_46, kl_47, kl_48, kl_49, kl_50, kl_51, kl_52, kl_53, kl_54, kl_55, kl_56, kl_57, kl_58, kl_59, kl_60, kl_61, kl_62, kl_63, kl_64, kl_70, kl_80, kl_81, kl_97, kl_98, kl_99, kl_100, kl_101, kl_102, kl_103, kl_104, kl_105, kl_106, kl_107, kl_108, kl_109, kl_110, kl_111, kl_112, kl_113, kl_114, kl_115, kl_120, kl_124, kl_126, kl_130, kl_255, kl_720, kl_2048, kl_10000, kl_12345, kl_252645135, kl_858993459, kl_1103515245, kl_1431655765, kl_1640531535, kl_2000000000, x_in])
            rfl
        | with_reducible apply wp_so
      all_goals exact ⟨rfl, fr_rf _ _, lX⟩
    · repeat' first
        | with_reducible apply wp_bd
          · (try simp (disch := omega) only [bi, Int.add_zero, Int.zero_add, true_or, or_true, true_and, and_true, not_false_eq_true, not_true_eq_false, if_true, if_false, if_pos, if_neg, ki_add, ki_sub, ki_mul, ki_neg, ki_lt, ki_le, ki_eq, ki_cl, ki_div, ki_ite, ck5, kl_0, kl_1, kl_2, kl_3, kl_4, kl_5, kl_6, kl_7, kl_8, kl_9, kl_10, kl_11, kl_12, kl_13, kl_14, kl_16, kl_20, kl_21, kl_24, kl_29, kl_30, kl_31, kl_33, kl_35, kl_37, kl_38, kl_39, kl_40, kl_41, kl_42, kl_43, kl_44, kl_45, kl_46, kl_47, kl_48, kl_49, kl_50, kl_51, kl_52, kl_53, kl_54, kl_55, kl_56, kl_57, kl_58, kl_59, kl_60, kl_61, kl_62, kl_63, kl_64, kl_70, kl_80, kl_81, kl_97, kl_98, kl_99, kl_100, kl_101, kl_102, kl_103, kl_104, kl_105, kl_106, kl_107, kl_108, kl_109, kl_110, kl_111, kl_112, kl_113, kl_114, kl_115, kl_120, kl_124, kl_126, kl_130, kl_255, kl_720, kl_2048, kl_10000, kl_12345, kl_252645135, kl_858993459, kl_1103515245, kl_1431655765, kl_1640531535, kl_2000000000, m_col])
            rfl
        | with_reducible apply wp_in
          · (try simp (disch := omega) only [bi, Int.add_zero, Int.zero_add, true_or, or_true, true_and, and_true, not_false_eq_true, not_true_eq_false, if_true, if_false, if_pos, if_neg, ki_add, ki_sub, ki_mul, ki_neg, ki_lt, ki_le, ki_eq, ki_cl, ki_div, ki_ite, ck5, kl_0, kl_1, kl_2, kl_3, kl_4, kl_5, kl_6, kl_7, kl_8, kl_9, kl_10, kl_11, kl_12, kl_13, kl_14, kl_16, kl_20, kl_21, kl_24, kl_29, kl_30, kl_31, kl_33, kl_35, kl_37, kl_38, kl_39, kl_40, kl_41, kl_42, kl_43, kl_44, kl_45, kl_46, kl_47, kl_48, kl_49, kl_50, kl_51, kl_52, kl_53, kl_54, kl_55, kl_56, kl_57, kl_58, kl_59, kl_60, kl_61, kl_62, kl_63, kl_64, kl_70, kl_80, kl_81, kl_97, kl_98, kl_99, kl_100, kl_101, kl_102, kl_103, kl_104, kl_105, kl_106, kl_107, kl_108, kl_109, kl_110, kl_111, kl_112, kl_113, kl_114, kl_115, kl_120, kl_124, kl_126, kl_130, kl_255, kl_720, kl_2048, kl_10000, kl_12345, kl_252645135, kl_858993459, kl_1103515245, kl_1431655765, kl_1640531535, kl_2000000000, m_col])
            rfl
          · decide
          · omega
          · omega
        | with_reducible apply wp_gd
          · (try simp (disch := omega) only [bi, Int.add_zero, Int.zero_add, true_or, or_true, true_and, and_true, not_false_eq_true, not_true_eq_false, if_true, if_false, if_pos, if_neg, ki_add, ki_sub, ki_mul, ki_neg, ki_lt, ki_le, ki_eq, ki_cl, ki_div, ki_ite, ck5, kl_0, kl_1, kl_2, kl_3, kl_4, kl_5, kl_6, kl_7, kl_8, kl_9, kl_10, kl_11, kl_12, kl_13, kl_14, kl_16, kl_20, kl_21, kl_24, kl_29, kl_30, kl_31, kl_33, kl_35, kl_37, kl_38, kl_39, kl_40, kl_41, kl_42, kl_43, kl_44, kl_45, kl_46, kl_47, kl_48, kl_49, kl_50, kl_51, kl_52, kl_53, kl_54, kl_55, kl_56, kl_57, kl_58, kl_59, kl_60, kl_61, kl_62, kl_63, kl_64, kl_70, kl_80, kl_81, kl_97, kl_98, kl_99, kl_100, kl_101, kl_102, kl_103, kl_104, kl_105, kl_106, kl_107, kl_108, kl_109, kl_110, kl_111, kl_112, kl_113, kl_114, kl_115, kl_120, kl_124, kl_126, kl_130, kl_255, kl_720, kl_2048, kl_10000, kl_12345, kl_252645135, kl_858993459, kl_1103515245, kl_1431655765, kl_1640531535, kl_2000000000, m_col])
            rfl
          · first | exact True.intro | omega | assumption
        | with_reducible apply wp_is
          · (try simp (disch := omega) only [bi, Int.add_zero, Int.zero_add, true_or, or_true, true_and, and_true, not_false_eq_true, not_true_eq_false, if_true, if_false, if_pos, if_neg, ki_add, ki_sub, ki_mul, ki_neg, ki_lt, ki_le, ki_eq, ki_cl, ki_div, ki_ite, ck5, kl_0, kl_1, kl_2, kl_3, kl_4, kl_5, kl_6, kl_7, kl_8, kl_9, kl_10, kl_11, kl_12, kl_13, kl_14, kl_16, kl_20, kl_21, kl_24, kl_29, kl_30, kl_31, kl_33, kl_35, kl_37, kl_38, kl_39, kl_40, kl_41, kl_42, kl_43, kl_44, kl_45, kl_46, kl_47, kl_48, kl_49, kl_50, kl_51, kl_52, kl_53, kl_54, kl_55, kl_56, kl_57, kl_58, kl_59, kl_60, kl_61, kl_62, kl_63, kl_64, kl_70, kl_80, kl_81, kl_97, kl_98, kl_99, kl_100, kl_101, kl_102, kl_103, kl_104, kl_105, kl_106, kl_107, kl_108, kl_109, kl_110, kl_111, kl_112, kl_113, kl_114, kl_115, kl_120, kl_124, kl_126, kl_130, kl_255, kl_720, kl_2048, kl_10000, kl_12345, kl_252645135, kl_858993459, kl_1103515245, kl_1431655765, kl_1640531535, kl_2000000000, m_col])
            rfl
          all_goals intro _
          all_goals try (exfalso; first | (rename_i q; exact q trivial) | (rename_i q; exact q) | omega)
        | with_reducible apply wp_mr
        | with_reducible apply wp_b
          · simp (disch := omega) only [Int.add_zero, Int.zero_add, true_or, or_true, true_and, and_true, not_false_eq_true, not_true_eq_false, if_true, if_false, if_pos, if_neg, ki_add, ki_sub, ki_mul, ki_neg, ki_lt, ki_le, ki_eq, ki_cl, ki_div, ki_ite, ck5, kl_0, kl_1, kl_2, kl_3, kl_4, kl_5, kl_6, kl_7, kl_8, kl_9, kl_10, kl_11, kl_12, kl_13, kl_14, kl_16, kl_20, kl_21, kl_24, kl_29, kl_30, kl_31, kl_33, kl_35, kl_37, kl_38, kl_39, kl_40, kl_41, kl_42, kl_43, kl_44, kl_45, kl_46, kl_47, kl_48, kl_49, kl_50, kl_51, kl_52, kl_53, kl_54, kl_55, kl_56, kl_57, kl_58, kl_59, kl_60, kl_61, kl_62, kl_63, kl_64, kl_70, kl_80, kl_81, kl_97, kl_98, kl_99, kl_100, kl_101, kl_102, kl_103, kl_104, kl_105, kl_106, kl_107, kl_108, kl_109, kl_110, kl_111, kl_112, kl_113, kl_114, kl_115, kl_120, kl_124, kl_126, kl_130, kl_255, kl_720, kl_2048, kl_10000, kl_12345, kl_252645135, kl_858993459, kl_1103515245, kl_1431655765, kl_1640531535, kl_2000000000, m_col]
            rfl
          all_goals intro _
          all_goals try (exfalso; first | (rename_i q; exact q trivial) | (rename_i q; exact q) | omega)
        | with_reducible apply wp_oe
          · simp (disch := omega) only [Int.add_zero, Int.zero_add, true_or, or_true, true_and, and_true, not_false_eq_true, not_true_eq_false, if_true, if_false, if_pos, if_neg, ki_add, ki_sub, ki_mul, ki_neg, ki_lt, ki_le, ki_eq, ki_cl, ki_div, ki_ite, ck5, kl_0, kl_1, kl_2, kl_3, kl_4, kl_5, kl_6, kl_7, kl_8, kl_9, kl_10, kl_11, kl_12, kl_13, kl_14, kl_16, kl_20, kl_21, kl_24, kl_29, kl_30, kl_31, kl_33, kl_35, kl_37, kl_38, kl_39, kl_40, kl_41, kl_42, kl_43, kl_44, kl_45, kl_46, kl_47, kl_48, kl_49, kl_50, kl_51, kl_52, kl_53, kl_54, kl_55, kl_56, kl_57, kl_58, kl_59, kl_60, kl_61, kl_62, kl_63, kl_64, kl_70, kl_80, kl_81, kl_97, kl_98, kl_99, kl_100, kl_101, kl_102, kl_103, kl_104, kl_105, kl_106, kl_107, kl_108, kl_109, kl_110, kl_111, kl_112, kl_113, kl_114, kl_115, kl_120, kl_124, kl_126, kl_130, kl_255, kl_720, kl_2048, kl_10000, kl_12345, kl_252645135, kl_858993459, kl_1103515245, kl_1431655765, kl_1640531535, kl_2000000000, m_col]
            try rfl
        | with_reducible apply wp_sv
          · (try simp (disch := omega) only [bi, Int.add_zero, Int.zero_add, true_or, or_true, true_and, and_true, not_false_eq_true, not_true_eq_false, if_true, if_false, if_pos, if_neg, ki_add, ki_sub, ki_mul, ki_neg, ki_lt, ki_le, ki_eq, ki_cl, ki_div, ki_ite, ck5, kl_0, kl_1, kl_2, kl_3, kl_4, kl_5, kl_6, kl_7, kl_8, kl_9, kl_10, kl_11, kl_12, kl_13, kl_14, kl_16, kl_20, kl_21, kl_24, kl_29, kl_30, kl_31, kl_33, kl_35, kl_37, kl_38, kl_39, kl_40, kl_41, kl_42, kl_43, kl_44, kl_45, kl_46, kl_47, kl_48, kl_49, kl_50, kl_51, kl_52, kl_53, kl_54, kl_55, kl_56, kl_57, kl_58, kl_59, kl_60, kl_61, kl_62, kl_63, kl_64, kl_70, kl_80, kl_81, kl_97, kl_98, kl_99, kl_100, kl_101, kl_102, kl_103, kl_104, kl_105, kl_106, kl_107, kl_108, kl_109, kl_110, kl_111, kl_112, kl_113, kl_114, kl_115, kl_120, kl_124, kl_126, kl_130, kl_255, kl_720, kl_2048, kl_10000, kl_12345, kl_252645135, kl_858993459, kl_1103515245, kl_1431655765, kl_1640531535, kl_2000000000, m_col])
            rfl
        | with_reducible apply wp_so
      all_goals exact ⟨rfl, frM_rf _, lM⟩
def rdS (η : Hy) (c : Int) : Hy := uh η 8 (up (up (η 8) 3 (η 8 3 + 1)) 5 (if η 8 5 < η 4 c then η 4 c else η 8 5))
theorem wf_rd {η : Hy} (hw : wf η) (c : Int) : wf (rdS η c) := by
  have b4 := hw.2.2.2.1 c
  obtain ⟨h1, h2, h3, h4, h5, h6, h7, h8, h9, h10⟩ := hw
  refine ⟨h1, h2, h3, h4, h5, h6, h7, h8, h9, ?_⟩
  show -2 ≤ (if η 8 5 < η 4 c then η 4 c else η 8 5) ∧ (if η 8 5 < η 4 c then η 4 c else η 8 5) ≤ 99
  omega
theorem q_read {η : Hy} {gn : (Int → Int) → Int} {SX SM : xSt} (h : R1 η gn SX SM) (a : Int32) : cs (f_X11_read SX a) (f_X12_read SM a) := by
  obtain ⟨c, rfl, c1, c2⟩ := ki_of a
  obtain ⟨hw, hX, hM, lX, lM, hK⟩ := id h
  have y := x_has hX hw c c1 c2
  have z := m_cell hM.1 hw c1 c2
  have b4 := hw.2.2.2.1 c
  have b5 := hw.2.2.2.2.2.2.2.2.2
  unfold f_X11_read f_X11_read_0 f_X12_read f_X12_read_0
  by_cases hc : hasS η c
  · have c3 := hc.1
    have c4 := hc.2.1
    refine cs_w h (ki (η 4 c)) (wf_rd hw c) ?_ ?_
    · obtain ⟨j1, j2, j3, j4, j5, j6, j7, j8, j9, j10⟩ := id hX
      have r4 : SX.1 20 c.toNat = ki (η 4 c) := j4 c c3 c4
      have r3 : SX.1 24 (3 : Int).toNat = ki (η 8 3) := j8 3 (by omega) (by omega)
      have r5 : SX.1 24 (5 : Int).toNat = ki (η 8 5) := j8 5 (by omega) (by omega)
      repeat' first
        | with_reducible apply wp_bd
          · (try simp (disch := omega) only [bi, Int.add_zero, Int.zero_add, true_or, or_true, true_and, and_true, not_false_eq_true, not_true_eq_false, if_true, if_false, if_pos, if_neg, ki_add, ki_sub, ki_mul, ki_neg, ki_lt, ki_le, ki_eq, ki_cl, ki_div, ki_ite, ck5, kl_0, kl_1, kl_2, kl_3, kl_4, kl_5, kl_6, kl_7, kl_8, kl_9, kl_10, kl_11, kl_12, kl_13, kl_14, kl_16, kl_20, kl_21, kl_24, kl_29, kl_30, kl_31, kl_33, kl_35, kl_37, kl_38, kl_39, kl_40, kl_41, kl_42, kl_43, kl_44, kl_45, kl_46, kl_47, kl_48, kl_49, kl_50, kl_51, kl_52, kl_53, kl_54, kl_55, kl_56, kl_57, kl_58, kl_59, kl_60, kl_61, kl_62, kl_63, kl_64, kl_70, kl_80, kl_81, kl_97, kl_98, kl_99, kl_100, kl_101, kl_102, kl_103, kl_104, kl_105, kl_106, kl_107, kl_108, kl_109, kl_110, kl_111, kl_112, kl_113, kl_114, kl_115, kl_120, kl_124, kl_126, kl_130, kl_255, kl_720, kl_2048, kl_10000, kl_12345, kl_252645135, kl_858993459, kl_1103515245, kl_1431655765, kl_1640531535, kl_2000000000, y, r4, r3, r5, xsi_r, Nat.reduceAdd])
            rfl
        | with_reducible apply wp_in
          · (try simp (disch := omega) only [bi, Int.add_zero, Int.zero_add, true_or, or_true, true_and, and_true, not_false_eq_true, not_true_eq_false, if_true, if_false, if_pos, if_neg, ki_add, ki_sub, ki_mul, ki_neg, ki_lt, ki_le, ki_eq, ki_cl, ki_div, ki_ite, ck5, kl_0, kl_1, kl_2, kl_3, kl_4, kl_5, kl_6, kl_7, kl_8, kl_9, kl_10, kl_11, kl_12, kl_13, kl_14, kl_16, kl_20, kl_21, kl_24, kl_29, kl_30, kl_31, kl_33, kl_35, kl_37, kl_38, kl_39, kl_40, kl_41, kl_42, kl_43, kl_44, kl_45, kl_46, kl_47, kl_48, kl_49, kl_50, kl_51, kl_52, kl_53, kl_54, kl_55, kl_56, kl_57, kl_58, kl_59, kl_60, kl_61, kl_62, kl_63, kl_64, kl_70, kl_80, kl_81, kl_97, kl_98, kl_99, kl_100, kl_101, kl_102, kl_103, kl_104, kl_105, kl_106, kl_107, kl_108, kl_109, kl_110, kl_111, kl_112, kl_113, kl_114, kl_115, kl_120, kl_124, kl_126, kl_130, kl_255, kl_720, kl_2048, kl_10000, kl_12345, kl_252645135, kl_858993459, kl_1103515245, kl_1431655765, kl_1640531535, kl_2000000000, y, r4, r3, r5, xsi_r, Nat.reduceAdd])
            rfl
          · decide
          · omega
          · omega
        | with_reducible apply wp_gd
          · (try simp (disch := omega) only [bi, Int.add_zero, Int.zero_add, true_or, or_true, true_and, and_true, not_false_eq_true, not_true_eq_false, if_true, if_false, if_pos, if_neg, ki_add, ki_sub, ki_mul, ki_neg, ki_lt, ki_le, ki_eq, ki_cl, ki_div, ki_ite, ck5, kl_0, kl_1, kl_2, kl_3, kl_4, kl_5, kl_6, kl_7, kl_8, kl_9, kl_10, kl_11, kl_12, kl_13, kl_14, kl_16, kl_20, kl_21, kl_24, kl_29, kl_30, kl_31, kl_33, kl_35, kl_37, kl_38, kl_39, kl_40, kl_41, kl_42, kl_43, kl_44, kl_45, kl_46, kl_47, kl_48, kl_49, kl_50, kl_51, kl_52, kl_53, kl_54, kl_55, kl_56, kl_57, kl_58, kl_59, kl_60, kl_61, kl_62, kl_63, kl_64, kl_70, kl_80, kl_81, kl_97, kl_98, kl_99, kl_100, kl_101, kl_102, kl_103, kl_104, kl_105, kl_106, kl_107, kl_108, kl_109, kl_110, kl_111, kl_112, kl_113, kl_114, kl_115, kl_120, kl_124, kl_126, kl_130, kl_255, kl_720, kl_2048, kl_10000, kl_12345, kl_252645135, kl_858993459, kl_1103515245, kl_1431655765, kl_1640531535, kl_2000000000, y, r4, r3, r5, xsi_r, Nat.reduceAdd])
            rfl
          · first | exact True.intro | omega | assumption
        | with_reducible apply wp_is
          · (try simp (disch := omega) only [bi, Int.add_zero, Int.zero_add, true_or, or_true, true_and, and_true, not_false_eq_true, not_true_eq_false, if_true, if_false, if_pos, if_neg, ki_add, ki_sub, ki_mul, ki_neg, ki_lt, ki_le, ki_eq, ki_cl, ki_div, ki_ite, ck5, kl_0, kl_1, kl_2, kl_3, kl_4, kl_5, kl_6, kl_7, kl_8, kl_9, kl_10, kl_11, kl_12, kl_13, kl_14, kl_16, kl_20, kl_21, kl_24, kl_29, kl_30, kl_31, kl_33, kl_35, kl_37, kl_38, kl_39, kl_40, kl_41, kl_42, kl_43, kl_44, kl_45, kl_46, kl_47, kl_48, kl_49, kl_50, kl_51, kl_52, kl_53, kl_54, kl_55, kl_56, kl_57, kl_58, kl_59, kl_60, kl_61, kl_62, kl_63, kl_64, kl_70, kl_80, kl_81, kl_97, kl_98, kl_99, kl_100, kl_101, kl_102, kl_103, kl_104, kl_105, kl_106, kl_107, kl_108, kl_109, kl_110, kl_111, kl_112, kl_113, kl_114, kl_115, kl_120, kl_124, kl_126, kl_130, kl_255, kl_720, kl_2048, kl_10000, kl_12345, kl_252645135, kl_858993459, kl_1103515245, kl_1431655765, kl_1640531535, kl_2000000000, y, r4, r3, r5, xsi_r, Nat.reduceAdd])
            rfl
          all_goals intro _
          all_goals try (exfalso; first | (rename_i q; exact q trivial) | (rename_i q; exact q) | omega)
        | with_reducible apply wp_mr
        | with_reducible apply wp_b
          · simp (disch := omega) only [Int.add_zero, Int.zero_add, true_or, or_true, true_and, and_true, not_false_eq_true, not_true_eq_false, if_true, if_false, if_pos, if_neg, ki_add, ki_sub, ki_mul, ki_neg, ki_lt, ki_le, ki_eq, ki_cl, ki_div, ki_ite, ck5, kl_0, kl_1, kl_2, kl_3, kl_4, kl_5, kl_6, kl_7, kl_8, kl_9, kl_10, kl_11, kl_12, kl_13, kl_14, kl_16, kl_20, kl_21, kl_24, kl_29, kl_30, kl_31, kl_33, kl_35, kl_37, kl_38, kl_39, kl_40, kl_41, kl_42, kl_43, kl_44, kl_45, kl_46, kl_47, kl_48, kl_49, kl_50, kl_51, kl_52, kl_53, kl_54, kl_55, kl_56, kl_57, kl_58, kl_59, kl_60, kl_61, kl_62, kl_63, kl_64, kl_70, kl_80, kl_81, kl_97, kl_98, kl_99, kl_100, kl_101, kl_102, kl_103, kl_104, kl_105, kl_106, kl_107, kl_108, kl_109, kl_110, kl_111, kl_112, kl_113, kl_114, kl_115, kl_120, kl_124, kl_126, kl_130, kl_255, kl_720, kl_2048, kl_10000, kl_12345, kl_252645135, kl_858993459, kl_1103515245, kl_1431655765, kl_1640531535, kl_2000000000, y, r4, r3, r5, xsi_r, Nat.reduceAdd]
            rfl
          all_goals intro _
          all_goals try (exfalso; first | (rename_i q; exact q trivial) | (rename_i q; exact q) | omega)
        | with_reducible apply wp_oe
          · simp (disch := omega) only [Int.add_zero, Int.zero_add, true_or, or_true, true_and, and_true, not_false_eq_true, not_true_eq_false, if_true, if_false, if_pos, if_neg, ki_add, ki_sub, ki_mul, ki_neg, ki_lt, ki_le, ki_eq, ki_cl, ki_div, ki_ite, ck5, kl_0, kl_1, kl_2, kl_3, kl_4, kl_5, kl_6, kl_7, kl_8, kl_9, kl_10, kl_11, kl_12, kl_13, kl_14, kl_16, kl_20, kl_21, kl_24, kl_29, kl_30, kl_31, kl_33, kl_35, kl_37, kl_38, kl_39, kl_40, kl_41, kl_42, kl_43, kl_44, kl_45, kl_46, kl_47, kl_48, kl_49, kl_50, kl_51, kl_52, kl_53, kl_54, kl_55, kl_56, kl_57, kl_58, kl_59, kl_60, kl_61, kl_62, kl_63, kl_64, kl_70, kl_80, kl_81, kl_97, kl_98, kl_99, kl_100, kl_101, kl_102, kl_103, kl_104, kl_105, kl_106, kl_107, kl_108, kl_109, kl_110, kl_111, kl_112, kl_113, kl_114, kl_115, kl_120, kl_124, kl_126, kl_130, kl_255, kl_720, kl_2048, kl_10000, kl_12345, kl_252645135, kl_858993459, kl_1103515245, kl_1431655765, kl_1640531535, kl_2000000000, y, r4, r3, r5, xsi_r, Nat.reduceAdd]
            try rfl
        | with_reducible apply wp_sv
          · (try simp (disch := omega) only [bi, Int.add_zero, Int.zero_add, true_or, or_true, true_and, and_true, not_false_eq_true, not_true_eq_false, if_true, if_false, if_pos, if_neg, ki_add, ki_sub, ki_mul, ki_neg, ki_lt, ki_le, ki_eq, ki_cl, ki_div, ki_ite, ck5, kl_0, kl_1, kl_2, kl_3, kl_4, kl_5, kl_6, kl_7, kl_8, kl_9, kl_10, kl_11, kl_12, kl_13, kl_14, kl_16, kl_20, kl_21, kl_24, kl_29, kl_30, kl_31, kl_33, kl_35, kl_37, kl_38, kl_39, kl_40, kl_41, kl_42, kl_43, kl_44, kl_45, kl_46, kl_47, kl_48, kl_49, kl_50, kl_51, kl_52, kl_53, kl_54, kl_55, kl_56, kl_57, kl_58, kl_59, kl_60, kl_61, kl_62, kl_63, kl_64, kl_70, kl_80, kl_81, kl_97, kl_98, kl_99, kl_100, kl_101, kl_102, kl_103, kl_104, kl_105, kl_106, kl_107, kl_108, kl_109, kl_110, kl_111, kl_112, kl_113, kl_114, kl_115, kl_120, kl_124, kl_126, kl_130, kl_255, kl_720, kl_2048, kl_10000, kl_12345, kl_252645135, kl_858993459, kl_1103515245, kl_1431655765, kl_1640531535, kl_2000000000, y, r4, r3, r5, xsi_r, Nat.reduceAdd])
            rfl
        | with_reducible apply wp_so
      have j8' : vw (xsi (xsi SX 24 (3 : Int).toNat (ki (η 8 3 + 1))) 24 (5 : Int).toNat (ki (if η 8 5 < η 4 c then η 4 c else η 8 5))) 24 6 (rdS η c 8) := vw_up (vw_up j8 (by omega)) (by omega)
      exact ⟨rfl, ⟨vw_ne (vw_ne j1 (by omega)) (by omega), vw_ne (vw_ne j2 (by omega)) (by omega), vw_ne (vw_ne j3 (by omega)) (by omega), vw_ne (vw_ne j4 (by omega)) (by omega), vw_ne (vw_ne j5 (by omega)) (by omega), vw_ne (vw_ne j6 (by omega)) (by omega), vw_ne (vw_ne j7 (by omega)) (by omega), j8', j9, j10⟩, fr_tr (fr_si (by unfold qX2; omega)) (fr_si (by unfold qX2; omega)), lawX_c (lawX_c lX (by omega)) (by omega)⟩
    · obtain ⟨j1, j2, j3, j4, j5, j6, j7, j8, j9, j10, j11⟩ := id hM
      have r4 : SM.1 3 c.toNat = ki (η 4 c) := j4 c c3 c4
      have r3 : SM.1 9 (3 : Int).toNat = ki (η 8 3) := j8 3 (by omega) (by omega)
      have q8 : vw (xsi SM 9 (3 : Int).toNat (ki (η 8 3 + 1))) 9 5 (rdS η c 8) := vw_cg (vw_up j8 (by omega)) (fun z z0 z1 => by
        show _ = up (up (η 8) 3 (η 8 3 + 1)) 5 _ z
        unfold up
        rw [if_neg (show ¬ z = 5 by omega)])
      unfold f_X12_read_43
      repeat' first
        | with_reducible apply wp_bd
          · (try simp (disch := omega) only [bi, Int.add_zero, Int.zero_add, true_or, or_true, true_and, and_true, not_false_eq_true, not_true_eq_false, if_true, if_false, if_pos, if_neg, ki_add, ki_sub, ki_mul, ki_neg, ki_lt, ki_le, ki_eq, ki_cl, ki_div, ki_ite, ck5, kl_0, kl_1, kl_2, kl_3, kl_4, kl_5, kl_6, kl_7, kl_8, kl_9, kl_10, kl_11, kl_12, kl_13, kl_14, kl_16, kl_20, kl_21, kl_24, kl_29, kl_30, kl_31, kl_33, kl_35, kl_37, kl_38, kl_39, kl_40, kl_41, kl_42, kl_43, kl_44, kl_45, kl_46, kl_47, kl_48, kl_49, kl_50, kl_51, kl_52, kl_53, kl_54, kl_55, kl_56, kl_57, kl_58, kl_59, kl_60, kl_61, kl_62, kl_63, kl_64, kl_70, kl_80, kl_81, kl_97, kl_98, kl_99, kl_100, kl_101, kl_102, kl_103, kl_104, kl_105, kl_106, kl_107, kl_108, kl_109, kl_110, kl_111, kl_112, kl_113, kl_114, kl_115, kl_120, kl_124, kl_126, kl_130, kl_255, kl_720, kl_2048, kl_10000, kl_12345, kl_252645135, kl_858993459, kl_1103515245, kl_1431655765, kl_1640531535, kl_2000000000, z, r4, r3, j9, xsi_r])
            rfl
        | with_reducible apply wp_in
          · (try simp (disch := omega) only [bi, Int.add_zero, Int.zero_add, true_or, or_true, true_and, and_true, not_false_eq_true, not_true_eq_false, if_true, if_false, if_pos, if_neg, ki_add, ki_sub, ki_mul, ki_neg, ki_lt, ki_le, ki_eq, ki_cl, ki_div, ki_ite, ck5, kl_0, kl_1, kl_2, kl_3, kl_4, kl_5, kl_6, kl_7, kl_8, kl_9, kl_10, kl_11, kl_12, kl_13, kl_14, kl_16, kl_20, kl_21, kl_24, kl_29, kl_30, kl_31, kl_33, kl_35, kl_37, kl_38, kl_39, kl_40, kl_41, kl_42, kl_43, kl_44, kl_45, kl_46, kl_47, kl_48, kl_49, kl_50, kl_51, kl_52, kl_53, kl_54, kl_55, kl_56, kl_57, kl_58, kl_59, kl_60, kl_61, kl_62, kl_63, kl_64, kl_70, kl_80, kl_81, kl_97, kl_98, kl_99, kl_100, kl_101, kl_102, kl_103, kl_104, kl_105, kl_106, kl_107, kl_108, kl_109, kl_110, kl_111, kl_112, kl_113, kl_114, kl_115, kl_120, kl_124, kl_126, kl_130, kl_255, kl_720, kl_2048, kl_10000, kl_12345, kl_252645135, kl_858993459, kl_1103515245, kl_1431655765, kl_1640531535, kl_2000000000, z, r4, r3, j9, xsi_r])
            rfl
          · decide
          · omega
          · omega
        | with_reducible apply wp_gd
          · (try simp (disch := omega) only [bi, Int.add_zero, Int.zero_add, true_or, or_true, true_and, and_true, not_false_eq_true, not_true_eq_false, if_true, if_false, if_pos, if_neg, ki_add, ki_sub, ki_mul, ki_neg, ki_lt, ki_le, ki_eq, ki_cl, ki_div, ki_ite, ck5, kl_0, kl_1, kl_2, kl_3, kl_4, kl_5, kl_6, kl_7, kl_8, kl_9, kl_10, kl_11, kl_12, kl_13, kl_14, kl_16, kl_20, kl_21, kl_24, kl_29, kl_30, kl_31, kl_33, kl_35, kl_37, kl_38, kl_39, kl_40, kl_41, kl_42, kl_43, kl_44, kl_45, kl_46, kl_47, kl_48, kl_49, kl_50, kl_51, kl_52, kl_53, kl_54, kl_55, kl_56, kl_57, kl_58, kl_59, kl_60, kl_61, kl_62, kl_63, kl_64, kl_70, kl_80, kl_81, kl_97, kl_98, kl_99, kl_100, kl_101, kl_102, kl_103, kl_104, kl_105, kl_106, kl_107, kl_108, kl_109, kl_110, kl_111, kl_112, kl_113, kl_114, kl_115, kl_120, kl_124, kl_126, kl_130, kl_255, kl_720, kl_2048, kl_10000, kl_12345, kl_252645135, kl_858993459, kl_1103515245, kl_1431655765, kl_1640531535, kl_2000000000, z, r4, r3, j9, xsi_r])
            rfl
          · first | exact True.intro | omega | assumption
        | with_reducible apply wp_is
          · (try simp (disch := omega) only [bi, Int.add_zero, Int.zero_add, true_or, or_true, true_and, and_true, not_false_eq_true, not_true_eq_false, if_true, if_false, if_pos, if_neg, ki_add, ki_sub, ki_mul, ki_neg, ki_lt, ki_le, ki_eq, ki_cl, ki_div, ki_ite, ck5, kl_0, kl_1, kl_2, kl_3, kl_4, kl_5, kl_6, kl_7, kl_8, kl_9, kl_10, kl_11, kl_12, kl_13, kl_14, kl_16, kl_20, kl_21, kl_24, kl_29, kl_30, kl_31, kl_33, kl_35, kl_37, kl_38, kl_39, kl_40, kl_41, kl_42, kl_43, kl_44, kl_45, kl_46, kl_47, kl_48, kl_49, kl_50, kl_51, kl_52, kl_53, kl_54, kl_55, kl_56, kl_57, kl_58, kl_59, kl_60, kl_61, kl_62, kl_63, kl_64, kl_70, kl_80, kl_81, kl_97, kl_98, kl_99, kl_100, kl_101, kl_102, kl_103, kl_104, kl_105, kl_106, kl_107, kl_108, kl_109, kl_110, kl_111, kl_112, kl_113, kl_114, kl_115, kl_120, kl_124, kl_126, kl_130, kl_255, kl_720, kl_2048, kl_10000, kl_12345, kl_252645135, kl_858993459, kl_1103515245, kl_1431655765, kl_1640531535, kl_2000000000, z, r4, r3, j9, xsi_r])
            rfl
          all_goals intro _
          all_goals try (exfalso; first | (rename_i q; exact q trivial) | (rename_i q; exact q) | omega)
        | with_reducible apply wp_mr
        | with_reducible apply wp_b
          · simp (disch := omega) only [Int.add_zero, Int.zero_add, true_or, or_true, true_and, and_true, not_false_eq_true, not_true_eq_false, if_true, if_false, if_pos, if_neg, ki_add, ki_sub, ki_mul, ki_neg, ki_lt, ki_le, ki_eq, ki_cl, ki_div, ki_ite, ck5, kl_0, kl_1, kl_2, kl_3, kl_4, kl_5, kl_6, kl_7, kl_8, kl_9, kl_10, kl_11, kl_12, kl_13, kl_14, kl_16, kl_20, kl_21, kl_24, kl_29, kl_30, kl_31, kl_33, kl_35, kl_37, kl_38, kl_39, kl_40, kl_41, kl_42, kl_43, kl_44, kl_45, kl_46, kl_47, kl_48, kl_49, kl_50, kl_51, kl_52, kl_53, kl_54, kl_55, kl_56, kl_57, kl_58, kl_59, kl_60, kl_61, kl_62, kl_63, kl_64, kl_70, kl_80, kl_81, kl_97, kl_98, kl_99, kl_100, kl_101, kl_102, kl_103, kl_104, kl_105, kl_106, kl_107, kl_108, kl_109, kl_110, kl_111, kl_112, kl_113, kl_114, kl_115, kl_120, kl_124, kl_126, kl_130, kl_255, kl_720, kl_2048, kl_10000, kl_12345, kl_252645135, kl_858993459, kl_1103515245, kl_1431655765, kl_1640531535, kl_2000000000, z, r4, r3, j9, xsi_r]
            rfl
          all_goals intro _
          all_goals try (exfalso; first | (rename_i q; exact q trivial) | (rename_i q; exact q) | omega)
        | with_reducible apply wp_oe
          · simp (disch := omega) only [Int.add_zero, Int.zero_add, true_or, or_true, true_and, and_true, not_false_eq_true, not_true_eq_false, if_true, if_false, if_pos, if_neg, ki_add, ki_sub, ki_mul, ki_neg, ki_lt, ki_le, ki_eq, ki_cl, ki_div, ki_ite, ck5, kl_0, kl_1, kl_2, kl_3, kl_4, kl_5, kl_6, kl_7, kl_8, kl_9, kl_10, kl_11, kl_12, kl_13, kl_14, kl_16, kl_20, kl_21, kl_24, kl_29, kl_30, kl_31, kl_33, kl_35, kl_37, kl_38, kl_39, kl_40, kl_41, kl_42, kl_43, kl_44, kl_45, kl_46, kl_47, kl_48, kl_49, kl_50, kl_51, kl_52, kl_53, kl_54, kl_55, kl_56, kl_57, kl_58, kl_59, kl_60, kl_61, kl_62, kl_63, kl_64, kl_70, kl_80, kl_81, kl_97, kl_98, kl_99, kl_100, kl_101, kl_102, kl_103, kl_104, kl_105, kl_106, kl_107, kl_108, kl_109, kl_110, kl_111, kl_112, kl_113, kl_114, kl_115, kl_120, kl_124, kl_126, kl_130, kl_255, kl_720, kl_2048, kl_10000, kl_12345, kl_252645135, kl_858993459, kl_1103515245, kl_1431655765, kl_1640531535, kl_2000000000, z, r4, r3, j9, xsi_r]
            try rfl
        | with_reducible apply wp_sv
          · (try simp (disch := omega) only [bi, Int.add_zero, Int.zero_add, true_or, or_true, true_and, and_true, not_false_eq_true, not_true_eq_false, if_true, if_false, if_pos, if_neg, ki_add, ki_sub, ki_mul, ki_neg, ki_lt, ki_le, ki_eq, ki_cl, ki_div, ki_ite, ck5, kl_0, kl_1, kl_2, kl_3, kl_4, kl_5, kl_6, kl_7, kl_8, kl_9, kl_10, kl_11, kl_12, kl_13, kl_14, kl_16, kl_20, kl_21, kl_24, kl_29, kl_30, kl_31, kl_33, kl_35, kl_37, kl_38, kl_39, kl_40, kl_41, kl_42, kl_43, kl_44, kl_45, kl_46, kl_47, kl_48, kl_49, kl_50, kl_51, kl_52, kl_53, kl_54, kl_55, kl_56, kl_57, kl_58, kl_59, kl_60, kl_61, kl_62, kl_63, kl_64, kl_70, kl_80, kl_81, kl_97, kl_98, kl_99, kl_100, kl_101, kl_102, kl_103, kl_104, kl_105, kl_106, kl_107, kl_108, kl_109, kl_110, kl_111, kl_112, kl_113, kl_114, kl_115, kl_120, kl_124, kl_126, kl_130, kl_255, kl_720, kl_2048, kl_10000, kl_12345, kl_252645135, kl_858993459, kl_1103515245, kl_1431655765, kl_1640531535, kl_2000000000, z, r4, r3, j9, xsi_r])
            rfl
        | with_reducible apply wp_so
      · refine ⟨rfl, ⟨vw_ne j1 (by omega), vw_ne j2 (by omega), vw_ne j3 (by omega), vw_ne j4 (by omega), vw_ne j5 (by omega), vw_ne j6 (by omega), vw_ne j7 (by omega), q8, ?_, by rw [xsi_r, if_neg (by omega)]; exact j10, by rw [xsi_r, if_neg (by omega)]; exact j11⟩, frM2_i (by unfold qM2; omega), lawM_c lM (by omega)⟩
        rw [xsi_r, if_neg (by omega), j9]
        show ki _ = ki (if η 8 5 < η 4 c then η 4 c else η 8 5)
        congr 1; omega
      · refine ⟨rfl, ⟨vw_ne (vw_ne j1 (by omega)) (by omega), vw_ne (vw_ne j2 (by omega)) (by omega), vw_ne (vw_ne j3 (by omega)) (by omega), vw_ne (vw_ne j4 (by omega)) (by omega), vw_ne (vw_ne j5 (by omega)) (by omega), vw_ne (vw_ne j6 (by omega)) (by omega), vw_ne (vw_ne j7 (by omega)) (by omega), vw_ne q8 (by omega), ?_, ?_, ?_⟩, frM2_tr (frM2_i (by unfold qM2; omega)) (frM2_i (by unfold qM2; omega)), ?_⟩
        · rw [xsi_r, if_pos ⟨rfl, rfl⟩]
          show ki _ = ki (if η 8 5 < η 4 c then η 4 c else η 8 5)
          congr 1; omega
        · rw [xsi_r, if_neg (by omega), xsi_r, if_neg (by omega)]; exact j10
        · rw [xsi_r, if_neg (by omega), xsi_r, if_neg (by omega)]; exact j11
        · have hl2 := lawM_c (k := 9) (j := (3 : Int).toNat) (v := ki (η 8 3 + 1)) lM (by omega)
          rcases hl2 with ⟨r8, eg⟩ | ⟨N, cd, ag, gE, lE, n1, n2, r8, rN, r9, r10, r11, r12, hlw, eg⟩
          · exact Or.inl ⟨by rw [xsi_r, if_neg (by omega)]; exact r8, eg⟩
          · exact Or.inr ⟨N, cd, ag, gE, lE, n1, n2, by rw [xsi_r, if_neg (by omega)]; exact r8, by rw [xsi_r, if_neg (by omega)]; exact rN, vw_ne r9 (by omega), vw_ne r10 (by omega), vw_ne r11 (by omega), vw_ne r12 (by omega), hlw, eg⟩
  · refine cs_q h (ki (-1)) ?_ ?_
    · repeat' first
        | with_reducible apply wp_bd
          · (try simp (disch := omega) only [bi, Int.add_zero, Int.zero_add, true_or, or_true, true_and, and_true, not_false_eq_true, not_true_eq_false, if_true, if_false, if_pos, if_neg, ki_add, ki_sub, ki_mul, ki_neg, ki_lt, ki_le, ki_eq, ki_cl, ki_div, ki_ite, ck5, kl_0, kl_1, kl_2, kl_3, kl_4, kl_5, kl_6, kl_7, kl_8, kl_9, kl_10, kl_11, kl_12, kl_13, kl_14, kl_16, kl_20, kl_21, kl_24, kl_29, kl_30, kl_31, kl_33, kl_35, kl_37, kl_38, kl_39, kl_40, kl_41, kl_42, kl_43, kl_44, kl_45, kl_46, kl_47, kl_48, kl_49, kl_50, kl_51, kl_52, kl_53, kl_54, kl_55, kl_56, kl_57, kl_58, kl_59, kl_60, kl_61, kl_62, kl_63, kl_64, kl_70, kl_80, kl_81, kl_97, kl_98, kl_99, kl_100, kl_101, kl_102, kl_103, kl_104, kl_105, kl_106, kl_107, kl_108, kl_109, kl_110, kl_111, kl_112, kl_113, kl_114, kl_115, kl_120, kl_124, kl_126, kl_130, kl_255, kl_720, kl_2048, kl_10000, kl_12345, kl_252645135, kl_858993459, kl_1103515245, kl_1431655765, kl_1640531535, kl_2000000000, y])
            rfl
        | with_reducible apply wp_in
          · (try simp (disch := omega) only [bi, Int.add_zero, Int.zero_add, true_or, or_true, true_and, and_true, not_false_eq_true, not_true_eq_false, if_true, if_false, if_pos, if_neg, ki_add, ki_sub, ki_mul, ki_neg, ki_lt, ki_le, ki_eq, ki_cl, ki_div, ki_ite, ck5, kl_0, kl_1, kl_2, kl_3, kl_4, kl_5, kl_6, kl_7, kl_8, kl_9, kl_10, kl_11, kl_12, kl_13, kl_14, kl_16, kl_20, kl_21, kl_24, kl_29, kl_30, kl_31, kl_33, kl_35, kl_37, kl_38, kl_39, kl_40, kl_41, kl_42, kl_43, kl_44, kl_45, kl_46, kl_47, kl_48, kl_49, kl_50, kl_51, kl_52, kl_53, kl_54, kl_55, kl_56, kl_57, kl_58, kl_59, kl_60, kl_61, kl_62, kl_63, kl_64, kl_70, kl_80, kl_81, kl_97, kl_98, kl_99, kl_100, kl_101, kl_102, kl_103, kl_104, kl_105, kl_106, kl_107, kl_108, kl_109, kl_110, kl_111, kl_112, kl_113, kl_114, kl_115, kl_120, kl_124, kl_126, kl_130, kl_255, kl_720, kl_2048, kl_10000, kl_12345, kl_252645135, kl_858993459, kl_1103515245, kl_1431655765, kl_1640531535, kl_2000000000, y])
            rfl
          · decide
          · omega
          · omega
        | with_reducible apply wp_gd
          · (try simp (disch := omega) only [bi, Int.add_zero, Int.zero_add, true_or, or_true, true_and, and_true, not_false_eq_true, not_true_eq_false, if_true, if_false, if_pos, if_neg, ki_add, ki_sub, ki_mul, ki_neg, ki_lt, ki_le, ki_eq, ki_cl, ki_div, ki_ite, ck5, kl_0, kl_1, kl_2, kl_3, kl_4, kl_5, kl_6, kl_7, kl_8, kl_9, kl_10, kl_11, kl_12, kl_13, kl_14, kl_16, kl_20, kl_21, kl_24, kl_29, kl_30, kl_31, kl_33, kl_35, kl_37, kl_38, kl_39, kl_40, kl_41, kl_42, kl_43, kl_44, kl_45, kl_46, kl_47, kl_48, kl_49, kl_50, kl_51, kl_52, kl_53, kl_54, kl_55, kl_56, kl_57, kl_58, kl_59, kl_60, kl_61, kl_62, kl_63, kl_64, kl_70, kl_80, kl_81, kl_97, kl_98, kl_99, kl_100, kl_101, kl_102, kl_103, kl_104, kl_105, kl_106, kl_107, kl_108, kl_109, kl_110, kl_111, kl_112, kl_113, kl_114, kl_115, kl_120, kl_124, kl_126, kl_130, kl_255, kl_720, kl_2048, kl_10000, kl_12345, kl_252645135, kl_858993459, kl_1103515245, kl_1431655765, kl_1640531535, kl_2000000000, y])
            rfl
          · first | exact True.intro | omega | assumption
        | with_reducible apply wp_is
          · (try simp (disch := omega) only [bi, Int.add_zero, Int.zero_add, true_or, or_true, true_and, and_true, not_false_eq_true, not_true_eq_false, if_true, if_false, if_pos, if_neg, ki_add, ki_sub, ki_mul, ki_neg, ki_lt, ki_le, ki_eq, ki_cl, ki_div, ki_ite, ck5, kl_0, kl_1, kl_2, kl_3, kl_4, kl_5, kl_6, kl_7, kl_8, kl_9, kl_10, kl_11, kl_12, kl_13, kl_14, kl_16, kl_20, kl_21, kl_24, kl_29, kl_30, kl_31, kl_33, kl_35, kl_37, kl_38, kl_39, kl_40, kl_41, kl_42, kl_43, kl_44, kl_45, kl_46, kl_47, kl_48, kl_49, kl_50, kl_51, kl_52, kl_53, kl_54, kl_55, kl_56, kl_57, kl_58, kl_59, kl_60, kl_61, kl_62, kl_63, kl_64, kl_70, kl_80, kl_81, kl_97, kl_98, kl_99, kl_100, kl_101, kl_102, kl_103, kl_104, kl_105, kl_106, kl_107, kl_108, kl_109, kl_110, kl_111, kl_112, kl_113, kl_114, kl_115, kl_120, kl_124, kl_126, kl_130, kl_255, kl_720, kl_2048, kl_10000, kl_12345, kl_252645135, kl_858993459, kl_1103515245, kl_1431655765, kl_1640531535, kl_2000000000, y])
            rfl
          all_goals intro _
          all_goals try (exfalso; first | (rename_i q; exact q trivial) | (rename_i q; exact q) | omega)
        | with_reducible apply wp_mr
        | with_reducible apply wp_b
          · simp (disch := omega) only [Int.add_zero, Int.zero_add, true_or, or_true, true_and, and_true, not_false_eq_true, not_true_eq_false, if_true, if_false, if_pos, if_neg, ki_add, ki_sub, ki_mul, ki_neg, ki_lt, ki_le, ki_eq, ki_cl, ki_div, ki_ite, ck5, kl_0, kl_1, kl_2, kl_3, kl_4, kl_5, kl_6, kl_7, kl_8, kl_9, kl_10, kl_11, kl_12, kl_13, kl_14, kl_16, kl_20, kl_21, kl_24, kl_29, kl_30, kl_31, kl_33, kl_35, kl_37, kl_38, kl_39, kl_40, kl_41, kl_42, kl_43, kl_44, kl_45, kl_46, kl_47, kl_48, kl_49, kl_50, kl_51, kl_52, kl_53, kl_54, kl_55, kl_56, kl_57, kl_58, kl_59, kl_60, kl_61, kl_62, kl_63, kl_64, kl_70, kl_80, kl_81, kl_97, kl_98, kl_99, kl_100, kl_101, kl_102, kl_103, kl_104, kl_105, kl_106, kl_107, kl_108, kl_109, kl_110, kl_111, kl_112, kl_113, kl_114, kl_115, kl_120, kl_124, kl_126, kl_130, kl_255, kl_720, kl_2048, kl_10000, kl_12345, kl_252645135, kl_858993459, kl_1103515245, kl_1431655765, kl_1640531535, kl_2000000000, y]
            rfl
          all_goals intro _
          all_goals try (exfalso; first | (rename_i q; exact q trivial) | (rename_i q; exact q) | omega)
        | with_reducible apply wp_oe
          · simp (disch := omega) only [Int.add_zero, Int.zero_add, true_or, or_true, true_and, and_true, not_false_eq_true, not_true_eq_false, if_true, if_false, if_pos, if_neg, ki_add, ki_sub, ki_mul, ki_neg, ki_lt, ki_le, ki_eq, ki_cl, ki_div, ki_ite, ck5, kl_0, kl_1, kl_2, kl_3, kl_4, kl_5, kl_6, kl_7, kl_8, kl_9, kl_10, kl_11, kl_12, kl_13, kl_14, kl_16, kl_20, kl_21, kl_24, kl_29, kl_30, kl_31, kl_33, kl_35, kl_37, kl_38, kl_39, kl_40, kl_41, kl_42, kl_43, kl_44, kl_45, kl_46, kl_47, kl_48, kl_49, kl_50, kl_51, kl_52, kl_53, kl_54, kl_55, kl_56, kl_57, kl_58, kl_59, kl_60, kl_61, kl_62, kl_63, kl_64, kl_70, kl_80, kl_81, kl_97, kl_98, kl_99, kl_100, kl_101, kl_102, kl_103, kl_104, kl_105, kl_106, kl_107, kl_108, kl_109, kl_110, kl_111, kl_112, kl_113, kl_114, kl_115, kl_120, kl_124, kl_126, kl_130, kl_255, kl_720, kl_2048, kl_10000, kl_12345, kl_252645135, kl_858993459, kl_1103515245, kl_1431655765, kl_1640531535, kl_2000000000, y]
            try rfl
        | with_reducible apply wp_sv
          · (try simp (disch := omega) only [bi, Int.add_zero, Int.zero_add, true_or, or_true, true_and, and_true, not_false_eq_true, not_true_eq_false, if_true, if_false, if_pos, if_neg, ki_add, ki_sub, ki_mul, ki_neg, ki_lt, ki_le, ki_eq, ki_cl, ki_div, ki_ite, ck5, kl_0, kl_1, kl_2, kl_3, kl_4, kl_5, kl_6, kl_7, kl_8, kl_9, kl_10, kl_11, kl_12, kl_13, kl_14, kl_16, kl_20, kl_21, kl_24, kl_29, kl_30, kl_31, kl_33, kl_35, kl_37, kl_38, kl_39, kl_40, kl_41, kl_42, kl_43, kl_44, kl_45, kl_46, kl_47, kl_48, kl_49, kl_50, kl_51, kl_52, kl_53, kl_54, kl_55, kl_56, kl_57, kl_58, kl_59, kl_60, kl_61, kl_62, kl_63, kl_64, kl_70, kl_80, kl_81, kl_97, kl_98, kl_99, kl_100, kl_101, kl_102, kl_103, kl_104, kl_105, kl_106, kl_107, kl_108, kl_109, kl_110, kl_111, kl_112, kl_113, kl_114, kl_115, kl_120, kl_124, kl_126, kl_130, kl_255, kl_720, kl_2048, kl_10000, kl_12345, kl_252645135, kl_858993459, kl_1103515245, kl_1431655765, kl_1640531535, kl_2000000000, y])
            rfl
        | with_reducible apply wp_so
      all_goals exact ⟨rfl, fr_rf _ _, lX⟩
    · repeat' first
        | with_reducible apply wp_bd
          · (try simp (disch := omega) only [bi, Int.add_zero, Int.zero_add, true_or, or_true, true_and, and_true, not_false_eq_true, not_true_eq_false, if_true, if_false, if_pos, if_neg, ki_add, ki_sub, ki_mul, ki_neg, ki_lt, ki_le, ki_eq, ki_cl, ki_div, ki_ite, ck5, kl_0, kl_1, kl_2, kl_3, kl_4, kl_5, kl_6, kl_7, kl_8, kl_9, kl_10, kl_11, kl_12, kl_13, kl_14, kl_16, kl_20, kl_21, kl_24, kl_29, kl_30, kl_31, kl_33, kl_35, kl_37, kl_38, kl_39, kl_40, kl_41, kl_42, kl_43, kl_44, kl_45, kl_46, kl_47, kl_48, kl_49, kl_50, kl_51, kl_52, kl_53, kl_54, kl_55, kl_56, kl_57, kl_58, kl_59, kl_60, kl_61, kl_62, kl_63, kl_64, kl_70, kl_80, kl_81, kl_97, kl_98, kl_99, kl_100, kl_101, kl_102, kl_103, kl_104, kl_105, kl_106, kl_107, kl_108, kl_109, kl_110, kl_111, kl_112, kl_113, kl_114, kl_115, kl_120, kl_124, kl_126, kl_130, kl_255, kl_720, kl_2048, kl_10000, kl_12345, kl_252645135, kl_858993459, kl_1103515245, kl_1431655765, kl_1640531535, kl_2000000000, z])
            rfl
        | with_reducible apply wp_in
          · (try simp (disch := omega) only [bi, Int.add_zero, Int.zero_add, true_or, or_true, true_and, and_true, not_false_eq_true, not_true_eq_false, if_true, if_false, if_pos, if_neg, ki_add, ki_sub, ki_mul, ki_neg, ki_lt, ki_le, ki_eq, ki_cl, ki_div, ki_ite, ck5, kl_0, kl_1, kl_2, kl_3, kl_4, kl_5, kl_6, kl_7, kl_8, kl_9, kl_10, kl_11, kl_12, kl_13, kl_14, kl_16, kl_20, kl_21, kl_24, kl_29, kl_30, kl_31, kl_33, kl_35, kl_37, kl_38, kl_39, kl_40, kl_41, kl_42, kl_43, kl_44, kl_45, kl_46, kl_47, kl_48, kl_49, kl_50, kl_51, kl_52, kl_53, kl_54, kl_55, kl_56, kl_57, kl_58, kl_59, kl_60, kl_61, kl_62, kl_63, kl_64, kl_70, kl_80, kl_81, kl_97, kl_98, kl_99, kl_100, kl_101, kl_102, kl_103, kl_104, kl_105, kl_106, kl_107, kl_108, kl_109, kl_110, kl_111, kl_112, kl_113, kl_114, kl_115, kl_120, kl_124, kl_126, kl_130, kl_255, kl_720, kl_2048, kl_10000, kl_12345, kl_252645135, kl_858993459, kl_1103515245, kl_1431655765, kl_1640531535, kl_2000000000, z])
            rfl
          · decide
          · omega
          · omega
        | with_reducible apply wp_gd
          · (try simp (disch := omega) only [bi, Int.add_zero, Int.zero_add, true_or, or_true, true_and, and_true, not_false_eq_true, not_true_eq_false, if_true, if_false, if_pos, if_neg, ki_add, ki_sub, ki_mul, ki_neg, ki_lt, ki_le, ki_eq, ki_cl, ki_div, ki_ite, ck5, kl_0, kl_1, kl_2, kl_3, kl_4, kl_5, kl_6, kl_7, kl_8, kl_9, kl_10, kl_11, kl_12, kl_13, kl_14, kl_16, kl_20, kl_21, kl_24, kl_29, kl_30, kl_31, kl_33, kl_35, kl_37, kl_38, kl_39, kl_40, kl_41, kl_42, kl_43, kl_44, kl_45, kl_46, kl_47, kl_48, kl_49, kl_50, kl_51, kl_52, kl_53, kl_54, kl_55, kl_56, kl_57, kl_58, kl_59, kl_60, kl_61, kl_62, kl_63, kl_64, kl_70, kl_80, kl_81, kl_97, kl_98, kl_99, kl_100, kl_101, kl_102, kl_103, kl_104, kl_105, kl_106, kl_107, kl_108, kl_109, kl_110, kl_111, kl_112, kl_113, kl_114, kl_115, kl_120, kl_124, kl_126, kl_130, kl_255, kl_720, kl_2048, kl_10000, kl_12345, kl_252645135, kl_858993459, kl_1103515245, kl_1431655765, kl_1640531535, kl_2000000000, z])
            rfl
          · first | exact True.intro | omega | assumption
        | with_reducible apply wp_is
          · (try simp (disch := omega) only [bi, Int.add_zero, Int.zero_add, true_or, or_true, true_and, and_true, not_false_eq_true, not_true_eq_false, if_true, if_false, if_pos, if_neg, ki_add, ki_sub, ki_mul, ki_neg, ki_lt, ki_le, ki_eq, ki_cl, ki_div, ki_ite, ck5, kl_0, kl_1, kl_2, kl_3, kl_4, kl_5, kl_6, kl_7, kl_8, kl_9, kl_10, kl_11, kl_12, kl_13, kl_14, kl_16, kl_20, kl_21, kl_24, kl_29, kl_30, kl_31, kl_33, kl_35, kl_37, kl_38, kl_39, kl_40, kl_41, kl_42, kl_43, kl_44, kl_45, kl_46, kl_47, kl_48, kl_49, kl_50, kl_51, kl_52, kl_53, kl_54, kl_55, kl_56, kl_57, kl_58, kl_59, kl_60, kl_61, kl_62, kl_63, kl_64, kl_70, kl_80, kl_81, kl_97, kl_98, kl_99, kl_100, kl_101, kl_102, kl_103, kl_104, kl_105, kl_106, kl_107, kl_108, kl_109, kl_110, kl_111, kl_112, kl_113, kl_114, kl_115, kl_120, kl_124, kl_126, kl_130, kl_255, kl_720, kl_2048, kl_10000, kl_12345, kl_252645135, kl_858993459, kl_1103515245, kl_1431655765, kl_1640531535, kl_2000000000, z])
            rfl
          all_goals intro _
          all_goals try (exfalso; first | (rename_i q; exact q trivial) | (rename_i q; exact q) | omega)
        | with_reducible apply wp_mr
        | with_reducible apply wp_b
          · simp (disch := omega) only [Int.add_zero, Int.zero_add, true_or, or_true, true_and, and_true, not_false_eq_true, not_true_eq_false, if_true, if_false, if_pos, if_neg, ki_add, ki_sub, ki_mul, ki_neg, ki_lt, ki_le, ki_eq, ki_cl, ki_div, ki_ite, ck5, kl_0, kl_1, kl_2, kl_3, kl_4, kl_5, kl_6, kl_7, kl_8, kl_9, kl_10, kl_11, kl_12, kl_13, kl_14, kl_16, kl_20, kl_21, kl_24, kl_29, kl_30, kl_31, kl_33, kl_35, kl_37, kl_38, kl_39, kl_40, kl_41, kl_42, kl_43, kl_44, kl_45, kl_46, kl_47, kl_48, kl_49, kl_50, kl_51, kl_52, kl_53, kl_54, kl_55, kl_56, kl_57, kl_58, kl_59, kl_60, kl_61, kl_62, kl_63, kl_64, kl_70, kl_80, kl_81, kl_97, kl_98, kl_99, kl_100, kl_101, kl_102, kl_103, kl_104, kl_105, kl_106, kl_107, kl_108, kl_109, kl_110, kl_111, kl_112, kl_113, kl_114, kl_115, kl_120, kl_124, kl_126, kl_130, kl_255, kl_720, kl_2048, kl_10000, kl_12345, kl_252645135, kl_858993459, kl_1103515245, kl_1431655765, kl_1640531535, kl_2000000000, z]
            rfl
          all_goals intro _
          all_goals try (exfalso; first | (rename_i q; exact q trivial) | (rename_i q; exact q) | omega)
        | with_reducible apply wp_oe
          · simp (disch := omega) only [Int.add_zero, Int.zero_add, true_or, or_true, true_and, and_true, not_false_eq_true, not_true_eq_false, if_true, if_false, if_pos, if_neg, ki_add, ki_sub, ki_mul, ki_neg, ki_lt, ki_le, ki_eq, ki_cl, ki_div, ki_ite, ck5, kl_0, kl_1, kl_2, kl_3, kl_4, kl_5, kl_6, kl_7, kl_8, kl_9, kl_10, kl_11, kl_12, kl_13, kl_14, kl_16, kl_20, kl_21, kl_24, kl_29, kl_30, kl_31, kl_33, kl_35, kl_37, kl_38, kl_39, kl_40, kl_41, kl_42, kl_43, kl_44, kl_45, kl_46, kl_47, kl_48, kl_49, kl_50, kl_51, kl_52, kl_53, kl_54, kl_55, kl_56, kl_57, kl_58, kl_59, kl_60, kl_61, kl_62, kl_63, kl_64, kl_70, kl_80, kl_81, kl_97, kl_98, kl_99, kl_100, kl_101, kl_102, kl_103, kl_104, kl_105, kl_106, kl_107, kl_108, kl_109, kl_110, kl_111, kl_112, kl_113, kl_114, kl_115, kl_120, kl_124, kl_126, kl_130, kl_255, kl_720, kl_2048, kl_10000, kl_12345, kl_252645135, kl_858993459, kl_1103515245, kl_1431655765, kl_1640531535, kl_2000000000, z]
            try rfl
        | with_reducible apply wp_sv
          · (try simp (disch := omega) only [bi, Int.add_zero, Int.zero_add, true_or, or_true, true_and, and_true, not_false_eq_true, not_true_eq_false, if_true, if_false, if_pos, if_neg, ki_add, ki_sub, ki_mul, ki_neg, ki_lt, ki_le, ki_eq, ki_cl, ki_div, ki_ite, ck5, kl_0, kl_1, kl_2, kl_3, kl_4, kl_5, kl_6, kl_7, kl_8, kl_9, kl_10, kl_11, kl_12, kl_13, kl_14, kl_16, kl_20, kl_21, kl_24, kl_29, kl_30, kl_31, kl_33, kl_35, kl_37, kl_38, kl_39, kl_40, kl_41, kl_42, kl_43, kl_44, kl_45, kl_46, kl_47, kl_48, kl_49, kl_50, kl_51, kl_52, kl_53, kl_54, kl_55, kl_56, kl_57, kl_58, kl_59, kl_60, kl_61, kl_62, kl_63, kl_64, kl_70, kl_80, kl_81, kl_97, kl_98, kl_99, kl_100, kl_101, kl_102, kl_103, kl_104, kl_105, kl_106, kl_107, kl_108, kl_109, kl_110, kl_111, kl_112, kl_113, kl_114, kl_115, kl_120, kl_124, kl_126, kl_130, kl_255, kl_720, kl_2048, kl_10000, kl_12345, kl_252645135, kl_858993459, kl_1103515245, kl_1431655765, kl_1640531535, kl_2000000000, z])
            rfl
        | with_reducible apply wp_so
      all_goals exact ⟨rfl, frM_rf _, lM⟩
/-- a load comes onto a column that is not full -/
def carS (col d l : Int) (η : Hy) : Hy := fun f => if f = 1 then up (η 1) col (η 1 col + 1) else if f = 3 then up (η 3) (5 * col + η 1 col) d else if f = 4 then up (η 4) (5 * col + η 1 col) 20 else if f = 5 then up (η 5) (5 * col + η 1 col) 99 else if f = 6 then up (η 6) (5 * col + η 1 col) 0 else if f = 7 then up (η 7) (5 * col + η 1 col) l else η f
theorem up_b {g : Int → Int} {i v a b : Int} (h : ∀ z, a ≤ g z ∧ g z ≤ b) (hv : a ≤ v ∧ v ≤ b) : ∀ z, a ≤ up g i v z ∧ up g i v z ≤ b := by
  intro z
  unfold up
  by_cases e : z = i
  · rw [if_pos e]; exact hv
  · rw [if_neg e]; exact h z
theorem wf_car {η : Hy} (hw : wf η) {col d l : Int} (hh : η 1 col ≤ 4) (d0 : 0 ≤ d) (d1 : d ≤ 9) (l0 : 0 ≤ l) (l1 : l ≤ 9) : wf (carS col d l η) := by
  have b1 := hw.1 col
  obtain ⟨h1, h2, h3, h4, h5, h6, h7, h8, h9, h10⟩ := hw
  exact ⟨up_b h1 (by omega), h2, up_b h3 (by omega), up_b h4 (by omega), up_b h5 (by omega), up_b h6 (by omega), h7, h8, up_b h9 (by omega), h10⟩
theorem x_pile {o : Nat} {η : Hy} {S : xSt} {col d l : Int} (h : hx o η S) (hw : wf η) (c0 : 0 ≤ col) (c1 : col < 6) : wp (f_X4_pileOn o S (ki col) (ki d) (ki l)) (fun r => (η 1 col = 5 ∧ r = (S, ki (-3))) ∨ (η 1 col ≤ 4 ∧ r.2 = ki (5 * col + η 1 col) ∧ hx o (carS col d l η) r.1 ∧ fr S r.1 (pH o))) := by
  obtain ⟨j1, j2, j3, j4, j5, j6, j7, j8, j9, j10⟩ := id h
  have b1 := hw.1 col
  have r1 : S.1 (o + 1) col.toNat = ki (η 1 col) := j1 col c0 c1
  have ec : col * 5 + η 1 col = 5 * col + η 1 col := by omega
  unfold f_X4_pileOn f_X4_pileOn_0
  by_cases hf : η 1 col = 5
  · repeat' first
      | with_reducible apply wp_bd
        · (try simp (disch := omega) only [bi, Int.add_zero, Int.zero_add, true_or, or_true, true_and, and_true, not_false_eq_true, not_true_eq_false, if_true, if_false, if_pos, if_neg, ki_add, ki_sub, ki_mul, ki_neg, ki_lt, ki_le, ki_eq, ki_cl, ki_div, ki_ite, ck5, kl_0, kl_1, kl_2, kl_3, kl_4, kl_5, kl_6, kl_7, kl_8, kl_9, kl_10, kl_11, kl_12, kl_13, kl_14, kl_16, kl_20, kl_21, kl_24, kl_29, kl_30, kl_31, kl_33, kl_35, kl_37, kl_38, kl_39, kl_40, kl_41, kl_42, kl_43, kl_44, kl_45, kl_46, kl_47, kl_48, kl_49, kl_50, kl_51, kl_52, kl_53, kl_54, kl_55, kl_56, kl_57, kl_58, kl_59, kl_60, kl_61, kl_62, kl_63, kl_64, kl_70, kl_80, kl_81, kl_97, kl_98, kl_99, kl_100, kl_101, kl_102, kl_103, kl_104, kl_105, kl_106, kl_107, kl_108, kl_109, kl_110, kl_111, kl_112, kl_113, kl_114, kl_115, kl_120, kl_124, kl_126, kl_130, kl_255, kl_720, kl_2048, kl_10000, kl_12345, kl_252645135, kl_858993459, kl_1103515245, kl_1431655765, kl_1640531535, kl_2000000000, r1])
          rfl
      | with_reducible apply wp_in
        · (try simp (disch := omega) only [bi, Int.add_zero, Int.zero_add, true_or, or_true, true_and, and_true, not_false_eq_true, not_true_eq_false, if_true, if_false, if_pos, if_neg, ki_add, ki_sub, ki_mul, ki_neg, ki_lt, ki_le, ki_eq, ki_cl, ki_div, ki_ite, ck5, kl_0, kl_1, kl_2, kl_3, kl_4, kl_5, kl_6, kl_7, kl_8, kl_9, kl_10, kl_11, kl_12, kl_13, kl_14, kl_16, kl_20, kl_21, kl_24, kl_29, kl_30, kl_31, kl_33, kl_35, kl_37, kl_38, kl_39, kl_40, kl_41, kl_42, kl_43, kl_44, kl_45, kl_46, kl_47, kl_48, kl_49, kl_50, kl_51, kl_52, kl_53, kl_54, kl_55, kl_56, kl_57, kl_58, kl_59, kl_60, kl_61, kl_62, kl_63, kl_64, kl_70, kl_80, kl_81, kl_97, kl_98, kl_99, kl_100, kl_101, kl_102, kl_103, kl_104, kl_105, kl_106, kl_107, kl_108, kl_109, kl_110, kl_111, kl_112, kl_113, kl_114, kl_115, kl_120, kl_124, kl_126, kl_130, kl_255, kl_720, kl_2048, kl_10000, kl_12345, kl_252645135, kl_858993459, kl_1103515245, kl_1431655765, kl_1640531535, kl_2000000000, r1])
          rfl
        · decide
        · omega
        · omega
      | with_reducible apply wp_gd
        · (try simp (disch := omega) only [bi, Int.add_zero, Int.zero_add, true_or, or_true, true_and, and_true, not_false_eq_true, not_true_eq_false, if_true, if_false, if_pos, if_neg, ki_add, ki_sub, ki_mul, ki_neg, ki_lt, ki_le, ki_eq, ki_cl, ki_div, ki_ite, ck5, kl_0, kl_1, kl_2, kl_3, kl_4, kl_5, kl_6, kl_7, kl_8, kl_9, kl_10, kl_11, kl_12, kl_13, kl_14, kl_16, kl_20, kl_21, kl_24, kl_29, kl_30, kl_31, kl_33, kl_35, kl_37, kl_38, kl_39, kl_40, kl_41, kl_42, kl_43, kl_44, kl_45, kl_46, kl_47, kl_48, kl_49, kl_50, kl_51, kl_52, kl_53, kl_54, kl_55, kl_56, kl_57, kl_58, kl_59, kl_60, kl_61, kl_62, kl_63, kl_64, kl_70, kl_80, kl_81, kl_97, kl_98, kl_99, kl_100, kl_101, kl_102, kl_103, kl_104, kl_105, kl_106, kl_107, kl_108, kl_109, kl_110, kl_111, kl_112, kl_113, kl_114, kl_115, kl_120, kl_124, kl_126, kl_130, kl_255, kl_720, kl_2048, kl_10000, kl_12345, kl_252645135, kl_858993459, kl_1103515245, kl_1431655765, kl_1640531535, kl_2000000000, r1])
          rfl
        · first | exact True.intro | omega | assumption
      | with_reducible apply wp_is
        · (try simp (disch := omega) only [bi, Int.add_zero, Int.zero_add, true_or, or_true, true_and, and_true, not_false_eq_true, not_true_eq_false, if_true, if_false, if_pos, if_neg, ki_add, ki_sub, ki_mul, ki_neg, ki_lt, ki_le, ki_eq, ki_cl, ki_div, ki_ite, ck5, kl_0, kl_1, kl_2, kl_3, kl_4, kl_5, kl_6, kl_7, kl_8, kl_9, kl_10, kl_11, kl_12, kl_13, kl_14, kl_16, kl_20, kl_21, kl_24, kl_29, kl_30, kl_31, kl_33, kl_35, kl_37, kl_38, kl_39, kl_40, kl_41, kl_42, kl_43, kl_44, kl_45, kl_46, kl_47, kl_48, kl_49, kl_50, kl_51, kl_52, kl_53, kl_54, kl_55, kl_56, kl_57, kl_58, kl_59, kl_60, kl_61, kl_62, kl_63, kl_64, kl_70, kl_80, kl_81, kl_97, kl_98, kl_99, kl_100, kl_101, kl_102, kl_103, kl_104, kl_105, kl_106, kl_107, kl_108, kl_109, kl_110, kl_111, kl_112, kl_113, kl_114, kl_115, kl_120, kl_124, kl_126, kl_130, kl_255, kl_720, kl_2048, kl_10000, kl_12345, kl_252645135, kl_858993459, kl_1103515245, kl_1431655765, kl_1640531535, kl_2000000000, r1])
          rfl
        all_goals intro _
        all_goals try (exfalso; first | (rename_i q; exact q trivial) | (rename_i q; exact q) | omega)
      | with_reducible apply wp_mr
      | with_reducible apply wp_b
        · simp (disch := omega) only [Int.add_zero, Int.zero_add, true_or, or_true, true_and, and_true, not_false_eq_true, not_true_eq_false, if_true, if_false, if_pos, if_neg, ki_add, ki_sub, ki_mul, ki_neg, ki_lt, ki_le, ki_eq, ki_cl, ki_div, ki_ite, ck5, kl_0, kl_1, kl_2, kl_3, kl_4, kl_5, kl_6, kl_7, kl_8, kl_9, kl_10, kl_11, kl_12, kl_13, kl_14, kl_16, kl_20, kl_21, kl_24, kl_29, kl_30, kl_31, kl_33, kl_35, kl_37, kl_38, kl_39, kl_40, kl_41, kl_42, kl_43, kl_44, kl_45, kl_46, kl_47, kl_48, kl_49, kl_50, kl_51, kl_52, kl_53, kl_54, kl_55, kl_56, kl_57, kl_58, kl_59, kl_60, kl_61, kl_62, kl_63, kl_64, kl_70, kl_80, kl_81, kl_97, kl_98, kl_99, kl_100, kl_101, kl_102, kl_103, kl_104, kl_105, kl_106, kl_107, kl_108, kl_109, kl_110, kl_111, kl_112, kl_113, kl_114, kl_115, kl_120, kl_124, kl_126, kl_130, kl_255, kl_720, kl_2048, kl_10000, kl_12345, kl_252645135, kl_858993459, kl_1103515245, kl_1431655765, kl_1640531535, kl_2000000000, r1]
          rfl
        all_goals intro _
        all_goals try (exfalso; first | (rename_i q; exact q trivial) | (rename_i q; exact q) | omega)
      | with_reducible apply wp_oe
        · simp (disch := omega) only [Int.add_zero, Int.zero_add, true_or, or_true, true_and, and_true, not_false_eq_true, not_true_eq_false, if_true, if_false, if_pos, if_neg, ki_add, ki_sub, ki_mul, ki_neg, ki_lt, ki_le, ki_eq, ki_cl, ki_div, ki_ite, ck5, kl_0, kl_1, kl_2, kl_3, kl_4, kl_5, kl_6, kl_7, kl_8, kl_9, kl_10, kl_11, kl_12, kl_13, kl_14, kl_16, kl_20, kl_21, kl_24, kl_29, kl_30, kl_31, kl_33, kl_35, kl_37, kl_38, kl_39, kl_40, kl_41, kl_42, kl_43, kl_44, kl_45, kl_46, kl_47, kl_48, kl_49, kl_50, kl_51, kl_52, kl_53, kl_54, kl_55, kl_56, kl_57, kl_58, kl_59, kl_60, kl_61, kl_62, kl_63, kl_64, kl_70, kl_80, kl_81, kl_97, kl_98, kl_99, kl_100, kl_101, kl_102, kl_103, kl_104, kl_105, kl_106, kl_107, kl_108, kl_109, kl_110, kl_111, kl_112, kl_113, kl_114, kl_115, kl_120, kl_124, kl_126, kl_130, kl_255, kl_720, kl_2048, kl_10000, kl_12345, kl_252645135, kl_858993459, kl_1103515245, kl_1431655765, kl_1640531535, kl_2000000000, r1]
          try rfl
      | with_reducible apply wp_sv
        · (try simp (disch := omega) only [bi, Int.add_zero, Int.zero_add, true_or, or_true, true_and, and_true, not_false_eq_true, not_true_eq_false, if_true, if_false, if_pos, if_neg, ki_add, ki_sub, ki_mul, ki_neg, ki_lt, ki_le, ki_eq, ki_cl, ki_div, ki_ite, ck5, kl_0, kl_1, kl_2, kl_3, kl_4, kl_5, kl_6, kl_7, kl_8, kl_9, kl_10, kl_11, kl_12, kl_13, kl_14, kl_16, kl_20, kl_21, kl_24, kl_29, kl_30, kl_31, kl_33, kl_35, kl_37, kl_38, kl_39, kl_40, kl_41, kl_42, kl_43, kl_44, kl_45, kl_46, kl_47, kl_48, kl_49, kl_50, kl_51, kl_52, kl_53, kl_54, kl_55, kl_56, kl_57, kl_58, kl_59, kl_60, kl_61, kl_62, kl_63, kl_64, kl_70, kl_80, kl_81, kl_97, kl_98, kl_99, kl_100, kl_101, kl_102, kl_103, kl_104, kl_105, kl_106, kl_107, kl_108, kl_109, kl_110, kl_111, kl_112, kl_113, kl_114, kl_115, kl_120, kl_124, kl_126, kl_130, kl_255, kl_720, kl_2048, kl_10000, kl_12345, kl_252645135, kl_858993459, kl_1103515245, kl_1431655765, kl_1640531535, kl_2000000000, r1])
          rfl
      | with_reducible apply wp_so
    exact Or.inl ⟨hf, rfl⟩
  · repeat' first
      | with_reducible apply wp_bd
        · (try simp (disch := omega) only [bi, Int.add_zero, Int.zero_add, true_or, or_true, true_and, and_true, not_false_eq_true, not_true_eq_false, if_true, if_false, if_pos, if_neg, ki_add, ki_sub, ki_mul, ki_neg, ki_lt, ki_le, ki_eq, ki_cl, ki_div, ki_ite, ck5, kl_0, kl_1, kl_2, kl_3, kl_4, kl_5, kl_6, kl_7, kl_8, kl_9, kl_10, kl_11, kl_12, kl_13, kl_14, kl_16, kl_20, kl_21, kl_24, kl_29, kl_30, kl_31, kl_33, kl_35, kl_37, kl_38, kl_39, kl_40, kl_41, kl_42, kl_43, kl_44, kl_45, kl_46, kl_47, kl_48, kl_49, kl_50, kl_51, kl_52, kl_53, kl_54, kl_55, kl_56, kl_57, kl_58, kl_59, kl_60, kl_61, kl_62, kl_63, kl_64, kl_70, kl_80, kl_81, kl_97, kl_98, kl_99, kl_100, kl_101, kl_102, kl_103, kl_104, kl_105, kl_106, kl_107, kl_108, kl_109, kl_110, kl_111, kl_112, kl_113, kl_114, kl_115, kl_120, kl_124, kl_126, kl_130, kl_255, kl_720, kl_2048, kl_10000, kl_12345, kl_252645135, kl_858993459, kl_1103515245, kl_1431655765, kl_1640531535, kl_2000000000, r1, ec, xsi_r])
          rfl
      | with_reducible apply wp_in
        · (try simp (disch := omega) only [bi, Int.add_zero, Int.zero_add, true_or, or_true, true_and, and_true, not_false_eq_true, not_true_eq_false, if_true, if_false, if_pos, if_neg, ki_add, ki_sub, ki_mul, ki_neg, ki_lt, ki_le, ki_eq, ki_cl, ki_div, ki_ite, ck5, kl_0, kl_1, kl_2, kl_3, kl_4, kl_5, kl_6, kl_7, kl_8, kl_9, kl_10, kl_11, kl_12, kl_13, kl_14, kl_16, kl_20, kl_21, kl_24, kl_29, kl_30, kl_31, kl_33, kl_35, kl_37, kl_38, kl_39, kl_40, kl_41, kl_42, kl_43, kl_44, kl_45, kl_46, kl_47, kl_48, kl_49, kl_50, kl_51, kl_52, kl_53, kl_54, kl_55, kl_56, kl_57, kl_58, kl_59, kl_60, kl_61, kl_62, kl_63, kl_64, kl_70, kl_80, kl_81, kl_97, kl_98, kl_99, kl_100, kl_101, kl_102, kl_103, kl_104, kl_105, kl_106, kl_107, kl_108, kl_109, kl_110, kl_111, kl_112, kl_113, kl_114, kl_115, kl_120, kl_124, kl_126, kl_130, kl_255, kl_720, kl_2048, kl_10000, kl_12345, kl_252645135, kl_858993459, kl_1103515245, kl_1431655765, kl_1640531535, kl_2000000000, r1, ec, xsi_r])
          rfl
        · decide
        · omega
        · omega
      | with_reducible apply wp_gd
        · (try simp (disch := omega) only [bi, Int.add_zero, Int.zero_add, true_or, or_true, true_and, and_true, not_false_eq_true, not_true_eq_false, if_true, if_false, if_pos, if_neg, ki_add, ki_sub, ki_mul, ki_neg, ki_lt, ki_le, ki_eq, ki_cl, ki_div, ki_ite, ck5, kl_0, kl_1, kl_2, kl_3, kl_4, kl_5, kl_6, kl_7, kl_8, kl_9, kl_10, kl_11, kl_12, kl_13, kl_14, kl_16, kl_20, kl_21, kl_24, kl_29, kl_30, kl_31, kl_33, kl_35, kl_37, kl_38, kl_39, kl_40, kl_41, kl_42, kl_43, kl_44, kl_45, kl_46, kl_47, kl_48, kl_49, kl_50, kl_51, kl_52, kl_53, kl_54, kl_55, kl_56, kl_57, kl_58, kl_59, kl_60, kl_61, kl_62, kl_63, kl_64, kl_70, kl_80, kl_81, kl_97, kl_98, kl_99, kl_100, kl_101, kl_102, kl_103, kl_104, kl_105, kl_106, kl_107, kl_108, kl_109, kl_110, kl_111, kl_112, kl_113, kl_114, kl_115, kl_120, kl_124, kl_126, kl_130, kl_255, kl_720, kl_2048, kl_10000, kl_12345, kl_252645135, kl_858993459, kl_1103515245, kl_1431655765, kl_1640531535, kl_2000000000, r1, ec, xsi_r])
          rfl
        · first | exact True.intro | omega | assumption
      | with_reducible apply wp_is
        · (try simp (disch := omega) only [bi, Int.add_zero, Int.zero_add, true_or, or_true, true_and, and_true, not_false_eq_true, not_true_eq_false, if_true, if_false, if_pos, if_neg, ki_add, ki_sub, ki_mul, ki_neg, ki_lt, ki_le, ki_eq, ki_cl, ki_div, ki_ite, ck5, kl_0, kl_1, kl_2, kl_3, kl_4, kl_5, kl_6, kl_7, kl_8, kl_9, kl_10, kl_11, kl_12, kl_13, kl_14, kl_16, kl_20, kl_21, kl_24, kl_29, kl_30, kl_31, kl_33, kl_35, kl_37, kl_38, kl_39, kl_40, kl_41, kl_42, kl_43, kl_44, kl_45, kl_46, kl_47, kl_48, kl_49, kl_50, kl_51, kl_52, kl_53, kl_54, kl_55, kl_56, kl_57, kl_58, kl_59, kl_60, kl_61, kl_62, kl_63, kl_64, kl_70, kl_80, kl_81, kl_97, kl_98, kl_99, kl_100, kl_101, kl_102, kl_103, kl_104, kl_105, kl_106, kl_107, kl_108, kl_109, kl_110, kl_111, kl_112, kl_113, kl_114, kl_115, kl_120, kl_124, kl_126, kl_130, kl_255, kl_720, kl_2048, kl_10000, kl_12345, kl_252645135, kl_858993459, kl_1103515245, kl_1431655765, kl_1640531535, kl_2000000000, r1, ec, xsi_r])
          rfl
        all_goals intro _
        all_goals try (exfalso; first | (rename_i q; exact q trivial) | (rename_i q; exact q) | omega)
      | with_reducible apply wp_mr
      | with_reducible apply wp_b
        · simp (disch := omega) only [Int.add_zero, Int.zero_add, true_or, or_true, true_and, and_true, not_false_eq_true, not_true_eq_false, if_true, if_false, if_pos, if_neg, ki_add, ki_sub, ki_mul, ki_neg, ki_lt, ki_le, ki_eq, ki_cl, ki_div, ki_ite, ck5, kl_0, kl_1, kl_2, kl_3, kl_4, kl_5, kl_6, kl_7, kl_8, kl_9, kl_10, kl_11, kl_12, kl_13, kl_14, kl_16, kl_20, kl_21, kl_24, kl_29, kl_30, kl_31, kl_33, kl_35, kl_37, kl_38, kl_39, kl_40, kl_41, kl_42, kl_43, kl_44, kl_45, kl_46, kl_47, kl_48, kl_49, kl_50, kl_51, kl_52, kl_53, kl_54, kl_55, kl_56, kl_57, kl_58, kl_59, kl_60, kl_61, kl_62, kl_63, kl_64, kl_70, kl_80, kl_81, kl_97, kl_98, kl_99, kl_100, kl_101, kl_102, kl_103, kl_104, kl_105, kl_106, kl_107, kl_108, kl_109, kl_110, kl_111, kl_112, kl_113, kl_114, kl_115, kl_120, kl_124, kl_126, kl_130, kl_255, kl_720, kl_2048, kl_10000, kl_12345, kl_252645135, kl_858993459, kl_1103515245, kl_1431655765, kl_1640531535, kl_2000000000, r1, ec, xsi_r]
          rfl
        all_goals intro _
        all_goals try (exfalso; first | (rename_i q; exact q trivial) | (rename_i q; exact q) | omega)
      | with_reducible apply wp_oe
        · simp (disch := omega) only [Int.add_zero, Int.zero_add, true_or, or_true, true_and, and_true, not_false_eq_true, not_true_eq_false, if_true, if_false, if_pos, if_neg, ki_add, ki_sub, ki_mul, ki_neg, ki_lt, ki_le, ki_eq, ki_cl, ki_div, ki_ite, ck5, kl_0, kl_1, kl_2, kl_3, kl_4, kl_5, kl_6, kl_7, kl_8, kl_9, kl_10, kl_11, kl_12, kl_13, kl_14, kl_16, kl_20, kl_21, kl_24, kl_29, kl_30, kl_31, kl_33, kl_35, kl_37, kl_38, kl_39, kl_40, kl_41, kl_42, kl_43, kl_44, kl_45, kl_46, kl_47, kl_48, kl_49, kl_50, kl_51, kl_52, kl_53, kl_54, kl_55, kl_56, kl_57, kl_58, kl_59, kl_60, kl_61, kl_62, kl_63, kl_64, kl_70, kl_80, kl_81, kl_97, kl_98, kl_99, kl_100, kl_101, kl_102, kl_103, kl_104, kl_105, kl_106, kl_107, kl_108, kl_109, kl_110, kl_111, kl_112, kl_113, kl_114, kl_115, kl_120, kl_124, kl_126, kl_130, kl_255, kl_720, kl_2048, kl_10000, kl_12345, kl_252645135, kl_858993459, kl_1103515245, kl_1431655765, kl_1640531535, kl_2000000000, r1, ec, xsi_r]
          try rfl
      | with_reducible apply wp_sv
        · (try simp (disch := omega) only [bi, Int.add_zero, Int.zero_add, true_or, or_true, true_and, and_true, not_false_eq_true, not_true_eq_false, if_true, if_false, if_pos, if_neg, ki_add, ki_sub, ki_mul, ki_neg, ki_lt, ki_le, ki_eq, ki_cl, ki_div, ki_ite, ck5, kl_0, kl_1, kl_2, kl_3, kl_4, kl_5, kl_6, kl_7, kl_8, kl_9, kl_10, kl_11, kl_12, kl_13, kl_14, kl_16, kl_20, kl_21, kl_24, kl_29, kl_30, kl_31, kl_33, kl_35, kl_37, kl_38, kl_39, kl_40, kl_41, kl_42, kl_43, kl_44, kl_45, kl_46, kl_47, kl_48, kl_49, kl_50, kl_51, kl_52, kl_53, kl_54, kl_55, kl_56, kl_57, kl_58, kl_59, kl_60, kl_61, kl_62, kl_63, kl_64, kl_70, kl_80, kl_81, kl_97, kl_98, kl_99, kl_100, kl_101, kl_102, kl_103, kl_104, kl_105, kl_106, kl_107, kl_108, kl_109, kl_110, kl_111, kl_112, kl_113, kl_114, kl_115, kl_120, kl_124, kl_126, kl_130, kl_255, kl_720, kl_2048, kl_10000, kl_12345, kl_252645135, kl_858993459, kl_1103515245, kl_1431655765, kl_1640531535, kl_2000000000, r1, ec, xsi_r])
          rfl
      | with_reducible apply wp_so
    refine Or.inr ⟨by omega, rfl, ⟨?_, ?_, ?_, ?_, ?_, ?_, ?_, ?_, ?_, ?_⟩, ?_⟩
    · exact vw_up (vw_ne (vw_ne (vw_ne (vw_ne (vw_ne j1 (by omega)) (by omega)) (by omega)) (by omega)) (by omega)) c0
    · exact vw_ne (vw_ne (vw_ne (vw_ne (vw_ne (vw_ne j2 (by omega)) (by omega)) (by omega)) (by omega)) (by omega)) (by omega)
    · exact vw_ne (vw_ne (vw_ne (vw_ne (vw_ne (vw_up j3 (by omega)) (by omega)) (by omega)) (by omega)) (by omega)) (by omega)
    · exact vw_ne (vw_ne (vw_ne (vw_ne (vw_up (vw_ne j4 (by omega)) (by omega)) (by omega)) (by omega)) (by omega)) (by omega)
    · exact vw_ne (vw_ne (vw_ne (vw_up (vw_ne (vw_ne j5 (by omega)) (by omega)) (by omega)) (by omega)) (by omega)) (by omega)
    · exact vw_ne (vw_ne (vw_up (vw_ne (vw_ne (vw_ne j6 (by omega)) (by omega)) (by omega)) (by omega)) (by omega)) (by omega)
    · exact vw_ne (vw_up (vw_ne (vw_ne (vw_ne (vw_ne j7 (by omega)) (by omega)) (by omega)) (by omega)) (by omega)) (by omega)
    · exact vw_ne (vw_ne (vw_ne (vw_ne (vw_ne (vw_ne j8 (by omega)) (by omega)) (by omega)) (by omega)) (by omega)) (by omega)
    · simp (disch := omega) only [xsi_r, if_neg]; exact j9
    · simp (disch := omega) only [xsi_r, if_neg]; exact j10
    · exact fr_tr (fr_tr (fr_tr (fr_tr (fr_tr (fr_si (by unfold pH; omega)) (fr_si (by unfold pH; omega))) (fr_si (by unfold pH; omega))) (fr_si (by unfold pH; omega))) (fr_si (by unfold pH; omega))) (fr_si (by unfold pH; omega))
