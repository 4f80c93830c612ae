/-! part 9p: how the reference reads a law's text: places, loops -/
def mlT (t : Int → Int) (T : Int) (S : xSt) : Prop := S.1 0 17 = ki T ∧ ∀ z, 0 ≤ z → z < T → S.1 14 z.toNat = ki (i8 (t z))
def mP (t : Int → Int) (T h : Int) (o : List Sp2) (k : Int) (S : xSt) : Prop := 0 ≤ h ∧ h ≤ T ∧ (o.length : Int) ≤ h ∧ S.1 0 19 = ki (-1) ∧ S.1 0 18 = ki h ∧ S.1 0 20 = ki k ∧ S.1 0 21 = ki (o.length : Nat) ∧ (∀ (j : Nat) (s : Sp2), o[j]? = some s → S.1 15 (130 + j) = ki (mc s.1) ∧ S.1 16 (130 + j) = ki s.2) ∧ mlT t T S
def mB (t : Int → Int) (T x c : Int) (S : xSt) : Prop := 0 ≤ x ∧ x ≤ T ∧ 0 ≤ c ∧ S.1 0 19 = ki x ∧ (∃ (h' : Int) (u : Nat), S.1 0 18 = ki h' ∧ 0 ≤ h' ∧ h' ≤ T ∧ S.1 0 21 = ki u ∧ (u : Int) + c ≤ h' + 1) ∧ mlT t T S
def mR (t : Int → Int) (T : Int) (o : List Sp2) (h k : Int) (r : Prs) (S : xSt) : Prop := match r with | .inl x => mB t T x (h - (o.length : Int)) S | .inr p => mP t T p.1 (o ++ p.2) k S
def pM9 (k j : Nat) : Prop := (k = 15 ∧ 130 ≤ j) ∨ (k = 16 ∧ 130 ≤ j) ∨ (k = 0 ∧ 18 ≤ j ∧ j ≤ 21)
def mfr (S S' : xSt) : Prop := eq_ pM9 S S' ∧ S'.2 = S.2
theorem mfr_rf (S : xSt) : mfr S S := ⟨eq_rf _ _, rfl⟩
theorem mfr_tr {S S' S'' : xSt} (h : mfr S S') (h' : mfr S' S'') : mfr S S'' := ⟨eq_tr h.1 h'.1, h'.2.trans h.2⟩
theorem mfr_i {S : xSt} {k j : Nat} {v : Int32} (h : pM9 k j) : mfr S (xsi S k j v) := ⟨eq_i h, rfl⟩
theorem mlT_f {t : Int → Int} {T : Int} {S S' : xSt} (h : mlT t T S) (hf : mfr S S') : mlT t T S' := ⟨by rw [hf.1 0 17 (by unfold pM9; omega)]; exact h.1, fun z z0 z1 => by rw [hf.1 14 _ (by unfold pM9; omega)]; exact h.2 z z0 z1⟩
theorem mB_w {t : Int → Int} {T x c c' : Int} {S : xSt} (h : mB t T x c S) (c0 : 0 ≤ c') (hc : c' ≤ c) : mB t T x c' S := by
  obtain ⟨a1, a2, a3, a4, ⟨h', u, b1, b2, b3, b4, b5⟩, a6⟩ := h
  exact ⟨a1, a2, c0, a4, ⟨h', u, b1, b2, b3, b4, by omega⟩, a6⟩
theorem m_lk9 {t : Int → Int} {T h k : Int} {o : List Sp2} {S : xSt} (ht : okT t T) (hp : mP t T h o k S) : f_X12_look S = some (S, ki (i8 (chT t T h))) := by
  obtain ⟨h0, h1, h2, h3, h4, h5, h6, h7, h8, h9⟩ := hp
  have hT := ht.2.1
  have hT0 := ht.1
  unfold f_X12_look f_X12_look_0 chT
  by_cases hh : h < T
  · rw [if_pos hh]
    have r := h9 h h0 hh
    clear h9 h7 ht
    apply wp_eq
    repeat' first
      | with_reducible apply wp_bd
        · (try simp (disch := omega) only [bi, Int.add_zero, Int.zero_add, true_or, or_true, true_and, and_true, not_false_eq_true, not_true_eq_false, if_true, if_false, if_pos, if_neg, ki_add, ki_sub, ki_mul, ki_neg, ki_lt, ki_le, ki_eq, ki_cl, ki_div, ki_ite, ck5, kl_0, kl_1, kl_2, kl_3, kl_4, kl_5, kl_6, kl_7, kl_8, kl_9, kl_10, kl_11, kl_12, kl_13, kl_14, kl_16, kl_20, kl_21, kl_24, kl_29, kl_30, kl_31, kl_33, kl_35, kl_37, kl_38, kl_39, kl_40, kl_41, kl_42, kl_43, kl_44, kl_45, kl_46, kl_47, kl_48, kl_49, kl_50, kl_51, kl_52, kl_53, kl_54, kl_55, kl_56, kl_57, kl_58, kl_59, kl_60, kl_61, kl_62, kl_63, kl_64, kl_70, kl_80, kl_81, kl_97, kl_98, kl_99, kl_100, kl_101, kl_102, kl_103, kl_104, kl_105, kl_106, kl_107, kl_108, kl_109, kl_110, kl_111, kl_112, kl_113, kl_114, kl_115, kl_120, kl_124, kl_126, kl_130, kl_255, kl_720, kl_2048, kl_10000, kl_12345, kl_252645135, kl_858993459, kl_1103515245, kl_1431655765, kl_1640531535, kl_2000000000, h4, h8, r])
          rfl
      | with_reducible apply wp_in
        · (try simp (disch := omega) only [bi, Int.add_zero, Int.zero_add, true_or, or_true, true_and, and_true, not_false_eq_true, not_true_eq_false, if_true, if_false, if_pos, if_neg, ki_add, ki_sub, ki_mul, ki_neg, ki_lt, ki_le, ki_eq, ki_cl, ki_div, ki_ite, ck5, kl_0, kl_1, kl_2, kl_3, kl_4, kl_5, kl_6, kl_7, kl_8, kl_9, kl_10, kl_11, kl_12, kl_13, kl_14, kl_16, kl_20, kl_21, kl_24, kl_29, kl_30, kl_31, kl_33, kl_35, kl_37, kl_38, kl_39, kl_40, kl_41, kl_42, kl_43, kl_44, kl_45, kl_46, kl_47, kl_48, kl_49, kl_50, kl_51, kl_52, kl_53, kl_54, kl_55, kl_56, kl_57, kl_58, kl_59, kl_60, kl_61, kl_62, kl_63, kl_64, kl_70, kl_80, kl_81, kl_97, kl_98, kl_99, kl_100, kl_101, kl_102, kl_103, kl_104, kl_105, kl_106, kl_107, kl_108, kl_109, kl_110, kl_111, kl_112, kl_113, kl_114, kl_115, kl_120, kl_124, kl_126, kl_130, kl_255, kl_720, kl_2048, kl_10000, kl_12345, kl_252645135, kl_858993459, kl_1103515245, kl_1431655765, kl_1640531535, kl_2000000000, h4, h8, r])
          rfl
        · decide
        · omega
        · omega
      | with_reducible apply wp_gd
        · (try simp (disch := omega) only [bi, Int.add_zero, Int.zero_add, true_or, or_true, true_and, and_true, not_false_eq_true, not_true_eq_false, if_true, if_false, if_pos, if_neg, ki_add, ki_sub, ki_mul, ki_neg, ki_lt, ki_le, ki_eq, ki_cl, ki_div, ki_ite, ck5, kl_0, kl_1, kl_2, kl_3, kl_4, kl_5, kl_6, kl_7, kl_8, kl_9, kl_10, kl_11, kl_12, kl_13, kl_14, kl_16, kl_20, kl_21, kl_24, kl_29, kl_30, kl_31, kl_33, kl_35, kl_37, kl_38, kl_39, kl_40, kl_41, kl_42, kl_43, kl_44, kl_45, kl_46, kl_47, kl_48, kl_49, kl_50, kl_51, kl_52, kl_53, kl_54, kl_55, kl_56, kl_57, kl_58, kl_59, kl_60, kl_61, kl_62, kl_63, kl_64, kl_70, kl_80, kl_81, kl_97, kl_98, kl_99, kl_100, kl_101, kl_102, kl_103, kl_104, kl_105, kl_106, kl_107, kl_108, kl_109, kl_110, kl_111, kl_112, kl_113, kl_114, kl_115, kl_120, kl_124, kl_126, kl_130, kl_255, kl_720, kl_2048, kl_10000, kl_12345, kl_252645135, kl_858993459, kl_1103515245, kl_1431655765, kl_1640531535, kl_2000000000, h4, h8, r])
          rfl
        · first | exact True.intro | omega | assumption
      | with_reducible apply wp_is
        · (try simp (disch := omega) only [bi, Int.add_zero, Int.zero_add, true_or, or_true, true_and, and_true, not_false_eq_true, not_true_eq_false, if_true, if_false, if_pos, if_neg, ki_add, ki_sub, ki_mul, ki_neg, ki_lt, ki_le, ki_eq, ki_cl, ki_div, ki_ite, ck5, kl_0, kl_1, kl_2, kl_3, kl_4, kl_5, kl_6, kl_7, kl_8, kl_9, kl_10, kl_11, kl_12, kl_13, kl_14, kl_16, kl_20, kl_21, kl_24, kl_29, kl_30, kl_31, kl_33, kl_35, kl_37, kl_38, kl_39, kl_40, kl_41, kl_42, kl_43, kl_44, kl_45, kl_46, kl_47, kl_48, kl_49, kl_50, kl_51, kl_52, kl_53, kl_54, kl_55, kl_56, kl_57, kl_58, kl_59, kl_60, kl_61, kl_62, kl_63, kl_64, kl_70, kl_80, kl_81, kl_97, kl_98, kl_99, kl_100, kl_101, kl_102, kl_103, kl_104, kl_105, kl_106, kl_107, kl_108, kl_109, kl_110, kl_111, kl_112, kl_113, kl_114, kl_115, kl_120, kl_124, kl_126, kl_130, kl_255, kl_720, kl_2048, kl_10000, kl_12345, kl_252645135, kl_858993459, kl_1103515245, kl_1431655765, kl_1640531535, kl_2000000000, h4, h8, r])
          rfl
        all_goals intro _
        all_goals try (exfalso; first | (rename_i q; exact q trivial) | (rename_i q; exact q) | omega)
      | with_reducible apply wp_mr
      | with_reducible apply wp_b
        · simp (disch := omega) only [Int.add_zero, Int.zero_add, true_or, or_true, true_and, and_true, not_false_eq_true, not_true_eq_false, if_true, if_false, if_pos, if_neg, ki_add, ki_sub, ki_mul, ki_neg, ki_lt, ki_le, ki_eq, ki_cl, ki_div, ki_ite, ck5, kl_0, kl_1, kl_2, kl_3, kl_4, kl_5, kl_6, kl_7, kl_8, kl_9, kl_10, kl_11, kl_12, kl_13, kl_14, kl_16, kl_20, kl_21, kl_24, kl_29, kl_30, kl_31, kl_33, kl_35, kl_37, kl_38, kl_39, kl_40, kl_41, kl_42, kl_43, kl_44, kl_45, kl_46, kl_47, kl_48, kl_49, kl_50, kl_51, kl_52, kl_53, kl_54, kl_55, kl_56, kl_57, kl_58, kl_59, kl_60, kl_61, kl_62, kl_63, kl_64, kl_70, kl_80, kl_81, kl_97, kl_98, kl_99, kl_100, kl_101, kl_102, kl_103, kl_104, kl_105, kl_106, kl_107, kl_108, kl_109, kl_110, kl_111, kl_112, kl_113, kl_114, kl_115, kl_120, kl_124, kl_126, kl_130, kl_255, kl_720, kl_2048, kl_10000, kl_12345, kl_252645135, kl_858993459, kl_1103515245, kl_1431655765, kl_1640531535, kl_2000000000, h4, h8, r]
          rfl
        all_goals intro _
        all_goals try (exfalso; first | (rename_i q; exact q trivial) | (rename_i q; exact q) | omega)
      | with_reducible apply wp_oe
        · simp (disch := omega) only [Int.add_zero, Int.zero_add, true_or, or_true, true_and, and_true, not_false_eq_true, not_true_eq_false, if_true, if_false, if_pos, if_neg, ki_add, ki_sub, ki_mul, ki_neg, ki_lt, ki_le, ki_eq, ki_cl, ki_div, ki_ite, ck5, kl_0, kl_1, kl_2, kl_3, kl_4, kl_5, kl_6, kl_7, kl_8, kl_9, kl_10, kl_11, kl_12, kl_13, kl_14, kl_16, kl_20, kl_21, kl_24, kl_29, kl_30, kl_31, kl_33, kl_35, kl_37, kl_38, kl_39, kl_40, kl_41, kl_42, kl_43, kl_44, kl_45, kl_46, kl_47, kl_48, kl_49, kl_50, kl_51, kl_52, kl_53, kl_54, kl_55, kl_56, kl_57, kl_58, kl_59, kl_60, kl_61, kl_62, kl_63, kl_64, kl_70, kl_80, kl_81, kl_97, kl_98, kl_99, kl_100, kl_101, kl_102, kl_103, kl_104, kl_105, kl_106, kl_107, kl_108, kl_109, kl_110, kl_111, kl_112, kl_113, kl_114, kl_115, kl_120, kl_124, kl_126, kl_130, kl_255, kl_720, kl_2048, kl_10000, kl_12345, kl_252645135, kl_858993459, kl_1103515245, kl_1431655765, kl_1640531535, kl_2000000000, h4, h8, r]
          try rfl
      | with_reducible apply wp_sv
        · (try simp (disch := omega) only [bi, Int.add_zero, Int.zero_add, true_or, or_true, true_and, and_true, not_false_eq_true, not_true_eq_false, if_true, if_false, if_pos, if_neg, ki_add, ki_sub, ki_mul, ki_neg, ki_lt, ki_le, ki_eq, ki_cl, ki_div, ki_ite, ck5, kl_0, kl_1, kl_2, kl_3, kl_4, kl_5, kl_6, kl_7, kl_8, kl_9, kl_10, kl_11, kl_12, kl_13, kl_14, kl_16, kl_20, kl_21, kl_24, kl_29, kl_30, kl_31, kl_33, kl_35, kl_37, kl_38, kl_39, kl_40, kl_41, kl_42, kl_43, kl_44, kl_45, kl_46, kl_47, kl_48, kl_49, kl_50, kl_51, kl_52, kl_53, kl_54, kl_55, kl_56, kl_57, kl_58, kl_59, kl_60, kl_61, kl_62, kl_63, kl_64, kl_70, kl_80, kl_81, kl_97, kl_98, kl_99, kl_100, kl_101, kl_102, kl_103, kl_104, kl_105, kl_106, kl_107, kl_108, kl_109, kl_110, kl_111, kl_112, kl_113, kl_114, kl_115, kl_120, kl_124, kl_126, kl_130, kl_255, kl_720, kl_2048, kl_10000, kl_12345, kl_252645135, kl_858993459, kl_1103515245, kl_1431655765, kl_1640531535, kl_2000000000, h4, h8, r])
          rfl
      | with_reducible apply wp_so
    all_goals rfl
  · rw [if_neg hh]
    clear h9 h7 ht
    apply wp_eq
    repeat' first
      | with_reducible apply wp_bd
        · (try simp (disch := omega) only [bi, Int.add_zero, Int.zero_add, true_or, or_true, true_and, and_true, not_false_eq_true, not_true_eq_false, if_true, if_false, if_pos, if_neg, ki_add, ki_sub, ki_mul, ki_neg, ki_lt, ki_le, ki_eq, ki_cl, ki_div, ki_ite, ck5, kl_0, kl_1, kl_2, kl_3, kl_4, kl_5, kl_6, kl_7, kl_8, kl_9, kl_10, kl_11, kl_12, kl_13, kl_14, kl_16, kl_20, kl_21, kl_24, kl_29, kl_30, kl_31, kl_33, kl_35, kl_37, kl_38, kl_39, kl_40, kl_41, kl_42, kl_43, kl_44, kl_45, kl_46, kl_47, kl_48, kl_49, kl_50, kl_51, kl_52, kl_53, kl_54, kl_55, kl_56, kl_57, kl_58, kl_59, kl_60, kl_61, kl_62, kl_63, kl_64, kl_70, kl_80, kl_81, kl_97, kl_98, kl_99, kl_100, kl_101, kl_102, kl_103, kl_104, kl_105, kl_106, kl_107, kl_108, kl_109, kl_110, kl_111, kl_112, kl_113, kl_114, kl_115, kl_120, kl_124, kl_126, kl_130, kl_255, kl_720, kl_2048, kl_10000, kl_12345, kl_252645135, kl_858993459, kl_1103515245, kl_1431655765, kl_1640531535, kl_2000000000, h4, h8])
          rfl
      | with_reducible apply wp_in
        · (try simp (disch := omega) only [bi, Int.add_zero, Int.zero_add, true_or, or_true, true_and, and_true, not_false_eq_true, not_true_eq_false, if_true, if_false, if_pos, if_neg, ki_add, ki_sub, ki_mul, ki_neg, ki_lt, ki_le, ki_eq, ki_cl, ki_div, ki_ite, ck5, kl_0, kl_1, kl_2, kl_3, kl_4, kl_5, kl_6, kl_7, kl_8, kl_9, kl_10, kl_11, kl_12, kl_13, kl_14, kl_16, kl_20, kl_21, kl_24, kl_29, kl_30, kl_31, kl_33, kl_35, kl_37, kl_38, kl_39, kl_40, kl_41, kl_42, kl_43, kl_44, kl_45, kl_46, kl_47, kl_48, kl_49, kl_50, kl_51, kl_52, kl_53, kl_54, kl_55, kl_56, kl_57, kl_58, kl_59, kl_60, kl_61, kl_62, kl_63, kl_64, kl_70, kl_80, kl_81, kl_97, kl_98, kl_99, kl_100, kl_101, kl_102, kl_103, kl_104, kl_105, kl_106, kl_107, kl_108, kl_109, kl_110, kl_111, kl_112, kl_113, kl_114, kl_115, kl_120, kl_124, kl_126, kl_130, kl_255, kl_720, kl_2048, kl_10000, kl_12345, kl_252645135, kl_858993459, kl_1103515245, kl_1431655765, kl_1640531535, kl_2000000000, h4, h8])
          rfl
        · decide
        · omega
        · omega
      | with_reducible apply wp_gd
        · (try simp (disch := omega) only [bi, Int.add_zero, Int.zero_add, true_or, or_true, true_and, and_true, not_false_eq_true, not_true_eq_false, if_true, if_false, if_pos, if_neg, ki_add, ki_sub, ki_mul, ki_neg, ki_lt, ki_le, ki_eq, ki_cl, ki_div, ki_ite, ck5, kl_0, kl_1, kl_2, kl_3, kl_4, kl_5, kl_6, kl_7, kl_8, kl_9, kl_10, kl_11, kl_12, kl_13, kl_14, kl_16, kl_20, kl_21, kl_24, kl_29, kl_30, kl_31, kl_33, kl_35, kl_37, kl_38, kl_39, kl_40, kl_41, kl_42, kl_43, kl_44, kl_45, kl_46, kl_47, kl_48, kl_49, kl_50, kl_51, kl_52, kl_53, kl_54, kl_55, kl_56, kl_57, kl_58, kl_59, kl_60, kl_61, kl_62, kl_63, kl_64, kl_70, kl_80, kl_81, kl_97, kl_98, kl_99, kl_100, kl_101, kl_102, kl_103, kl_104, kl_105, kl_106, kl_107, kl_108, kl_109, kl_110, kl_111, kl_112, kl_113, kl_114, kl_115, kl_120, kl_124, kl_126, kl_130, kl_255, kl_720, kl_2048, kl_10000, kl_12345, kl_252645135, kl_858993459, kl_1103515245, kl_1431655765, kl_1640531535, kl_2000000000, h4, h8])
          rfl
        · first | exact True.intro | omega | assumption
      | with_reducible apply wp_is
        · (try simp (disch := omega) only [bi, Int.add_zero, Int.zero_add, true_or, or_true, true_and, and_true, not_false_eq_true, not_true_eq_false, if_true, if_false, if_pos, if_neg, ki_add, ki_sub, ki_mul, ki_neg, ki_lt, ki_le, ki_eq, ki_cl, ki_div, ki_ite, ck5, kl_0, kl_1, kl_2, kl_3, kl_4, kl_5, kl_6, kl_7, kl_8, kl_9, kl_10, kl_11, kl_12, kl_13, kl_14, kl_16, kl_20, kl_21, kl_24, kl_29, kl_30, kl_31, kl_33, kl_35, kl_37, kl_38, kl_39, kl_40, kl_41, kl_42, kl_43, kl_44, kl_45, kl_46, kl_47, kl_48, kl_49, kl_50, kl_51, kl_52, kl_53, kl_54, kl_55, kl_56, kl_57, kl_58, kl_59, kl_60, kl_61, kl_62, kl_63, kl_64, kl_70, kl_80, kl_81, kl_97, kl_98, kl_99, kl_100, kl_101, kl_102, kl_103, kl_104, kl_105, kl_106, kl_107, kl_108, kl_109, kl_110, kl_111, kl_112, kl_113, kl_114, kl_115, kl_120, kl_124, kl_126, kl_130, kl_255, kl_720, kl_2048, kl_10000, kl_12345, kl_252645135, kl_858993459, kl_1103515245, kl_1431655765, kl_1640531535, kl_2000000000, h4, h8])
          rfl
        all_goals intro _
        all_goals try (exfalso; first | (rename_i q; exact q trivial) | (rename_i q; exact q) | omega)
      | with_reducible apply wp_mr
      | with_reducible apply wp_b
        · simp (disch := omega) only [Int.add_zero, Int.zero_add, true_or, or_true, true_and, and_true, not_false_eq_true, not_true_eq_false, if_true, if_false, if_pos, if_neg, ki_add, ki_sub, ki_mul, ki_neg, ki_lt, ki_le, ki_eq, ki_cl, ki_div, ki_ite, ck5, kl_0, kl_1, kl_2, kl_3, kl_4, kl_5, kl_6, kl_7, kl_8, kl_9, kl_10, kl_11, kl_12, kl_13, kl_14, kl_16, kl_20, kl_21, kl_24, kl_29, kl_30, kl_31, kl_33, kl_35, kl_37, kl_38, kl_39, kl_40, kl_41, kl_42, kl_43, kl_44, kl_45, kl_46, kl_47, kl_48, kl_49, kl_50, kl_51, kl_52, kl_53, kl_54, kl_55, kl_56, kl_57, kl_58, kl_59, kl_60, kl_61, kl_62, kl_63, kl_64, kl_70, kl_80, kl_81, kl_97, kl_98, kl_99, kl_100, kl_101, kl_102, kl_103, kl_104, kl_105, kl_106, kl_107, kl_108, kl_109, kl_110, kl_111, kl_112, kl_113, kl_114, kl_115, kl_120, kl_124, kl_126, kl_130, kl_255, kl_720, kl_2048, kl_10000, kl_12345, kl_252645135, kl_858993459, kl_1103515245, kl_1431655765, kl_1640531535, kl_2000000000, h4, h8]
          rfl
        all_goals intro _
        all_goals try (exfalso; first | (rename_i q; exact q trivial) | (rename_i q; exact q) | omega)
      | with_reducible apply wp_oe
        · simp (disch := omega) only [Int.add_zero, Int.zero_add, true_or, or_true, true_and, and_true, not_false_eq_true, not_true_eq_false, if_true, if_false, if_pos, if_neg, ki_add, ki_sub, ki_mul, ki_neg, ki_lt, ki_le, ki_eq, ki_cl, ki_div, ki_ite, ck5, kl_0, kl_1, kl_2, kl_3, kl_4, kl_5, kl_6, kl_7, kl_8, kl_9, kl_10, kl_11, kl_12, kl_13, kl_14, kl_16, kl_20, kl_21, kl_24, kl_29, kl_30, kl_31, kl_33, kl_35, kl_37, kl_38, kl_39, kl_40, kl_41, kl_42, kl_43, kl_44, kl_45, kl_46, kl_47, kl_48, kl_49, kl_50, kl_51, kl_52, kl_53, kl_54, kl_55, kl_56, kl_57, kl_58, kl_59, kl_60, kl_61, kl_62, kl_63, kl_64, kl_70, kl_80, kl_81, kl_97, kl_98, kl_99, kl_100, kl_101, kl_102, kl_103, kl_104, kl_105, kl_106, kl_107, kl_108, kl_109, kl_110, kl_111, kl_112, kl_113, kl_114, kl_115, kl_120, kl_124, kl_126, kl_130, kl_255, kl_720, kl_2048, kl_10000, kl_12345, kl_252645135, kl_858993459, kl_1103515245, kl_1431655765, kl_1640531535, kl_2000000000, h4, h8]
          try rfl
      | with_reducible apply wp_sv
        · (try simp (disch := omega) only [bi, Int.add_zero, Int.zero_add, true_or, or_true, true_and, and_true, not_false_eq_true, not_true_eq_false, if_true, if_false, if_pos, if_neg, ki_add, ki_sub, ki_mul, ki_neg, ki_lt, ki_le, ki_eq, ki_cl, ki_div, ki_ite, ck5, kl_0, kl_1, kl_2, kl_3, kl_4, kl_5, kl_6, kl_7, kl_8, kl_9, kl_10, kl_11, kl_12, kl_13, kl_14, kl_16, kl_20, kl_21, kl_24, kl_29, kl_30, kl_31, kl_33, kl_35, kl_37, kl_38, kl_39, kl_40, kl_41, kl_42, kl_43, kl_44, kl_45, kl_46, kl_47, kl_48, kl_49, kl_50, kl_51, kl_52, kl_53, kl_54, kl_55, kl_56, kl_57, kl_58, kl_59, kl_60, kl_61, kl_62, kl_63, kl_64, kl_70, kl_80, kl_81, kl_97, kl_98, kl_99, kl_100, kl_101, kl_102, kl_103, kl_104, kl_105, kl_106, kl_107, kl_108, kl_109, kl_110, kl_111, kl_112, kl_113, kl_114, kl_115, kl_120, kl_124, kl_126, kl_130, kl_255, kl_720, kl_2048, kl_10000, kl_12345, kl_252645135, kl_858993459, kl_1103515245, kl_1431655765, kl_1640531535, kl_2000000000, h4, h8])
          rfl
      | with_reducible apply wp_so
    all_goals rfl
theorem i8_b {b : Int} (h : -1 ≤ b ∧ b ≤ 255) : -128 ≤ i8 b ∧ i8 b ≤ 127 := by unfold i8; omega
theorem m_lkF {t : Int → Int} {T x c : Int} {S : xSt} (ht : okT t T) (hp : mB t T x c S) : ∃ b : Int, f_X12_look S = some (S, ki b) ∧ -128 ≤ b ∧ b ≤ 127 := by
  obtain ⟨a1, a2, a3, a4, ⟨h, u, b1, b2, b3, b4, b5⟩, a6, a7⟩ := hp
  have hT := ht.2.1
  have hT0 := ht.1
  by_cases hh : h < T
  · have r := a7 h b2 hh
    have hb := i8_b (b := t h) (by have := ht.2.2 h b2 hh; omega)
    refine ⟨i8 (t h), ?_, hb.1, hb.2⟩
    unfold f_X12_look f_X12_look_0
    clear a7 ht
    apply wp_eq
    repeat' first
      | with_reducible apply wp_bd
        · (try simp (disch := omega) only [bi, Int.add_zero, Int.zero_add, true_or, or_true, true_and, and_true, not_false_eq_true, not_true_eq_false, if_true, if_false, if_pos, if_neg, ki_add, ki_sub, ki_mul, ki_neg, ki_lt, ki_le, ki_eq, ki_cl, ki_div, ki_ite, ck5, kl_0, kl_1, kl_2, kl_3, kl_4, kl_5, kl_6, kl_7, kl_8, kl_9, kl_10, kl_11, kl_12, kl_13, kl_14, kl_16, kl_20, kl_21, kl_24, kl_29, kl_30, kl_31, kl_33, kl_35, kl_37, kl_38, kl_39, kl_40, kl_41, kl_42, kl_43, kl_44, kl_45, kl_46, kl_47, kl_48, kl_49, kl_50, kl_51, kl_52, kl_53, kl_54, kl_55, kl_56, kl_57, kl_58, kl_59, kl_60, kl_61, kl_62, kl_63, kl_64, kl_70, kl_80, kl_81, kl_97, kl_98, kl_99, kl_100, kl_101, kl_102, kl_103, kl_104, kl_105, kl_106, kl_107, kl_108, kl_109, kl_110, kl_111, kl_112, kl_113, kl_114, kl_115, kl_120, kl_124, kl_126, kl_130, kl_255, kl_720, kl_2048, kl_10000, kl_12345, kl_252645135, kl_858993459, kl_1103515245, kl_1431655765, kl_1640531535, kl_2000000000, b1, a6, r])
          rfl
      | with_reducible apply wp_in
        · (try simp (disch := omega) only [bi, Int.add_zero, Int.zero_add, true_or, or_true, true_and, and_true, not_false_eq_true, not_true_eq_false, if_true, if_false, if_pos, if_neg, ki_add, ki_sub, ki_mul, ki_neg, ki_lt, ki_le, ki_eq, ki_cl, ki_div, ki_ite, ck5, kl_0, kl_1, kl_2, kl_3, kl_4, kl_5, kl_6, kl_7, kl_8, kl_9, kl_10, kl_11, kl_12, kl_13, kl_14, kl_16, kl_20, kl_21, kl_24, kl_29, kl_30, kl_31, kl_33, kl_35, kl_37, kl_38, kl_39, kl_40, kl_41, kl_42, kl_43, kl_44, kl_45, kl_46, kl_47, kl_48, kl_49, kl_50, kl_51, kl_52, kl_53, kl_54, kl_55, kl_56, kl_57, kl_58, kl_59, kl_60, kl_61, kl_62, kl_63, kl_64, kl_70, kl_80, kl_81, kl_97, kl_98, kl_99, kl_100, kl_101, kl_102, kl_103, kl_104, kl_105, kl_106, kl_107, kl_108, kl_109, kl_110, kl_111, kl_112, kl_113, kl_114, kl_115, kl_120, kl_124, kl_126, kl_130, kl_255, kl_720, kl_2048, kl_10000, kl_12345, kl_252645135, kl_858993459, kl_1103515245, kl_1431655765, kl_1640531535, kl_2000000000, b1, a6, r])
          rfl
        · decide
        · omega
        · omega
      | with_reducible apply wp_gd
        · (try simp (disch := omega) only [bi, Int.add_zero, Int.zero_add, true_or, or_true, true_and, and_true, not_false_eq_true, not_true_eq_false, if_true, if_false, if_pos, if_neg, ki_add, ki_sub, ki_mul, ki_neg, ki_lt, ki_le, ki_eq, ki_cl, ki_div, ki_ite, ck5, kl_0, kl_1, kl_2, kl_3, kl_4, kl_5, kl_6, kl_7, kl_8, kl_9, kl_10, kl_11, kl_12, kl_13, kl_14, kl_16, kl_20, kl_21, kl_24, kl_29, kl_30, kl_31, kl_33, kl_35, kl_37, kl_38, kl_39, kl_40, kl_41, kl_42, kl_43, kl_44, kl_45, kl_46, kl_47, kl_48, kl_49, kl_50, kl_51, kl_52, kl_53, kl_54, kl_55, kl_56, kl_57, kl_58, kl_59, kl_60, kl_61, kl_62, kl_63, kl_64, kl_70, kl_80, kl_81, kl_97, kl_98, kl_99, kl_100, kl_101, kl_102, kl_103, kl_104, kl_105, kl_106, kl_107, kl_108, kl_109, kl_110, kl_111, kl_112, kl_113, kl_114, kl_115, kl_120, kl_124, kl_126, kl_130, kl_255, kl_720, kl_2048, kl_10000, kl_12345, kl_252645135, kl_858993459, kl_1103515245, kl_1431655765, kl_1640531535, kl_2000000000, b1, a6, r])
          rfl
        · first | exact True.intro | omega | assumption
      | with_reducible apply wp_is
        · (try simp (disch := omega) only [bi, Int.add_zero, Int.zero_add, true_or, or_true, true_and, and_true, not_false_eq_true, not_true_eq_false, if_true, if_false, if_pos, if_neg, ki_add, ki_sub, ki_mul, ki_neg, ki_lt, ki_le, ki_eq, ki_cl, ki_div, ki_ite, ck5, kl_0, kl_1, kl_2, kl_3, kl_4, kl_5, kl_6, kl_7, kl_8, kl_9, kl_10, kl_11, kl_12, kl_13, kl_14, kl_16, kl_20, kl_21, kl_24, kl_29, kl_30, kl_31, kl_33, kl_35, kl_37, kl_38, kl_39, kl_40, kl_41, kl_42, kl_43, kl_44, kl_45, kl_46, kl_47, kl_48, kl_49, kl_50, kl_51, kl_52, kl_53, kl_54, kl_55, kl_56, kl_57, kl_58, kl_59, kl_60, kl_61, kl_62, kl_63, kl_64, kl_70, kl_80, kl_81, kl_97, kl_98, kl_99, kl_100, kl_101, kl_102, kl_103, kl_104, kl_105, kl_106, kl_107, kl_108, kl_109, kl_110, kl_111, kl_112, kl_113, kl_114, kl_115, kl_120, kl_124, kl_126, kl_130, kl_255, kl_720, kl_2048, kl_10000, kl_12345, kl_252645135, kl_858993459, kl_1103515245, kl_1431655765, kl_1640531535, kl_2000000000, b1, a6, r])
          rfl
        all_goals intro _
        all_goals try (exfalso; first | (rename_i q; exact q trivial) | (rename_i q; exact q) | omega)
      | with_reducible apply wp_mr
      | with_reducible apply wp_b
        · simp (disch := omega) only [Int.add_zero, Int.zero_add, true_or, or_true, true_and, and_true, not_false_eq_true, not_true_eq_false, if_true, if_false, if_pos, if_neg, ki_add, ki_sub, ki_mul, ki_neg, ki_lt, ki_le, ki_eq, ki_cl, ki_div, ki_ite, ck5, kl_0, kl_1, kl_2, kl_3, kl_4, kl_5, kl_6, kl_7, kl_8, kl_9, kl_10, kl_11, kl_12, kl_13, kl_14, kl_16, kl_20, kl_21, kl_24, kl_29, kl_30, kl_31, kl_33, kl_35, kl_37, kl_38, kl_39, kl_40, kl_41, kl_42, kl_43, kl_44, kl_45, kl_46, kl_47, kl_48, kl_49, kl_50, kl_51, kl_52, kl_53, kl_54, kl_55, kl_56, kl_57, kl_58, kl_59, kl_60, kl_61, kl_62, kl_63, kl_64, kl_70, kl_80, kl_81, kl_97, kl_98, kl_99, kl_100, kl_101, kl_102, kl_103, kl_104, kl_105, kl_106, kl_107, kl_108, kl_109, kl_110, kl_111, kl_112, kl_113, kl_114, kl_115, kl_120, kl_124, kl_126, kl_130, kl_255, kl_720, kl_2048, kl_10000, kl_12345, kl_252645135, kl_858993459, kl_1103515245, kl_1431655765, kl_1640531535, kl_2000000000, b1, a6, r]
          rfl
        all_goals intro _
        all_goals try (exfalso; first | (rename_i q; exact q trivial) | (rename_i q; exact q) | omega)
      | with_reducible apply wp_oe
        · simp (disch := omega) only [Int.add_zero, Int.zero_add, true_or, or_true, true_and, and_true, not_false_eq_true, not_true_eq_false, if_true, if_false, if_pos, if_neg, ki_add, ki_sub, ki_mul, ki_neg, ki_lt, ki_le, ki_eq, ki_cl, ki_div, ki_ite, ck5, kl_0, kl_1, kl_2, kl_3, kl_4, kl_5, kl_6, kl_7, kl_8, kl_9, kl_10, kl_11, kl_12, kl_13, kl_14, kl_16, kl_20, kl_21, kl_24, kl_29, kl_30, kl_31, kl_33, kl_35, kl_37, kl_38, kl_39, kl_40, kl_41, kl_42, kl_43, kl_44, kl_45, kl_46, kl_47, kl_48, kl_49, kl_50, kl_51, kl_52, kl_53, kl_54, kl_55, kl_56, kl_57, kl_58, kl_59, kl_60, kl_61, kl_62, kl_63, kl_64, kl_70, kl_80, kl_81, kl_97, kl_98, kl_99, kl_100, kl_101, kl_102, kl_103, kl_104, kl_105, kl_106, kl_107, kl_108, kl_109, kl_110, kl_111, kl_112, kl_113, kl_114, kl_115, kl_120, kl_124, kl_126, kl_130, kl_255, kl_720, kl_2048, kl_10000, kl_12345, kl_252645135, kl_858993459, kl_1103515245, kl_1431655765, kl_1640531535, kl_2000000000, b1, a6, r]
          try rfl
      | with_reducible apply wp_sv
        · (try simp (disch := omega) only [bi, Int.add_zero, Int.zero_add, true_or, or_true, true_and, and_true, not_false_eq_true, not_true_eq_false, if_true, if_false, if_pos, if_neg, ki_add, ki_sub, ki_mul, ki_neg, ki_lt, ki_le, ki_eq, ki_cl, ki_div, ki_ite, ck5, kl_0, kl_1, kl_2, kl_3, kl_4, kl_5, kl_6, kl_7, kl_8, kl_9, kl_10, kl_11, kl_12, kl_13, kl_14, kl_16, kl_20, kl_21, kl_24, kl_29, kl_30, kl_31, kl_33, kl_35, kl_37, kl_38, kl_39, kl_40, kl_41, kl_42, kl_43, kl_44, kl_45, kl_46, kl_47, kl_48, kl_49, kl_50, kl_51, kl_52, kl_53, kl_54, kl_55, kl_56, kl_57, kl_58, kl_59, kl_60, kl_61, kl_62, kl_63, kl_64, kl_70, kl_80, kl_81, kl_97, kl_98, kl_99, kl_100, kl_101, kl_102, kl_103, kl_104, kl_105, kl_106, kl_107, kl_108, kl_109, kl_110, kl_111, kl_112, kl_113, kl_114, kl_115, kl_120, kl_124, kl_126, kl_130, kl_255, kl_720, kl_2048, kl_10000, kl_12345, kl_252645135, kl_858993459, kl_1103515245, kl_1431655765, kl_1640531535, kl_2000000000, b1, a6, r])
          rfl
      | with_reducible apply wp_so
    all_goals rfl
  · refine ⟨-1, ?_, by omega, by omega⟩
    unfold f_X12_look f_X12_look_0
    clear a7 ht
    apply wp_eq
    repeat' first
      | with_reducible apply wp_bd
        · (try simp (disch := omega) only [bi, Int.add_zero, Int.zero_add, true_or, or_true, true_and, and_true, not_false_eq_true, not_true_eq_false, if_true, if_false, if_pos, if_neg, ki_add, ki_sub, ki_mul, ki_neg, ki_lt, ki_le, ki_eq, ki_cl, ki_div, ki_ite, ck5, kl_0, kl_1, kl_2, kl_3, kl_4, kl_5, kl_6, kl_7, kl_8, kl_9, kl_10, kl_11, kl_12, kl_13, kl_14, kl_16, kl_20, kl_21, kl_24, kl_29, kl_30, kl_31, kl_33, kl_35, kl_37, kl_38, kl_39, kl_40, kl_41, kl_42, kl_43, kl_44, kl_45, kl_46, kl_47, kl_48, kl_49, kl_50, kl_51, kl_52, kl_53, kl_54, kl_55, kl_56, kl_57, kl_58, kl_59, kl_60, kl_61, kl_62, kl_63, kl_64, kl_70, kl_80, kl_81, kl_97, kl_98, kl_99, kl_100, kl_101, kl_102, kl_103, kl_104, kl_105, kl_106, kl_107, kl_108, kl_109, kl_110, kl_111, kl_112, kl_113, kl_114, kl_115, kl_120, kl_124, kl_126, kl_130, kl_255, kl_720, kl_2048, kl_10000, kl_12345, kl_252645135, kl_858993459, kl_1103515245, kl_1431655765, kl_1640531535, kl_2000000000, b1, a6])
          rfl
      | with_reducible apply wp_in
        · (try simp (disch := omega) only [bi, Int.add_zero, Int.zero_add, true_or, or_true, true_and, and_true, not_false_eq_true, not_true_eq_false, if_true, if_false, if_pos, if_neg, ki_add, ki_sub, ki_mul, ki_neg, ki_lt, ki_le, ki_eq, ki_cl, ki_div, ki_ite, ck5, kl_0, kl_1, kl_2, kl_3, kl_4, kl_5, kl_6, kl_7, kl_8, kl_9, kl_10, kl_11, kl_12, kl_13, kl_14, kl_16, kl_20, kl_21, kl_24, kl_29, kl_30, kl_31, kl_33, kl_35, kl_37, kl_38, kl_39, kl_40, kl_41, kl_42, kl_43, kl_44, kl_45, kl_46, kl_47, kl_48, kl_49, kl_50, kl_51, kl_52, kl_53, kl_54, kl_55, kl_56, kl_57, kl_58, kl_59, kl_60, kl_61, kl_62, kl_63, kl_64, kl_70, kl_80, kl_81, kl_97, kl_98, kl_99, kl_100, kl_101, kl_102, kl_103, kl_104, kl_105, kl_106, kl_107, kl_108, kl_109, kl_110, kl_111, kl_112, kl_113, kl_114, kl_115, kl_120, kl_124, kl_126, kl_130, kl_255, kl_720, kl_2048, kl_10000, kl_12345, kl_252645135, kl_858993459, kl_1103515245, kl_1431655765, kl_1640531535, kl_2000000000, b1, a6])
          rfl
        · decide
        · omega
        · omega
      | with_reducible apply wp_gd
        · (try simp (disch := omega) only [bi, Int.add_zero, Int.zero_add, true_or, or_true, true_and, and_true, not_false_eq_true, not_true_eq_false, if_true, if_false, if_pos, if_neg, ki_add, ki_sub, ki_mul, ki_neg, ki_lt, ki_le, ki_eq, ki_cl, ki_div, ki_ite, ck5, kl_0, kl_1, kl_2, kl_3, kl_4, kl_5, kl_6, kl_7, kl_8, kl_9, kl_10, kl_11, kl_12, kl_13, kl_14, kl_16, kl_20, kl_21, kl_24, kl_29, kl_30, kl_31, kl_33, kl_35, kl_37, kl_38, kl_39, kl_40, kl_41, kl_42, kl_43, kl_44, kl_45, kl_46, kl_47, kl_48, kl_49, kl_50, kl_51, kl_52, kl_53, kl_54, kl_55, kl_56, kl_57, kl_58, kl_59, kl_60, kl_61, kl_62, kl_63, kl_64, kl_70, kl_80, kl_81, kl_97, kl_98, kl_99, kl_100, kl_101, kl_102, kl_103, kl_104, kl_105, kl_106, kl_107, kl_108, kl_109, kl_110, kl_111, kl_112, kl_113, kl_114, kl_115, kl_120, kl_124, kl_126, kl_130, kl_255, kl_720, kl_2048, kl_10000, kl_12345, kl_252645135, kl_858993459, kl_1103515245, kl_1431655765, kl_1640531535, kl_2000000000, b1, a6])
          rfl
        · first | exact True.intro | omega | assumption
      | with_reducible apply wp_is
        · (try simp (disch := omega) only [bi, Int.add_zero, Int.zero_add, true_or, or_true, true_and, and_true, not_false_eq_true, not_true_eq_false, if_true, if_false, if_pos, if_neg, ki_add, ki_sub, ki_mul, ki_neg, ki_lt, ki_le, ki_eq, ki_cl, ki_div, ki_ite, ck5, kl_0, kl_1, kl_2, kl_3, kl_4, kl_5, kl_6, kl_7, kl_8, kl_9, kl_10, kl_11, kl_12, kl_13, kl_14, kl_16, kl_20, kl_21, kl_24, kl_29, kl_30, kl_31, kl_33, kl_35, kl_37, kl_38, kl_39, kl_40, kl_41, kl_42, kl_43, kl_44, kl_45, kl_46, kl_47, kl_48, kl_49, kl_50, kl_51, kl_52, kl_53, kl_54, kl_55, kl_56, kl_57, kl_58, kl_59, kl_60, kl_61, kl_62, kl_63, kl_64, kl_70, kl_80, kl_81, kl_97, kl_98, kl_99, kl_100, kl_101, kl_102, kl_103, kl_104, kl_105, kl_106, kl_107, kl_108, kl_109, kl_110, kl_111, kl_112, kl_113, kl_114, kl_115, kl_120, kl_124, kl_126, kl_130, kl_255, kl_720, kl_2048, kl_10000, kl_12345, kl_252645135, kl_858993459, kl_1103515245, kl_1431655765, kl_1640531535, kl_2000000000, b1, a6])
          rfl
        all_goals intro _
        all_goals try (exfalso; first | (rename_i q; exact q trivial) | (rename_i q; exact q) | omega)
      | with_reducible apply wp_mr
      | with_reducible apply wp_b
        · simp (disch := omega) only [Int.add_zero, Int.zero_add, true_or, or_true, true_and, and_true, not_false_eq_true, not_true_eq_false, if_true, if_false, if_pos, if_neg, ki_add, ki_sub, ki_mul, ki_neg, ki_lt, ki_le, ki_eq, ki_cl, ki_div, ki_ite, ck5, kl_0, kl_1, kl_2, kl_3, kl_4, kl_5, kl_6, kl_7, kl_8, kl_9, kl_10, kl_11, kl_12, kl_13, kl_14, kl_16, kl_20, kl_21, kl_24, kl_29, kl_30, kl_31, kl_33, kl_35, kl_37, kl_38, kl_39, kl_40, kl_41, kl_42, kl_43, kl_44, kl_45, kl_46, kl_47, kl_48, kl_49, kl_50, kl_51, kl_52, kl_53, kl_54, kl_55, kl_56, kl_57, kl_58, kl_59, kl_60, kl_61, kl_62, kl_63, kl_64, kl_70, kl_80, kl_81, kl_97, kl_98, kl_99, kl_100, kl_101, kl_102, kl_103, kl_104, kl_105, kl_106, kl_107, kl_108, kl_109, kl_110, kl_111, kl_112, kl_113, kl_114, kl_115, kl_120, kl_124, kl_126, kl_130, kl_255, kl_720, kl_2048, kl_10000, kl_12345, kl_252645135, kl_858993459, kl_1103515245, kl_1431655765, kl_1640531535, kl_2000000000, b1, a6]
          rfl
        all_goals intro _
        all_goals try (exfalso; first | (rename_i q; exact q trivial) | (rename_i q; exact q) | omega)
      | with_reducible apply wp_oe
        · simp (disch := omega) only [Int.add_zero, Int.zero_add, true_or, or_true, true_and, and_true, not_false_eq_true, not_true_eq_false, if_true, if_false, if_pos, if_neg, ki_add, ki_sub, ki_mul, ki_neg, ki_lt, ki_le, ki_eq, ki_cl, ki_div, ki_ite, ck5, kl_0, kl_1, kl_2, kl_3, kl_4, kl_5, kl_6, kl_7, kl_8, kl_9, kl_10, kl_11, kl_12, kl_13, kl_14, kl_16, kl_20, kl_21, kl_24, kl_29, kl_30, kl_31, kl_33, kl_35, kl_37, kl_38, kl_39, kl_40, kl_41, kl_42, kl_43, kl_44, kl_45, kl_46, kl_47, kl_48, kl_49, kl_50, kl_51, kl_52, kl_53, kl_54, kl_55, kl_56, kl_57, kl_58, kl_59, kl_60, kl_61, kl_62, kl_63, kl_64, kl_70, kl_80, kl_81, kl_97, kl_98, kl_99, kl_100, kl_101, kl_102, kl_103, kl_104, kl_105, kl_106, kl_107, kl_108, kl_109, kl_110, kl_111, kl_112, kl_113, kl_114, kl_115, kl_120, kl_124, kl_126, kl_130, kl_255, kl_720, kl_2048, kl_10000, kl_12345, kl_252645135, kl_858993459, kl_1103515245, kl_1431655765, kl_1640531535, kl_2000000000, b1, a6]
          try rfl
      | with_reducible apply wp_sv
        · (try simp (disch := omega) only [bi, Int.add_zero, Int.zero_add, true_or, or_true, true_and, and_true, not_false_eq_true, not_true_eq_false, if_true, if_false, if_pos, if_neg, ki_add, ki_sub, ki_mul, ki_neg, ki_lt, ki_le, ki_eq, ki_cl, ki_div, ki_ite, ck5, kl_0, kl_1, kl_2, kl_3, kl_4, kl_5, kl_6, kl_7, kl_8, kl_9, kl_10, kl_11, kl_12, kl_13, kl_14, kl_16, kl_20, kl_21, kl_24, kl_29, kl_30, kl_31, kl_33, kl_35, kl_37, kl_38, kl_39, kl_40, kl_41, kl_42, kl_43, kl_44, kl_45, kl_46, kl_47, kl_48, kl_49, kl_50, kl_51, kl_52, kl_53, kl_54, kl_55, kl_56, kl_57, kl_58, kl_59, kl_60, kl_61, kl_62, kl_63, kl_64, kl_70, kl_80, kl_81, kl_97, kl_98, kl_99, kl_100, kl_101, kl_102, kl_103, kl_104, kl_105, kl_106, kl_107, kl_108, kl_109, kl_110, kl_111, kl_112, kl_113, kl_114, kl_115, kl_120, kl_124, kl_126, kl_130, kl_255, kl_720, kl_2048, kl_10000, kl_12345, kl_252645135, kl_858993459, kl_1103515245, kl_1431655765, kl_1640531535, kl_2000000000, b1, a6])
          rfl
      | with_reducible apply wp_so
    all_goals rfl
theorem m_wr9 {t : Int → Int} {T h k : Int} {o : List Sp2} {S : xSt} (ht : okT t T) (hp : mP t T h o k S) : f_X12_wrong S = some (xsi S 0 19 (ki h), ()) := by
  obtain ⟨h0, h1, h2, h3, h4, h5, h6, h7, h8⟩ := hp
  have hT := ht.2.1
  unfold f_X12_wrong f_X12_wrong_0
  clear h7 h8 ht
  apply wp_eq
  repeat' first
    | with_reducible apply wp_bd
      · (try simp (disch := omega) only [bi, Int.add_zero, Int.zero_add, true_or, or_true, true_and, and_true, not_false_eq_true, not_true_eq_false, if_true, if_false, if_pos, if_neg, ki_add, ki_sub, ki_mul, ki_neg, ki_lt, ki_le, ki_eq, ki_cl, ki_div, ki_ite, ck5, kl_0, kl_1, kl_2, kl_3, kl_4, kl_5, kl_6, kl_7, kl_8, kl_9, kl_10, kl_11, kl_12, kl_13, kl_14, kl_16, kl_20, kl_21, kl_24, kl_29, kl_30, kl_31, kl_33, kl_35, kl_37, kl_38, kl_39, kl_40, kl_41, kl_42, kl_43, kl_44, kl_45, kl_46, kl_47, kl_48, kl_49, kl_50, kl_51, kl_52, kl_53, kl_54, kl_55, kl_56, kl_57, kl_58, kl_59, kl_60, kl_61, kl_62, kl_63, kl_64, kl_70, kl_80, kl_81, kl_97, kl_98, kl_99, kl_100, kl_101, kl_102, kl_103, kl_104, kl_105, kl_106, kl_107, kl_108, kl_109, kl_110, kl_111, kl_112, kl_113, kl_114, kl_115, kl_120, kl_124, kl_126, kl_130, kl_255, kl_720, kl_2048, kl_10000, kl_12345, kl_252645135, kl_858993459, kl_1103515245, kl_1431655765, kl_1640531535, kl_2000000000, h3, h4])
        rfl
    | with_reducible apply wp_in
      · (try simp (disch := omega) only [bi, Int.add_zero, Int.zero_add, true_or, or_true, true_and, and_true, not_false_eq_true, not_true_eq_false, if_true, if_false, if_pos, if_neg, ki_add, ki_sub, ki_mul, ki_neg, ki_lt, ki_le, ki_eq, ki_cl, ki_div, ki_ite, ck5, kl_0, kl_1, kl_2, kl_3, kl_4, kl_5, kl_6, kl_7, kl_8, kl_9, kl_10, kl_11, kl_12, kl_13, kl_14, kl_16, kl_20, kl_21, kl_24, kl_29, kl_30, kl_31, kl_33, kl_35, kl_37, kl_38, kl_39, kl_40, kl_41, kl_42, kl_43, kl_44, kl_45, kl_46, kl_47, kl_48, kl_49, kl_50, kl_51, kl_52, kl_53, kl_54, kl_55, kl_56, kl_57, kl_58, kl_59, kl_60, kl_61, kl_62, kl_63, kl_64, kl_70, kl_80, kl_81, kl_97, kl_98, kl_99, kl_100, kl_101, kl_102, kl_103, kl_104, kl_105, kl_106, kl_107, kl_108, kl_109, kl_110, kl_111, kl_112, kl_113, kl_114, kl_115, kl_120, kl_124, kl_126, kl_130, kl_255, kl_720, kl_2048, kl_10000, kl_12345, kl_252645135, kl_858993459, kl_1103515245, kl_1431655765, kl_1640531535, kl_2000000000, h3, h4])
        rfl
      · decide
      · omega
      · omega
    | with_reducible apply wp_gd
      · (try simp (disch := omega) only [bi, Int.add_zero, Int.zero_add, true_or, or_true, true_and, and_true, not_false_eq_true, not_true_eq_false, if_true, if_false, if_pos, if_neg, ki_add, ki_sub, ki_mul, ki_neg, ki_lt, ki_le, ki_eq, ki_cl, ki_div, ki_ite, ck5, kl_0, kl_1, kl_2, kl_3, kl_4, kl_5, kl_6, kl_7, kl_8, kl_9, kl_10, kl_11, kl_12, kl_13, kl_14, kl_16, kl_20, kl_21, kl_24, kl_29, kl_30, kl_31, kl_33, kl_35, kl_37, kl_38, kl_39, kl_40, kl_41, kl_42, kl_43, kl_44, kl_45, kl_46, kl_47, kl_48, kl_49, kl_50, kl_51, kl_52, kl_53, kl_54, kl_55, kl_56, kl_57, kl_58, kl_59, kl_60, kl_61, kl_62, kl_63, kl_64, kl_70, kl_80, kl_81, kl_97, kl_98, kl_99, kl_100, kl_101, kl_102, kl_103, kl_104, kl_105, kl_106, kl_107, kl_108, kl_109, kl_110, kl_111, kl_112, kl_113, kl_114, kl_115, kl_120, kl_124, kl_126, kl_130, kl_255, kl_720, kl_2048, kl_10000, kl_12345, kl_252645135, kl_858993459, kl_1103515245, kl_1431655765, kl_1640531535, kl_2000000000, h3, h4])
        rfl
      · first | exact True.intro | omega | assumption
    | with_reducible apply wp_is
      · (try simp (disch := omega) only [bi, Int.add_zero, Int.zero_add, true_or, or_true, true_and, and_true, not_false_eq_true, not_true_eq_false, if_true, if_false, if_pos, if_neg, ki_add, ki_sub, ki_mul, ki_neg, ki_lt, ki_le, ki_eq, ki_cl, ki_div, ki_ite, ck5, kl_0, kl_1, kl_2, kl_3, kl_4, kl_5, kl_6, kl_7, kl_8, kl_9, kl_10, kl_11, kl_12, kl_13, kl_14, kl_16, kl_20, kl_21, kl_24, kl_29, kl_30, kl_31, kl_33, kl_35, kl_37, kl_38, kl_39, kl_40, kl_41, kl_42, kl_43, kl_44, kl_45, kl_46, kl_47, kl_48, kl_49, kl_50, kl_51, kl_52, kl_53, kl_54, kl_55, kl_56, kl_57, kl_58, kl_59, kl_60, kl_61, kl_62, kl_63, kl_64, kl_70, kl_80, kl_81, kl_97, kl_98, kl_99, kl_100, kl_101, kl_102, kl_103, kl_104, kl_105, kl_106, kl_107, kl_108, kl_109, kl_110, kl_111, kl_112, kl_113, kl_114, kl_115, kl_120, kl_124, kl_126, kl_130, kl_255, kl_720, kl_2048, kl_10000, kl_12345, kl_252645135, kl_858993459, kl_1103515245, kl_1431655765, kl_1640531535, kl_2000000000, h3, h4])
        rfl
      all_goals intro _
      all_goals try (exfalso; first | (rename_i q; exact q trivial) | (rename_i q; exact q) | omega)
    | with_reducible apply wp_mr
    | with_reducible apply wp_b
      · simp (disch := omega) only [Int.add_zero, Int.zero_add, true_or, or_true, true_and, and_true, not_false_eq_true, not_true_eq_false, if_true, if_false, if_pos, if_neg, ki_add, ki_sub, ki_mul, ki_neg, ki_lt, ki_le, ki_eq, ki_cl, ki_div, ki_ite, ck5, kl_0, kl_1, kl_2, kl_3, kl_4, kl_5, kl_6, kl_7, kl_8, kl_9, kl_10, kl_11, kl_12, kl_13, kl_14, kl_16, kl_20, kl_21, kl_24, kl_29, kl_30, kl_31, kl_33, kl_35, kl_37, kl_38, kl_39, kl_40, kl_41, kl_42, kl_43, kl_44, kl_45, kl_46, kl_47, kl_48, kl_49, kl_50, kl_51, kl_52, kl_53, kl_54, kl_55, kl_56, kl_57, kl_58, kl_59, kl_60, kl_61, kl_62, kl_63, kl_64, kl_70, kl_80, kl_81, kl_97, kl_98, kl_99, kl_100, kl_101, kl_102, kl_103, kl_104, kl_105, kl_106, kl_107, kl_108, kl_109, kl_110, kl_111, kl_112, kl_113, kl_114, kl_115, kl_120, kl_124, kl_126, kl_130, kl_255, kl_720, kl_2048, kl_10000, kl_12345, kl_252645135, kl_858993459, kl_1103515245, kl_1431655765, kl_1640531535, kl_2000000000, h3, h4]
        rfl
      all_goals intro _
      all_goals try (exfalso; first | (rename_i q; exact q trivial) | (rename_i q; exact q) | omega)
    | with_reducible apply wp_oe
      · simp (disch := omega) only [Int.add_zero, Int.zero_add, true_or, or_true, true_and, and_true, not_false_eq_true, not_true_eq_false, if_true, if_false, if_pos, if_neg, ki_add, ki_sub, ki_mul, ki_neg, ki_lt, ki_le, ki_eq, ki_cl, ki_div, ki_ite, ck5, kl_0, kl_1, kl_2, kl_3, kl_4, kl_5, kl_6, kl_7, kl_8, kl_9, kl_10, kl_11, kl_12, kl_13, kl_14, kl_16, kl_20, kl_21, kl_24, kl_29, kl_30, kl_31, kl_33, kl_35, kl_37, kl_38, kl_39, kl_40, kl_41, kl_42, kl_43, kl_44, kl_45, kl_46, kl_47, kl_48, kl_49, kl_50, kl_51, kl_52, kl_53, kl_54, kl_55, kl_56, kl_57, kl_58, kl_59, kl_60, kl_61, kl_62, kl_63, kl_64, kl_70, kl_80, kl_81, kl_97, kl_98, kl_99, kl_100, kl_101, kl_102, kl_103, kl_104, kl_105, kl_106, kl_107, kl_108, kl_109, kl_110, kl_111, kl_112, kl_113, kl_114, kl_115, kl_120, kl_124, kl_126, kl_130, kl_255, kl_720, kl_2048, kl_10000, kl_12345, kl_252645135, kl_858993459, kl_1103515245, kl_1431655765, kl_1640531535, kl_2000000000, h3, h4]
        try rfl
    | with_reducible apply wp_sv
      · (try simp (disch := omega) only [bi, Int.add_zero, Int.zero_add, true_or, or_true, true_and, and_true, not_false_eq_true, not_true_eq_false, if_true, if_false, if_pos, if_neg, ki_add, ki_sub, ki_mul, ki_neg, ki_lt, ki_le, ki_eq, ki_cl, ki_div, ki_ite, ck5, kl_0, kl_1, kl_2, kl_3, kl_4, kl_5, kl_6, kl_7, kl_8, kl_9, kl_10, kl_11, kl_12, kl_13, kl_14, kl_16, kl_20, kl_21, kl_24, kl_29, kl_30, kl_31, kl_33, kl_35, kl_37, kl_38, kl_39, kl_40, kl_41, kl_42, kl_43, kl_44, kl_45, kl_46, kl_47, kl_48, kl_49, kl_50, kl_51, kl_52, kl_53, kl_54, kl_55, kl_56, kl_57, kl_58, kl_59, kl_60, kl_61, kl_62, kl_63, kl_64, kl_70, kl_80, kl_81, kl_97, kl_98, kl_99, kl_100, kl_101, kl_102, kl_103, kl_104, kl_105, kl_106, kl_107, kl_108, kl_109, kl_110, kl_111, kl_112, kl_113, kl_114, kl_115, kl_120, kl_124, kl_126, kl_130, kl_255, kl_720, kl_2048, kl_10000, kl_12345, kl_252645135, kl_858993459, kl_1103515245, kl_1431655765, kl_1640531535, kl_2000000000, h3, h4])
        rfl
    | with_reducible apply wp_so
  rfl
theorem mB_wr {t : Int → Int} {T h k : Int} {o : List Sp2} {S : xSt} (hp : mP t T h o k S) : mB t T h (h - (o.length : Int) + 1) (xsi S 0 19 (ki h)) ∧ mfr S (xsi S 0 19 (ki h)) := by
  obtain ⟨h0, h1, h2, h3, h4, h5, h6, h7, h8⟩ := hp
  have ff : mfr S (xsi S 0 19 (ki h)) := mfr_i (by unfold pM9; omega)
  exact ⟨⟨h0, h1, by omega, by rw [xsi_r, if_pos ⟨rfl, rfl⟩], ⟨h, o.length, by rw [xsi_r, if_neg (by omega)]; exact h4, h0, h1, by rw [xsi_r, if_neg (by omega)]; exact h6, by omega⟩, mlT_f h8 ff⟩, ff⟩
theorem ki_8n : ∀ v : Nat, v < 128 → (ki (v : Int)).toInt8.toInt32 = ki (v : Int) := by decide +kernel
theorem m_ad9 {S : xSt} {n : Nat} {v : Int} {a : Int32} (hn : n < 130) (v0 : 0 ≤ v) (v1 : v < 128) (e : S.1 0 21 = ki n) : f_X12_addStep S (ki v) a = some (xsi (xsi (xsi S 15 (130 + n) (ki v)) 16 (130 + n) a) 0 21 (ki ((n : Int) + 1)), ()) := by
  have e8 := ki_8n v.toNat (by omega)
  rw [show ((v.toNat : Nat) : Int) = v by omega] at e8
  have kt : (130 + (n : Int)).toNat = 130 + n := by omega
  unfold f_X12_addStep f_X12_addStep_0
  apply wp_eq
  repeat' first
    | with_reducible apply wp_bd
      · (try simp (disch := omega) only [bi, Int.add_zero, Int.zero_add, true_or, or_true, true_and, and_true, not_false_eq_true, not_true_eq_false, if_true, if_false, if_pos, if_neg, ki_add, ki_sub, ki_mul, ki_neg, ki_lt, ki_le, ki_eq, ki_cl, ki_div, ki_ite, ck5, kl_0, kl_1, kl_2, kl_3, kl_4, kl_5, kl_6, kl_7, kl_8, kl_9, kl_10, kl_11, kl_12, kl_13, kl_14, kl_16, kl_20, kl_21, kl_24, kl_29, kl_30, kl_31, kl_33, kl_35, kl_37, kl_38, kl_39, kl_40, kl_41, kl_42, kl_43, kl_44, kl_45, kl_46, kl_47, kl_48, kl_49, kl_50, kl_51, kl_52, kl_53, kl_54, kl_55, kl_56, kl_57, kl_58, kl_59, kl_60, kl_61, kl_62, kl_63, kl_64, kl_70, kl_80, kl_81, kl_97, kl_98, kl_99, kl_100, kl_101, kl_102, kl_103, kl_104, kl_105, kl_106, kl_107, kl_108, kl_109, kl_110, kl_111, kl_112, kl_113, kl_114, kl_115, kl_120, kl_124, kl_126, kl_130, kl_255, kl_720, kl_2048, kl_10000, kl_12345, kl_252645135, kl_858993459, kl_1103515245, kl_1431655765, kl_1640531535, kl_2000000000, e, e8, kt, xsi_r])
        rfl
    | with_reducible apply wp_in
      · (try simp (disch := omega) only [bi, Int.add_zero, Int.zero_add, true_or, or_true, true_and, and_true, not_false_eq_true, not_true_eq_false, if_true, if_false, if_pos, if_neg, ki_add, ki_sub, ki_mul, ki_neg, ki_lt, ki_le, ki_eq, ki_cl, ki_div, ki_ite, ck5, kl_0, kl_1, kl_2, kl_3, kl_4, kl_5, kl_6, kl_7, kl_8, kl_9, kl_10, kl_11, kl_12, kl_13, kl_14, kl_16, kl_20, kl_21, kl_24, kl_29, kl_30, kl_31, kl_33, kl_35, kl_37, kl_38, kl_39, kl_40, kl_41, kl_42, kl_43, kl_44, kl_45, kl_46, kl_47, kl_48, kl_49, kl_50, kl_51, kl_52, kl_53, kl_54, kl_55, kl_56, kl_57, kl_58, kl_59, kl_60, kl_61, kl_62, kl_63, kl_64, kl_70, kl_80, kl_81, kl_97, kl_98, kl_99, kl_100, kl_101, kl_102, kl_103, kl_104, kl_105, kl_106, kl_107, kl_108, kl_109, kl_110, kl_111, kl_112, kl_113, kl_114, kl_115, kl_120, kl_124, kl_126, kl_130, kl_255, kl_720, kl_2048, kl_10000, kl_12345, kl_252645135, kl_858993459, kl_1103515245, kl_1431655765, kl_1640531535, kl_2000000000, e, e8, kt, xsi_r])
        rfl
      · decide
      · omega
      · omega
    | with_reducible apply wp_gd
      · (try simp (disch := omega) only [bi, Int.add_zero, Int.zero_add, true_or, or_true, true_and, and_true, not_false_eq_true, not_true_eq_false, if_true, if_false, if_pos, if_neg, ki_add, ki_sub, ki_mul, ki_neg, ki_lt, ki_le, ki_eq, ki_cl, ki_div, ki_ite, ck5, kl_0, kl_1, kl_2, kl_3, kl_4, kl_5, kl_6, kl_7, kl_8, kl_9, kl_10, kl_11, kl_12, kl_13, kl_14, kl_16, kl_20, kl_21, kl_24, kl_29, kl_30, kl_31, kl_33, kl_35, kl_37, kl_38, kl_39, kl_40, kl_41, kl_42, kl_43, kl_44, kl_45, kl_46, kl_47, kl_48, kl_49, kl_50, kl_51, kl_52, kl_53, kl_54, kl_55, kl_56, kl_57, kl_58, kl_59, kl_60, kl_61, kl_62, kl_63, kl_64, kl_70, kl_80, kl_81, kl_97, kl_98, kl_99, kl_100, kl_101, kl_102, kl_103, kl_104, kl_105, kl_106, kl_107, kl_108, kl_109, kl_110, kl_111, kl_112, kl_113, kl_114, kl_115, kl_120, kl_124, kl_126, kl_130, kl_255, kl_720, kl_2048, kl_10000, kl_12345, kl_252645135, kl_858993459, kl_1103515245, kl_1431655765, kl_1640531535, kl_2000000000, e, e8, kt, xsi_r])
        rfl
      · first | exact True.intro | omega | assumption
    | with_reducible apply wp_is
      · (try simp (disch := omega) only [bi, Int.add_zero, Int.zero_add, true_or, or_true, true_and, and_true, not_false_eq_true, not_true_eq_false, if_true, if_false, if_pos, if_neg, ki_add, ki_sub, ki_mul, ki_neg, ki_lt, ki_le, ki_eq, ki_cl, ki_div, ki_ite, ck5, kl_0, kl_1, kl_2, kl_3, kl_4, kl_5, kl_6, kl_7, kl_8, kl_9, kl_10, kl_11, kl_12, kl_13, kl_14, kl_16, kl_20, kl_21, kl_24, kl_29, kl_30, kl_31, kl_33, kl_35, kl_37, kl_38, kl_39, kl_40, kl_41, kl_42, kl_43, kl_44, kl_45, kl_46, kl_47, kl_48, kl_49, kl_50, kl_51, kl_52, kl_53, kl_54, kl_55, kl_56, kl_57, kl_58, kl_59, kl_60, kl_61, kl_62, kl_63, kl_64, kl_70, kl_80, kl_81, kl_97, kl_98, kl_99, kl_100, kl_101, kl_102, kl_103, kl_104, kl_105, kl_106, kl_107, kl_108, kl_109, kl_110, kl_111, kl_112, kl_113, kl_114, kl_115, kl_120, kl_124, kl_126, kl_130, kl_255, kl_720, kl_2048, kl_10000, kl_12345, kl_252645135, kl_858993459, kl_1103515245, kl_1431655765, kl_1640531535, kl_2000000000, e, e8, kt, xsi_r])
        rfl
      all_goals intro _
      all_goals try (exfalso; first | (rename_i q; exact q trivial) | (rename_i q; exact q) | omega)
    | with_reducible apply wp_mr
    | with_reducible apply wp_b
      · simp (disch := omega) only [Int.add_zero, Int.zero_add, true_or, or_true, true_and, and_true, not_false_eq_true, not_true_eq_false, if_true, if_false, if_pos, if_neg, ki_add, ki_sub, ki_mul, ki_neg, ki_lt, ki_le, ki_eq, ki_cl, ki_div, ki_ite, ck5, kl_0, kl_1, kl_2, kl_3, kl_4, kl_5, kl_6, kl_7, kl_8, kl_9, kl_10, kl_11, kl_12, kl_13, kl_14, kl_16, kl_20, kl_21, kl_24, kl_29, kl_30, kl_31, kl_33, kl_35, kl_37, kl_38, kl_39, kl_40, kl_41, kl_42, kl_43, kl_44, kl_45, kl_46, kl_47, kl_48, kl_49, kl_50, kl_51, kl_52, kl_53, kl_54, kl_55, kl_56, kl_57, kl_58, kl_59, kl_60, kl_61, kl_62, kl_63, kl_64, kl_70, kl_80, kl_81, kl_97, kl_98, kl_99, kl_100, kl_101, kl_102, kl_103, kl_104, kl_105, kl_106, kl_107, kl_108, kl_109, kl_110, kl_111, kl_112, kl_113, kl_114, kl_115, kl_120, kl_124, kl_126, kl_130, kl_255, kl_720, kl_2048, kl_10000, kl_12345, kl_252645135, kl_858993459, kl_1103515245, kl_1431655765, kl_1640531535, kl_2000000000, e, e8, kt, xsi_r]
        rfl
      all_goals intro _
      all_goals try (exfalso; first | (rename_i q; exact q trivial) | (rename_i q; exact q) | omega)
    | with_reducible apply wp_oe
      · simp (disch := omega) only [Int.add_zero, Int.zero_add, true_or, or_true, true_and, and_true, not_false_eq_true, not_true_eq_false, if_true, if_false, if_pos, if_neg, ki_add, ki_sub, ki_mul, ki_neg, ki_lt, ki_le, ki_eq, ki_cl, ki_div, ki_ite, ck5, kl_0, kl_1, kl_2, kl_3, kl_4, kl_5, kl_6, kl_7, kl_8, kl_9, kl_10, kl_11, kl_12, kl_13, kl_14, kl_16, kl_20, kl_21, kl_24, kl_29, kl_30, kl_31, kl_33, kl_35, kl_37, kl_38, kl_39, kl_40, kl_41, kl_42, kl_43, kl_44, kl_45, kl_46, kl_47, kl_48, kl_49, kl_50, kl_51, kl_52, kl_53, kl_54, kl_55, kl_56, kl_57, kl_58, kl_59, kl_60, kl_61, kl_62, kl_63, kl_64, kl_70, kl_80, kl_81, kl_97, kl_98, kl_99, kl_100, kl_101, kl_102, kl_103, kl_104, kl_105, kl_106, kl_107, kl_108, kl_109, kl_110, kl_111, kl_112, kl_113, kl_114, kl_115, kl_120, kl_124, kl_126, kl_130, kl_255, kl_720, kl_2048, kl_10000, kl_12345, kl_252645135, kl_858993459, kl_1103515245, kl_1431655765, kl_1640531535, kl_2000000000, e, e8, kt, xsi_r]
        try rfl
    | with_reducible apply wp_sv
      · (try simp (disch := omega) only [bi, Int.add_zero, Int.zero_add, true_or, or_true, true_and, and_true, not_false_eq_true, not_true_eq_false, if_true, if_false, if_pos, if_neg, ki_add, ki_sub, ki_mul, ki_neg, ki_lt, ki_le, ki_eq, ki_cl, ki_div, ki_ite, ck5, kl_0, kl_1, kl_2, kl_3, kl_4, kl_5, kl_6, kl_7, kl_8, kl_9, kl_10, kl_11, kl_12, kl_13, kl_14, kl_16, kl_20, kl_21, kl_24, kl_29, kl_30, kl_31, kl_33, kl_35, kl_37, kl_38, kl_39, kl_40, kl_41, kl_42, kl_43, kl_44, kl_45, kl_46, kl_47, kl_48, kl_49, kl_50, kl_51, kl_52, kl_53, kl_54, kl_55, kl_56, kl_57, kl_58, kl_59, kl_60, kl_61, kl_62, kl_63, kl_64, kl_70, kl_80, kl_81, kl_97, kl_98, kl_99, kl_100, kl_101, kl_102, kl_103, kl_104, kl_105, kl_106, kl_107, kl_108, kl_109, kl_110, kl_111, kl_112, kl_113, kl_114, kl_115, kl_120, kl_124, kl_126, kl_130, kl_255, kl_720, kl_2048, kl_10000, kl_12345, kl_252645135, kl_858993459, kl_1103515245, kl_1431655765, kl_1640531535, kl_2000000000, e, e8, kt, xsi_r])
        rfl
    | with_reducible apply wp_so
  rfl
theorem mP_ad {t : Int → Int} {T h k c a v : Int} {o : List Sp2} {S : xSt} (hp : mP t T h o k S) (hl : (o.length : Int) < h) (hv : v = mc c) : mP t T h (o ++ [(c, a)]) k (xsi (xsi (xsi S 15 (130 + o.length) (ki v)) 16 (130 + o.length) (ki a)) 0 21 (ki ((o.length : Int) + 1))) ∧ mfr S (xsi (xsi (xsi S 15 (130 + o.length) (ki v)) 16 (130 + o.length) (ki a)) 0 21 (ki ((o.length : Int) + 1))) := by
  obtain ⟨h0, h1, h2, h3, h4, h5, h6, h7, h8⟩ := hp
  have hln := len_ap o (c, a)
  obtain ⟨S', e⟩ : ∃ S', xsi (xsi (xsi S 15 (130 + o.length) (ki v)) 16 (130 + o.length) (ki a)) 0 21 (ki ((o.length : Int) + 1)) = S' := ⟨_, rfl⟩
  rw [e]
  have ff : mfr S S' := by rw [← e]; exact mfr_tr (mfr_tr (mfr_i (by unfold pM9; omega)) (mfr_i (by unfold pM9; omega))) (mfr_i (by unfold pM9; omega))
  refine ⟨⟨h0, h1, by rw [hln]; omega, ?_, ?_, ?_, ?_, fun j s hj => ?_, mlT_f h8 ff⟩, ff⟩
  · rw [← e, xsi_r, if_neg (by omega), xsi_r, if_neg (by omega), xsi_r, if_neg (by omega)]; exact h3
  · rw [← e, xsi_r, if_neg (by omega), xsi_r, if_neg (by omega), xsi_r, if_neg (by omega)]; exact h4
  · rw [← e, xsi_r, if_neg (by omega), xsi_r, if_neg (by omega), xsi_r, if_neg (by omega)]; exact h5
  · rw [← e, xsi_r, if_pos ⟨rfl, rfl⟩, hln]; exact nc_1n _
  · have r4 : S'.1 15 (130 + j) = if j = o.length then ki v else S.1 15 (130 + j) := by
      rw [← e, xsi_r, if_neg (by omega), xsi_r, if_neg (by omega), xsi_r]
      by_cases ej : j = o.length
      · rw [if_pos ⟨rfl, by omega⟩, if_pos ej]
      · rw [if_neg (fun w => ej (by omega)), if_neg ej]
    have r5 : S'.1 16 (130 + j) = if j = o.length then ki a else S.1 16 (130 + j) := by
      rw [← e, xsi_r, if_neg (by omega), xsi_r]
      by_cases ej : j = o.length
      · rw [if_pos ⟨rfl, by omega⟩, if_pos ej]
      · rw [if_neg (fun w => ej (by omega)), if_neg ej, xsi_r, if_neg (by omega)]
    rw [r4, r5]
    rcases get_ap hj with ⟨e1, e2⟩ | ⟨e1, e2⟩
    · rw [e2, if_pos e1, if_pos e1, hv]; exact ⟨rfl, rfl⟩
    · rw [if_neg (by omega), if_neg (by omega)]; exact h7 j s e2
theorem mB_ad {t : Int → Int} {T x c v : Int} {a : Int32} {S : xSt} (ht : okT t T) (hp : mB t T x (c + 1) S) (c0 : 0 ≤ c) (v0 : 0 ≤ v) (v1 : v < 128) : ∃ S', f_X12_addStep S (ki v) a = some (S', ()) ∧ mB t T x c S' ∧ mfr S S' := by
  obtain ⟨a1, a2, a3, a4, ⟨h', u, b1, b2, b3, b4, b5⟩, a6⟩ := hp
  have hT := ht.2.1
  have e := m_ad9 (a := a) (by omega) v0 v1 b4
  refine ⟨_, e, ?_⟩
  obtain ⟨S', e⟩ : ∃ S', xsi (xsi (xsi S 15 (130 + u) (ki v)) 16 (130 + u) a) 0 21 (ki ((u : Int) + 1)) = S' := ⟨_, rfl⟩
  rw [e]
  have ff : mfr S S' := by rw [← e]; exact mfr_tr (mfr_tr (mfr_i (by unfold pM9; omega)) (mfr_i (by unfold pM9; omega))) (mfr_i (by unfold pM9; omega))
  refine ⟨⟨a1, a2, c0, ?_, ⟨h', u + 1, ?_, b2, b3, ?_, by omega⟩, mlT_f a6 ff⟩, ff⟩
  · rw [← e, xsi_r, if_neg (by omega), xsi_r, if_neg (by omega), xsi_r, if_neg (by omega)]; exact a4
  · rw [← e, xsi_r, if_neg (by omega), xsi_r, if_neg (by omega), xsi_r, if_neg (by omega)]; exact b1
  · rw [← e, xsi_r, if_pos ⟨rfl, rfl⟩]; exact nc_1n u
theorem mP_av {t : Int → Int} {T h k : Int} {o : List Sp2} {S : xSt} (hp : mP t T h o k S) (hh : h < T) : mP t T (h + 1) o k (xsi S 0 18 (ki (h + 1))) ∧ mfr S (xsi S 0 18 (ki (h + 1))) := by
  obtain ⟨h0, h1, h2, h3, h4, h5, h6, h7, h8⟩ := hp
  have ff : mfr S (xsi S 0 18 (ki (h + 1))) := mfr_i (by unfold pM9; omega)
  exact ⟨⟨by omega, by omega, by omega, by rw [xsi_r, if_neg (by omega)]; exact h3, by rw [xsi_r, if_pos ⟨rfl, rfl⟩], by rw [xsi_r, if_neg (by omega)]; exact h5, by rw [xsi_r, if_neg (by omega)]; exact h6, fun j s hj => by rw [xsi_r, if_neg (by omega), xsi_r, if_neg (by omega)]; exact h7 j s hj, mlT_f h8 ff⟩, ff⟩
/-- one more sign and what stands behind it -/
theorem m_sgn {t : Int → Int} {T h k L : Int} {o : List Sp2} {S : xSt} {r : Prs} {g : xSt → Option (xSt × Unit)} (ht : okT t T) (hL0 : 0 ≤ L) (hp : mP t T h o k S) (hl : lvO (chT t T h) = L) (hgd : ∃ B, gdR B T (h + 1) r)
    (hg : wp (g (xsi S 0 18 (ki (h + 1)))) (fun q => mR t T o (h + 1) k r q.1 ∧ mfr (xsi S 0 18 (ki (h + 1))) q.1)) :
    ∃ S2 w S3, g (xsi S 0 18 (ki (h + 1))) = some (S2, w) ∧ f_X12_addStep S2 (ki (i8 (chT t T h))) (ki 0) = some (S3, ()) ∧ mfr S S3 ∧ (∀ x, r = .inl x → mB t T x (h - (o.length : Int)) S3) ∧ (∀ p, r = .inr p → mP t T p.1 (o ++ (p.2 ++ [(chT t T h, 0)])) k S3) := by
  have hop := lv_op hl hL0
  have hin := lv_in hl hL0
  obtain ⟨p2, f2⟩ := mP_av hp hin
  have hlen := hp.2.2.1
  have hT := ht.2.1
  have e8 : i8 (chT t T h) = chT t T h := by unfold i8; rw [if_pos]; unfold isop at hop; omega
  have hv : 0 ≤ chT t T h ∧ chT t T h < 128 := by unfold isop at hop; omega
  rw [e8]
  obtain ⟨⟨S2, w⟩, e2, hr, f3⟩ := hg
  dsimp only at hr f3
  obtain ⟨B, hgd⟩ := hgd
  cases r with
  | inl x =>
    have hb : mB t T x (h + 1 - (o.length : Int)) S2 := hr
    obtain ⟨S3, e3, b3, f4⟩ := mB_ad (a := ki 0) ht (c := h - (o.length : Int)) (by rw [show h - (o.length : Int) + 1 = h + 1 - (o.length : Int) by omega]; exact hb) (by omega) hv.1 hv.2
    refine ⟨S2, w, S3, e2, e3, mfr_tr (mfr_tr f2 f3) f4, fun y ey => ?_, fun p ep => (by cases ep)⟩
    cases ey
    exact b3
  | inr p =>
    have hb : mP t T p.1 (o ++ p.2) k S2 := hr
    obtain ⟨g1, g2, g3, _⟩ := hgd
    have ln : ((o ++ p.2).length : Int) < p.1 := by rw [List.length_append]; omega
    have ad := mP_ad (c := chT t T h) (a := 0) (v := chT t T h) hb ln (mc_op hop).symm
    have e3 := m_ad9 (S := S2) (n := (o ++ p.2).length) (v := chT t T h) (a := ki 0) (by omega) hv.1 hv.2 hb.2.2.2.2.2.2.1
    refine ⟨S2, w, _, e2, e3, mfr_tr (mfr_tr f2 f3) ad.2, fun y ey => (by cases ey), fun p' ep => ?_⟩
    cases ep
    have := ad.1
    rw [List.append_assoc] at this
    exact this
/-- what the body of a level's loop does -/
def bdC (t : Int → Int) (T k L : Int) (rc : Int → Prs) (body : xSt → Option (xSt ⊕ (xSt × Unit))) : Prop := (∀ (h : Int) (o : List Sp2) (S : xSt), mP t T h o k S → lvO (chT t T h) = L → wp (body S) (fun q => ∃ S', q = .inl S' ∧ mfr S S' ∧ (∀ x, rc (h + 1) = .inl x → mB t T x (h - (o.length : Int)) S') ∧ (∀ p, rc (h + 1) = .inr p → mP t T p.1 (o ++ (p.2 ++ [(chT t T h, 0)])) k S'))) ∧ (∀ (h : Int) (o : List Sp2) (S : xSt), mP t T h o k S → lvO (chT t T h) ≠ L → body S = some (.inr (S, ()))) ∧ (∀ (x c : Int) (S : xSt), mB t T x c S → body S = some (.inr (S, ())))
theorem m_loop9 {t : Int → Int} {T h0 h1 k L : Int} {o o1 : List Sp2} {S1 : xSt} {rc : Int → Prs} {body : xSt → Option (xSt ⊕ (xSt × Unit))} (ht : okT t T) (hL0 : 0 ≤ L) (hb : bdC t T k L rc body) (hgd : ∀ h, 0 ≤ h → h ≤ T → ∃ B, gdR B T h (rc h)) (hs : (o.length : Int) ≤ h0) (hp : mP t T h1 (o ++ o1) k S1) (hl1 : (o1.length : Int) ≤ h1 - h0) : wp (xlp body 5000 S1) (fun q => mR t T o h0 k (lpz t T rc L 120 h1 o1) q.1 ∧ mfr S1 q.1) := by
  obtain ⟨hb1, hb2, hb3⟩ := hb
  refine wp_lp (fun (n : Nat) (q : xSt) => mfr S1 q ∧ ((∃ (h' : Int) (o' : List Sp2), mP t T h' (o ++ o') k q ∧ (o'.length : Int) ≤ h' - h0 ∧ 120 - (n : Int) ≤ h' ∧ lpz t T rc L n h' o' = lpz t T rc L 120 h1 o1) ∨ (∃ x c, mB t T x c q ∧ h0 - (o.length : Int) ≤ c ∧ lpz t T rc L 120 h1 o1 = .inl x))) 120 ?_ ⟨mfr_rf _, Or.inl ⟨h1, o1, hp, hl1, by have := hp.1; omega, rfl⟩⟩ (by omega)
  intro n S hI
  obtain ⟨ff, hc⟩ := hI
  rcases hc with ⟨h', o', hp1, hl, hn, e⟩ | ⟨x, c, hx, hcc, e⟩
  · have h00 := hp1.1
    have h01 := hp1.2.1
    have hT := ht.2.1
    cases n with
    | zero =>
      have hne : lvO (chT t T h') ≠ L := fun q => by have := lv_in q hL0; omega
      have e' : (Sum.inr (h', o') : Prs) = lpz t T rc L 120 h1 o1 := e
      exact ⟨_, hb2 h' (o ++ o') S hp1 hne, qr ⟨by rw [← e']; exact hp1, ff⟩⟩
    | succ n =>
      have eg : lpz t T rc L (n + 1) h' o' = if lvO (chT t T h') = L then (match rc (h' + 1) with | .inl x => .inl x | .inr p => lpz t T rc L n p.1 (o' ++ (p.2 ++ [(chT t T h', 0)]))) else .inr (h', o') := rfl
      rw [eg] at e
      by_cases hlv : lvO (chT t T h') = L
      · rw [if_pos hlv] at e
        have hin := lv_in hlv hL0
        obtain ⟨B, gr⟩ := hgd (h' + 1) (by omega) (by omega)
        obtain ⟨q, eq, S', eq', f2, c1, c2⟩ := hb1 h' (o ++ o') S hp1 hlv
        subst eq'
        refine ⟨_, eq, ql ⟨n, Nat.lt_succ_self n, mfr_tr ff f2, ?_⟩⟩
        have hlo : ((o ++ o').length : Int) = o.length + o'.length := by rw [List.length_append]; omega
        cases er : rc (h' + 1) with
        | inl x =>
          rw [er] at e
          exact Or.inr ⟨x, _, c1 x er, by omega, e.symm⟩
        | inr p =>
          rw [er] at e gr
          obtain ⟨g1, g2, g3, _⟩ := gr
          have z := c2 p er
          rw [List.append_assoc] at z
          refine Or.inl ⟨p.1, _, z, ?_, by omega, e⟩
          rw [List.length_append, List.length_append]
          show ((o'.length + (p.2.length + 1) : Nat) : Int) ≤ _
          omega
      · rw [if_neg hlv] at e
        exact ⟨_, hb2 h' (o ++ o') S hp1 hlv, qr ⟨by rw [← e]; exact hp1, ff⟩⟩
  · exact ⟨_, hb3 x c S hx, qr ⟨by rw [e]; exact mB_w hx (by omega) hcc, ff⟩⟩
theorem m_level {t : Int → Int} {T h k L : Int} {o : List Sp2} {S : xSt} {u : Int → Prs} {gp : xSt → Option (xSt × Unit)} {body : xSt → Option (xSt ⊕ (xSt × Unit))} (ht : okT t T) (hL0 : 0 ≤ L) (hL2 : L ≠ 2) (hb : bdC t T k L u body) (hgd : ∀ h, 0 ≤ h → h ≤ T → ∃ B, gdR B T h (u h)) (hp : mP t T h o k S)
    (hg : wp (gp S) (fun q => mR t T o h k (u h) q.1 ∧ mfr S q.1)) : wp (xob (gp S) (fun S_1 _ => xlp body 5000 S_1)) (fun q => mR t T o h k (lvN t T u L (u h)) q.1 ∧ mfr S q.1) := by
  obtain ⟨⟨S1, w⟩, e1, hr, ff⟩ := hg
  dsimp only at hr ff
  obtain ⟨B, gr⟩ := hgd h hp.1 hp.2.1
  refine wp_oe e1 ?_
  have hs := hp.2.2.1
  cases er : u h with
  | inl x =>
    rw [er] at hr
    have hx : mB t T x (h - (o.length : Int)) S1 := hr
    refine wp_lp (fun (n : Nat) (q : xSt) => q = S1) 0 ?_ rfl (by omega)
    intro n q hq
    subst hq
    exact ⟨_, hb.2.2 x _ q hx, qr ⟨hx, ff⟩⟩
  | inr p =>
    rw [er] at hr gr
    have hx : mP t T p.1 (o ++ p.2) k S1 := hr
    obtain ⟨g1, g2, g3, _⟩ := gr
    have em : mst L = 120 := by unfold mst; rw [if_neg hL2]
    have el : lvN t T u L (.inr p) = lpz t T u L (mst L) p.1 p.2 := rfl
    rw [el, em]
    exact wp_mo (m_loop9 ht hL0 hb hgd hs hx g3) (fun q hq => ⟨hq.1, mfr_tr ff hq.2⟩)
