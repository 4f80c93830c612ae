/-! part 52: what the reference reads of a stack -/
theorem xlp_g {σ ρ : Type} {body : σ → Option (σ ⊕ ρ)} {n : Nat} {s : σ} {r : Option ρ} (s' : σ) (h : body s = some (.inl s')) (h2 : xlp body n s' = r) : xlp body (n + 1) s = r := (xlp_s h).trans h2
theorem wp_l1 {σ ρ : Type} {body : σ → Option (σ ⊕ ρ)} {n : Nat} {s : σ} {Q : ρ → Prop} (h : wp (body s) (fun q => (∀ s', q = .inl s' → wp (xlp body n s') Q) ∧ (∀ r, q = .inr r → Q r))) : wp (xlp body (n + 1) s) Q := by
  obtain ⟨q, e, h1, h2⟩ := h
  cases q with
  | inl s' => rw [xlp_s e]; exact h1 s' rfl
  | inr r => rw [xlp_e e]; exact ⟨r, rfl, h2 r rfl⟩
theorem ql {σ ρ : Type} {s : σ} {A : σ → Prop} {B : ρ → Prop} (h : A s) : (∀ s', (Sum.inl s : σ ⊕ ρ) = .inl s' → A s') ∧ (∀ r, (Sum.inl s : σ ⊕ ρ) = .inr r → B r) := ⟨fun _ e => (by cases e; exact h), fun _ e => by cases e⟩
theorem qr {σ ρ : Type} {r : ρ} {A : σ → Prop} {B : ρ → Prop} (h : B r) : (∀ s', (Sum.inr r : σ ⊕ ρ) = .inl s' → A s') ∧ (∀ r', (Sum.inr r : σ ⊕ ρ) = .inr r' → B r') := ⟨fun _ e => (by cases e), fun _ e => by cases e; exact h⟩
theorem m_in {S : xSt} {a b c : Int} (a1 : -2147483648 ≤ a) (a2 : a < 2147483648) (b1 : -2147483648 ≤ b) (b2 : b < 2147483648) (c1 : -2147483648 ≤ c) (c2 : c < 2147483648) : f_X12_in S (ki a) (ki b) (ki c) = some (S, ki (bi (b ≤ a ∧ a ≤ c))) := by
  unfold f_X12_in f_X12_in_0 f_X12_in_14
  apply wp_eq
  repeat' first
    | with_reducible apply wp_bd
      · (try simp (disch := omega) only [bi, Int.add_zero, Int.zero_add, true_or, or_true, true_and, and_true, not_false_eq_true, not_true_eq_false, if_true, if_false, if_pos, if_neg, ki_add, ki_sub, ki_mul, ki_neg, ki_lt, ki_le, ki_eq, ki_cl, ki_div, ki_ite, ck5, kl_0, kl_1, kl_2, kl_3, kl_4, kl_5, kl_6, kl_7, kl_8, kl_9, kl_10, kl_11, kl_12, kl_13, kl_14, kl_16, kl_20, kl_21, kl_24, kl_29, kl_30, kl_31, kl_33, kl_35, kl_37, kl_38, kl_39, kl_40, kl_41, kl_42, kl_43, kl_44, kl_45, kl_46, kl_47, kl_48, kl_49, kl_50, kl_51, kl_52, kl_53, kl_54, kl_55, kl_56, kl_57, kl_58, kl_59, kl_60, kl_61, kl_62, kl_63, kl_64, kl_70, kl_80, kl_81, kl_97, kl_98, kl_99, kl_100, kl_101, kl_102, kl_103, kl_104, kl_105, kl_106, kl_107, kl_108, kl_109, kl_110, kl_111, kl_112, kl_113, kl_114, kl_115, kl_120, kl_124, kl_126, kl_130, kl_255, kl_720, kl_2048, kl_10000, kl_12345, kl_252645135, kl_858993459, kl_1103515245, kl_1431655765, kl_1640531535, kl_2000000000])
        rfl
    | with_reducible apply wp_in
      · (try simp (disch := omega) only [bi, Int.add_zero, Int.zero_add, true_or, or_true, true_and, and_true, not_false_eq_true, not_true_eq_false, if_true, if_false, if_pos, if_neg, ki_add, ki_sub, ki_mul, ki_neg, ki_lt, ki_le, ki_eq, ki_cl, ki_div, ki_ite, ck5, kl_0, kl_1, kl_2, kl_3, kl_4, kl_5, kl_6, kl_7, kl_8, kl_9, kl_10, kl_11, kl_12, kl_13, kl_14, kl_16, kl_20, kl_21, kl_24, kl_29, kl_30, kl_31, kl_33, kl_35, kl_37, kl_38, kl_39, kl_40, kl_41, kl_42, kl_43, kl_44, kl_45, kl_46, kl_47, kl_48, kl_49, kl_50, kl_51, kl_52, kl_53, kl_54, kl_55, kl_56, kl_57, kl_58, kl_59, kl_60, kl_61, kl_62, kl_63, kl_64, kl_70, kl_80, kl_81, kl_97, kl_98, kl_99, kl_100, kl_101, kl_102, kl_103, kl_104, kl_105, kl_106, kl_107, kl_108, kl_109, kl_110, kl_111, kl_112, kl_113, kl_114, kl_115, kl_120, kl_124, kl_126, kl_130, kl_255, kl_720, kl_2048, kl_10000, kl_12345, kl_252645135, kl_858993459, kl_1103515245, kl_1431655765, kl_1640531535, kl_2000000000])
        rfl
      · decide
      · omega
      · omega
    | with_reducible apply wp_gd
      · (try simp (disch := omega) only [bi, Int.add_zero, Int.zero_add, true_or, or_true, true_and, and_true, not_false_eq_true, not_true_eq_false, if_true, if_false, if_pos, if_neg, ki_add, ki_sub, ki_mul, ki_neg, ki_lt, ki_le, ki_eq, ki_cl, ki_div, ki_ite, ck5, kl_0, kl_1, kl_2, kl_3, kl_4, kl_5, kl_6, kl_7, kl_8, kl_9, kl_10, kl_11, kl_12, kl_13, kl_14, kl_16, kl_20, kl_21, kl_24, kl_29, kl_30, kl_31, kl_33, kl_35, kl_37, kl_38, kl_39, kl_40, kl_41, kl_42, kl_43, kl_44, kl_45, kl_46, kl_47, kl_48, kl_49, kl_50, kl_51, kl_52, kl_53, kl_54, kl_55, kl_56, kl_57, kl_58, kl_59, kl_60, kl_61, kl_62, kl_63, kl_64, kl_70, kl_80, kl_81, kl_97, kl_98, kl_99, kl_100, kl_101, kl_102, kl_103, kl_104, kl_105, kl_106, kl_107, kl_108, kl_109, kl_110, kl_111, kl_112, kl_113, kl_114, kl_115, kl_120, kl_124, kl_126, kl_130, kl_255, kl_720, kl_2048, kl_10000, kl_12345, kl_252645135, kl_858993459, kl_1103515245, kl_1431655765, kl_1640531535, kl_2000000000])
        rfl
      · first | exact True.intro | omega
    | with_reducible apply wp_is
      · (try simp (disch := omega) only [bi, Int.add_zero, Int.zero_add, true_or, or_true, true_and, and_true, not_false_eq_true, not_true_eq_false, if_true, if_false, if_pos, if_neg, ki_add, ki_sub, ki_mul, ki_neg, ki_lt, ki_le, ki_eq, ki_cl, ki_div, ki_ite, ck5, kl_0, kl_1, kl_2, kl_3, kl_4, kl_5, kl_6, kl_7, kl_8, kl_9, kl_10, kl_11, kl_12, kl_13, kl_14, kl_16, kl_20, kl_21, kl_24, kl_29, kl_30, kl_31, kl_33, kl_35, kl_37, kl_38, kl_39, kl_40, kl_41, kl_42, kl_43, kl_44, kl_45, kl_46, kl_47, kl_48, kl_49, kl_50, kl_51, kl_52, kl_53, kl_54, kl_55, kl_56, kl_57, kl_58, kl_59, kl_60, kl_61, kl_62, kl_63, kl_64, kl_70, kl_80, kl_81, kl_97, kl_98, kl_99, kl_100, kl_101, kl_102, kl_103, kl_104, kl_105, kl_106, kl_107, kl_108, kl_109, kl_110, kl_111, kl_112, kl_113, kl_114, kl_115, kl_120, kl_124, kl_126, kl_130, kl_255, kl_720, kl_2048, kl_10000, kl_12345, kl_252645135, kl_858993459, kl_1103515245, kl_1431655765, kl_1640531535, kl_2000000000])
        rfl
      all_goals intro _
      all_goals try (exfalso; first | (rename_i q; exact q trivial) | (rename_i q; exact q) | omega)
    | with_reducible apply wp_mr
    | with_reducible apply wp_b
      · simp (disch := omega) only [Int.add_zero, Int.zero_add, true_or, or_true, true_and, and_true, not_false_eq_true, not_true_eq_false, if_true, if_false, if_pos, if_neg, ki_add, ki_sub, ki_mul, ki_neg, ki_lt, ki_le, ki_eq, ki_cl, ki_div, ki_ite, ck5, kl_0, kl_1, kl_2, kl_3, kl_4, kl_5, kl_6, kl_7, kl_8, kl_9, kl_10, kl_11, kl_12, kl_13, kl_14, kl_16, kl_20, kl_21, kl_24, kl_29, kl_30, kl_31, kl_33, kl_35, kl_37, kl_38, kl_39, kl_40, kl_41, kl_42, kl_43, kl_44, kl_45, kl_46, kl_47, kl_48, kl_49, kl_50, kl_51, kl_52, kl_53, kl_54, kl_55, kl_56, kl_57, kl_58, kl_59, kl_60, kl_61, kl_62, kl_63, kl_64, kl_70, kl_80, kl_81, kl_97, kl_98, kl_99, kl_100, kl_101, kl_102, kl_103, kl_104, kl_105, kl_106, kl_107, kl_108, kl_109, kl_110, kl_111, kl_112, kl_113, kl_114, kl_115, kl_120, kl_124, kl_126, kl_130, kl_255, kl_720, kl_2048, kl_10000, kl_12345, kl_252645135, kl_858993459, kl_1103515245, kl_1431655765, kl_1640531535, kl_2000000000]
        rfl
      all_goals intro _
      all_goals try (exfalso; first | (rename_i q; exact q trivial) | (rename_i q; exact q) | omega)
    | with_reducible apply wp_oe
      · simp (disch := omega) only [Int.add_zero, Int.zero_add, true_or, or_true, true_and, and_true, not_false_eq_true, not_true_eq_false, if_true, if_false, if_pos, if_neg, ki_add, ki_sub, ki_mul, ki_neg, ki_lt, ki_le, ki_eq, ki_cl, ki_div, ki_ite, ck5, kl_0, kl_1, kl_2, kl_3, kl_4, kl_5, kl_6, kl_7, kl_8, kl_9, kl_10, kl_11, kl_12, kl_13, kl_14, kl_16, kl_20, kl_21, kl_24, kl_29, kl_30, kl_31, kl_33, kl_35, kl_37, kl_38, kl_39, kl_40, kl_41, kl_42, kl_43, kl_44, kl_45, kl_46, kl_47, kl_48, kl_49, kl_50, kl_51, kl_52, kl_53, kl_54, kl_55, kl_56, kl_57, kl_58, kl_59, kl_60, kl_61, kl_62, kl_63, kl_64, kl_70, kl_80, kl_81, kl_97, kl_98, kl_99, kl_100, kl_101, kl_102, kl_103, kl_104, kl_105, kl_106, kl_107, kl_108, kl_109, kl_110, kl_111, kl_112, kl_113, kl_114, kl_115, kl_120, kl_124, kl_126, kl_130, kl_255, kl_720, kl_2048, kl_10000, kl_12345, kl_252645135, kl_858993459, kl_1103515245, kl_1431655765, kl_1640531535, kl_2000000000]
        try rfl
    | with_reducible apply wp_sv
      · (try simp (disch := omega) only [bi, Int.add_zero, Int.zero_add, true_or, or_true, true_and, and_true, not_false_eq_true, not_true_eq_false, if_true, if_false, if_pos, if_neg, ki_add, ki_sub, ki_mul, ki_neg, ki_lt, ki_le, ki_eq, ki_cl, ki_div, ki_ite, ck5, kl_0, kl_1, kl_2, kl_3, kl_4, kl_5, kl_6, kl_7, kl_8, kl_9, kl_10, kl_11, kl_12, kl_13, kl_14, kl_16, kl_20, kl_21, kl_24, kl_29, kl_30, kl_31, kl_33, kl_35, kl_37, kl_38, kl_39, kl_40, kl_41, kl_42, kl_43, kl_44, kl_45, kl_46, kl_47, kl_48, kl_49, kl_50, kl_51, kl_52, kl_53, kl_54, kl_55, kl_56, kl_57, kl_58, kl_59, kl_60, kl_61, kl_62, kl_63, kl_64, kl_70, kl_80, kl_81, kl_97, kl_98, kl_99, kl_100, kl_101, kl_102, kl_103, kl_104, kl_105, kl_106, kl_107, kl_108, kl_109, kl_110, kl_111, kl_112, kl_113, kl_114, kl_115, kl_120, kl_124, kl_126, kl_130, kl_255, kl_720, kl_2048, kl_10000, kl_12345, kl_252645135, kl_858993459, kl_1103515245, kl_1431655765, kl_1640531535, kl_2000000000])
        rfl
    | with_reducible apply wp_so
  · exact sk (bi_f (by omega)).symm
  · exact sk (bi_f (by omega)).symm
  · exact sk (bi_t (by omega)).symm
theorem m_col {S : xSt} {a : Int} (a1 : -2147483648 ≤ a) (a2 : a < 2147483648) : f_X12_isColumn S (ki a) = some (S, ki (bi (0 ≤ a ∧ a ≤ 5))) := by
  unfold f_X12_isColumn f_X12_isColumn_0
  apply wp_eq
  repeat' first
    | with_reducible apply wp_bd
      · (try simp (disch := omega) only [bi, Int.add_zero, Int.zero_add, true_or, or_true, true_and, and_true, not_false_eq_true, not_true_eq_false, if_true, if_false, if_pos, if_neg, ki_add, ki_sub, ki_mul, ki_neg, ki_lt, ki_le, ki_eq, ki_cl, ki_div, ki_ite, ck5, kl_0, kl_1, kl_2, kl_3, kl_4, kl_5, kl_6, kl_7, kl_8, kl_9, kl_10, kl_11, kl_12, kl_13, kl_14, kl_16, kl_20, kl_21, kl_24, kl_29, kl_30, kl_31, kl_33, kl_35, kl_37, kl_38, kl_39, kl_40, kl_41, kl_42, kl_43, kl_44, kl_45, kl_46, kl_47, kl_48, kl_49, kl_50, kl_51, kl_52, kl_53, kl_54, kl_55, kl_56, kl_57, kl_58, kl_59, kl_60, kl_61, kl_62, kl_63, kl_64, kl_70, kl_80, kl_81, kl_97, kl_98, kl_99, kl_100, kl_101, kl_102, kl_103, kl_104, kl_105, kl_106, kl_107, kl_108, kl_109, kl_110, kl_111, kl_112, kl_113, kl_114, kl_115, kl_120, kl_124, kl_126, kl_130, kl_255, kl_720, kl_2048, kl_10000, kl_12345, kl_252645135, kl_858993459, kl_1103515245, kl_1431655765, kl_1640531535, kl_2000000000, m_in])
        rfl
    | with_reducible apply wp_in
      · (try simp (disch := omega) only [bi, Int.add_zero, Int.zero_add, true_or, or_true, true_and, and_true, not_false_eq_true, not_true_eq_false, if_true, if_false, if_pos, if_neg, ki_add, ki_sub, ki_mul, ki_neg, ki_lt, ki_le, ki_eq, ki_cl, ki_div, ki_ite, ck5, kl_0, kl_1, kl_2, kl_3, kl_4, kl_5, kl_6, kl_7, kl_8, kl_9, kl_10, kl_11, kl_12, kl_13, kl_14, kl_16, kl_20, kl_21, kl_24, kl_29, kl_30, kl_31, kl_33, kl_35, kl_37, kl_38, kl_39, kl_40, kl_41, kl_42, kl_43, kl_44, kl_45, kl_46, kl_47, kl_48, kl_49, kl_50, kl_51, kl_52, kl_53, kl_54, kl_55, kl_56, kl_57, kl_58, kl_59, kl_60, kl_61, kl_62, kl_63, kl_64, kl_70, kl_80, kl_81, kl_97, kl_98, kl_99, kl_100, kl_101, kl_102, kl_103, kl_104, kl_105, kl_106, kl_107, kl_108, kl_109, kl_110, kl_111, kl_112, kl_113, kl_114, kl_115, kl_120, kl_124, kl_126, kl_130, kl_255, kl_720, kl_2048, kl_10000, kl_12345, kl_252645135, kl_858993459, kl_1103515245, kl_1431655765, kl_1640531535, kl_2000000000, m_in])
        rfl
      · decide
      · omega
      · omega
    | with_reducible apply wp_gd
      · (try simp (disch := omega) only [bi, Int.add_zero, Int.zero_add, true_or, or_true, true_and, and_true, not_false_eq_true, not_true_eq_false, if_true, if_false, if_pos, if_neg, ki_add, ki_sub, ki_mul, ki_neg, ki_lt, ki_le, ki_eq, ki_cl, ki_div, ki_ite, ck5, kl_0, kl_1, kl_2, kl_3, kl_4, kl_5, kl_6, kl_7, kl_8, kl_9, kl_10, kl_11, kl_12, kl_13, kl_14, kl_16, kl_20, kl_21, kl_24, kl_29, kl_30, kl_31, kl_33, kl_35, kl_37, kl_38, kl_39, kl_40, kl_41, kl_42, kl_43, kl_44, kl_45, kl_46, kl_47, kl_48, kl_49, kl_50, kl_51, kl_52, kl_53, kl_54, kl_55, kl_56, kl_57, kl_58, kl_59, kl_60, kl_61, kl_62, kl_63, kl_64, kl_70, kl_80, kl_81, kl_97, kl_98, kl_99, kl_100, kl_101, kl_102, kl_103, kl_104, kl_105, kl_106, kl_107, kl_108, kl_109, kl_110, kl_111, kl_112, kl_113, kl_114, kl_115, kl_120, kl_124, kl_126, kl_130, kl_255, kl_720, kl_2048, kl_10000, kl_12345, kl_252645135, kl_858993459, kl_1103515245, kl_1431655765, kl_1640531535, kl_2000000000, m_in])
        rfl
      · first | exact True.intro | omega
    | with_reducible apply wp_is
      · (try simp (disch := omega) only [bi, Int.add_zero, Int.zero_add, true_or, or_true, true_and, and_true, not_false_eq_true, not_true_eq_false, if_true, if_false, if_pos, if_neg, ki_add, ki_sub, ki_mul, ki_neg, ki_lt, ki_le, ki_eq, ki_cl, ki_div, ki_ite, ck5, kl_0, kl_1, kl_2, kl_3, kl_4, kl_5, kl_6, kl_7, kl_8, kl_9, kl_10, kl_11, kl_12, kl_13, kl_14, kl_16, kl_20, kl_21, kl_24, kl_29, kl_30, kl_31, kl_33, kl_35, kl_37, kl_38, kl_39, kl_40, kl_41, kl_42, kl_43, kl_44, kl_45, kl_46, kl_47, kl_48, kl_49, kl_50, kl_51, kl_52, kl_53, kl_54, kl_55, kl_56, kl_57, kl_58, kl_59, kl_60, kl_61, kl_62, kl_63, kl_64, kl_70, kl_80, kl_81, kl_97, kl_98, kl_99, kl_100, kl_101, kl_102, kl_103, kl_104, kl_105, kl_106, kl_107, kl_108, kl_109, kl_110, kl_111, kl_112, kl_113, kl_114, kl_115, kl_120, kl_124, kl_126, kl_130, kl_255, kl_720, kl_2048, kl_10000, kl_12345, kl_252645135, kl_858993459, kl_1103515245, kl_1431655765, kl_1640531535, kl_2000000000, m_in])
        rfl
      all_goals intro _
      all_goals try (exfalso; first | (rename_i q; exact q trivial) | (rename_i q; exact q) | omega)
    | with_reducible apply wp_mr
    | with_reducible apply wp_b
      · simp (disch := omega) only [Int.add_zero, Int.zero_add, true_or, or_true, true_and, and_true, not_false_eq_true, not_true_eq_false, if_true, if_false, if_pos, if_neg, ki_add, ki_sub, ki_mul, ki_neg, ki_lt, ki_le, ki_eq, ki_cl, ki_div, ki_ite, ck5, kl_0, kl_1, kl_2, kl_3, kl_4, kl_5, kl_6, kl_7, kl_8, kl_9, kl_10, kl_11, kl_12, kl_13, kl_14, kl_16, kl_20, kl_21, kl_24, kl_29, kl_30, kl_31, kl_33, kl_35, kl_37, kl_38, kl_39, kl_40, kl_41, kl_42, kl_43, kl_44, kl_45, kl_46, kl_47, kl_48, kl_49, kl_50, kl_51, kl_52, kl_53, kl_54, kl_55, kl_56, kl_57, kl_58, kl_59, kl_60, kl_61, kl_62, kl_63, kl_64, kl_70, kl_80, kl_81, kl_97, kl_98, kl_99, kl_100, kl_101, kl_102, kl_103, kl_104, kl_105, kl_106, kl_107, kl_108, kl_109, kl_110, kl_111, kl_112, kl_113, kl_114, kl_115, kl_120, kl_124, kl_126, kl_130, kl_255, kl_720, kl_2048, kl_10000, kl_12345, kl_252645135, kl_858993459, kl_1103515245, kl_1431655765, kl_1640531535, kl_2000000000, m_in]
        rfl
      all_goals intro _
      all_goals try (exfalso; first | (rename_i q; exact q trivial) | (rename_i q; exact q) | omega)
    | with_reducible apply wp_oe
      · simp (disch := omega) only [Int.add_zero, Int.zero_add, true_or, or_true, true_and, and_true, not_false_eq_true, not_true_eq_false, if_true, if_false, if_pos, if_neg, ki_add, ki_sub, ki_mul, ki_neg, ki_lt, ki_le, ki_eq, ki_cl, ki_div, ki_ite, ck5, kl_0, kl_1, kl_2, kl_3, kl_4, kl_5, kl_6, kl_7, kl_8, kl_9, kl_10, kl_11, kl_12, kl_13, kl_14, kl_16, kl_20, kl_21, kl_24, kl_29, kl_30, kl_31, kl_33, kl_35, kl_37, kl_38, kl_39, kl_40, kl_41, kl_42, kl_43, kl_44, kl_45, kl_46, kl_47, kl_48, kl_49, kl_50, kl_51, kl_52, kl_53, kl_54, kl_55, kl_56, kl_57, kl_58, kl_59, kl_60, kl_61, kl_62, kl_63, kl_64, kl_70, kl_80, kl_81, kl_97, kl_98, kl_99, kl_100, kl_101, kl_102, kl_103, kl_104, kl_105, kl_106, kl_107, kl_108, kl_109, kl_110, kl_111, kl_112, kl_113, kl_114, kl_115, kl_120, kl_124, kl_126, kl_130, kl_255, kl_720, kl_2048, kl_10000, kl_12345, kl_252645135, kl_858993459, kl_1103515245, kl_1431655765, kl_1640531535, kl_2000000000, m_in]
        try rfl
    | with_reducible apply wp_sv
      · (try simp (disch := omega) only [bi, Int.add_zero, Int.zero_add, true_or, or_true, true_and, and_true, not_false_eq_true, not_true_eq_false, if_true, if_false, if_pos, if_neg, ki_add, ki_sub, ki_mul, ki_neg, ki_lt, ki_le, ki_eq, ki_cl, ki_div, ki_ite, ck5, kl_0, kl_1, kl_2, kl_3, kl_4, kl_5, kl_6, kl_7, kl_8, kl_9, kl_10, kl_11, kl_12, kl_13, kl_14, kl_16, kl_20, kl_21, kl_24, kl_29, kl_30, kl_31, kl_33, kl_35, kl_37, kl_38, kl_39, kl_40, kl_41, kl_42, kl_43, kl_44, kl_45, kl_46, kl_47, kl_48, kl_49, kl_50, kl_51, kl_52, kl_53, kl_54, kl_55, kl_56, kl_57, kl_58, kl_59, kl_60, kl_61, kl_62, kl_63, kl_64, kl_70, kl_80, kl_81, kl_97, kl_98, kl_99, kl_100, kl_101, kl_102, kl_103, kl_104, kl_105, kl_106, kl_107, kl_108, kl_109, kl_110, kl_111, kl_112, kl_113, kl_114, kl_115, kl_120, kl_124, kl_126, kl_130, kl_255, kl_720, kl_2048, kl_10000, kl_12345, kl_252645135, kl_858993459, kl_1103515245, kl_1431655765, kl_1640531535, kl_2000000000, m_in])
        rfl
    | with_reducible apply wp_so
  · exact sk (bi_t (by omega)).symm
  · exact sk (bi_f (by omega)).symm
theorem m_shelf {S : xSt} {a : Int} (a1 : -2147483648 ≤ a) (a2 : a < 2147483648) : f_X12_isShelf S (ki a) = some (S, ki (bi (0 ≤ a ∧ a ≤ 5))) := by
  unfold f_X12_isShelf f_X12_isShelf_0
  apply wp_eq
  repeat' first
    | with_reducible apply wp_bd
      · (try simp (disch := omega) only [bi, Int.add_zero, Int.zero_add, true_or, or_true, true_and, and_true, not_false_eq_true, not_true_eq_false, if_true, if_false, if_pos, if_neg, ki_add, ki_sub, ki_mul, ki_neg, ki_lt, ki_le, ki_eq, ki_cl, ki_div, ki_ite, ck5, kl_0, kl_1, kl_2, kl_3, kl_4, kl_5, kl_6, kl_7, kl_8, kl_9, kl_10, kl_11, kl_12, kl_13, kl_14, kl_16, kl_20, kl_21, kl_24, kl_29, kl_30, kl_31, kl_33, kl_35, kl_37, kl_38, kl_39, kl_40, kl_41, kl_42, kl_43, kl_44, kl_45, kl_46, kl_47, kl_48, kl_49, kl_50, kl_51, kl_52, kl_53, kl_54, kl_55, kl_56, kl_57, kl_58, kl_59, kl_60, kl_61, kl_62, kl_63, kl_64, kl_70, kl_80, kl_81, kl_97, kl_98, kl_99, kl_100, kl_101, kl_102, kl_103, kl_104, kl_105, kl_106, kl_107, kl_108, kl_109, kl_110, kl_111, kl_112, kl_113, kl_114, kl_115, kl_120, kl_124, kl_126, kl_130, kl_255, kl_720, kl_2048, kl_10000, kl_12345, kl_252645135, kl_858993459, kl_1103515245, kl_1431655765, kl_1640531535, kl_2000000000, m_in])
        rfl
    | with_reducible apply wp_in
      · (try simp (disch := omega) only [bi, Int.add_zero, Int.zero_add, true_or, or_true, true_and, and_true, not_false_eq_true, not_true_eq_false, if_true, if_false, if_pos, if_neg, ki_add, ki_sub, ki_mul, ki_neg, ki_lt, ki_le, ki_eq, ki_cl, ki_div, ki_ite, ck5, kl_0, kl_1, kl_2, kl_3, kl_4, kl_5, kl_6, kl_7, kl_8, kl_9, kl_10, kl_11, kl_12, kl_13, kl_14, kl_16, kl_20, kl_21, kl_24, kl_29, kl_30, kl_31, kl_33, kl_35, kl_37, kl_38, kl_39, kl_40, kl_41, kl_42, kl_43, kl_44, kl_45, kl_46, kl_47, kl_48, kl_49, kl_50, kl_51, kl_52, kl_53, kl_54, kl_55, kl_56, kl_57, kl_58, kl_59, kl_60, kl_61, kl_62, kl_63, kl_64, kl_70, kl_80, kl_81, kl_97, kl_98, kl_99, kl_100, kl_101, kl_102, kl_103, kl_104, kl_105, kl_106, kl_107, kl_108, kl_109, kl_110, kl_111, kl_112, kl_113, kl_114, kl_115, kl_120, kl_124, kl_126, kl_130, kl_255, kl_720, kl_2048, kl_10000, kl_12345, kl_252645135, kl_858993459, kl_1103515245, kl_1431655765, kl_1640531535, kl_2000000000, m_in])
        rfl
      · decide
      · omega
      · omega
    | with_reducible apply wp_gd
      · (try simp (disch := omega) only [bi, Int.add_zero, Int.zero_add, true_or, or_true, true_and, and_true, not_false_eq_true, not_true_eq_false, if_true, if_false, if_pos, if_neg, ki_add, ki_sub, ki_mul, ki_neg, ki_lt, ki_le, ki_eq, ki_cl, ki_div, ki_ite, ck5, kl_0, kl_1, kl_2, kl_3, kl_4, kl_5, kl_6, kl_7, kl_8, kl_9, kl_10, kl_11, kl_12, kl_13, kl_14, kl_16, kl_20, kl_21, kl_24, kl_29, kl_30, kl_31, kl_33, kl_35, kl_37, kl_38, kl_39, kl_40, kl_41, kl_42, kl_43, kl_44, kl_45, kl_46, kl_47, kl_48, kl_49, kl_50, kl_51, kl_52, kl_53, kl_54, kl_55, kl_56, kl_57, kl_58, kl_59, kl_60, kl_61, kl_62, kl_63, kl_64, kl_70, kl_80, kl_81, kl_97, kl_98, kl_99, kl_100, kl_101, kl_102, kl_103, kl_104, kl_105, kl_106, kl_107, kl_108, kl_109, kl_110, kl_111, kl_112, kl_113, kl_114, kl_115, kl_120, kl_124, kl_126, kl_130, kl_255, kl_720, kl_2048, kl_10000, kl_12345, kl_252645135, kl_858993459, kl_1103515245, kl_1431655765, kl_1640531535, kl_2000000000, m_in])
        rfl
      · first | exact True.intro | omega
    | with_reducible apply wp_is
      · (try simp (disch := omega) only [bi, Int.add_zero, Int.zero_add, true_or, or_true, true_and, and_true, not_false_eq_true, not_true_eq_false, if_true, if_false, if_pos, if_neg, ki_add, ki_sub, ki_mul, ki_neg, ki_lt, ki_le, ki_eq, ki_cl, ki_div, ki_ite, ck5, kl_0, kl_1, kl_2, kl_3, kl_4, kl_5, kl_6, kl_7, kl_8, kl_9, kl_10, kl_11, kl_12, kl_13, kl_14, kl_16, kl_20, kl_21, kl_24, kl_29, kl_30, kl_31, kl_33, kl_35, kl_37, kl_38, kl_39, kl_40, kl_41, kl_42, kl_43, kl_44, kl_45, kl_46, kl_47, kl_48, kl_49, kl_50, kl_51, kl_52, kl_53, kl_54, kl_55, kl_56, kl_57, kl_58, kl_59, kl_60, kl_61, kl_62, kl_63, kl_64, kl_70, kl_80, kl_81, kl_97, kl_98, kl_99, kl_100, kl_101, kl_102, kl_103, kl_104, kl_105, kl_106, kl_107, kl_108, kl_109, kl_110, kl_111, kl_112, kl_113, kl_114, kl_115, kl_120, kl_124, kl_126, kl_130, kl_255, kl_720, kl_2048, kl_10000, kl_12345, kl_252645135, kl_858993459, kl_1103515245, kl_1431655765, kl_1640531535, kl_2000000000, m_in])
        rfl
      all_goals intro _
      all_goals try (exfalso; first | (rename_i q; exact q trivial) | (rename_i q; exact q) | omega)
    | with_reducible apply wp_mr
    | with_reducible apply wp_b
      · simp (disch := omega) only [Int.add_zero, Int.zero_add, true_or, or_true, true_and, and_true, not_false_eq_true, not_true_eq_false, if_true, if_false, if_pos, if_neg, ki_add, ki_sub, ki_mul, ki_neg, ki_lt, ki_le, ki_eq, ki_cl, ki_div, ki_ite, ck5, kl_0, kl_1, kl_2, kl_3, kl_4, kl_5, kl_6, kl_7, kl_8, kl_9, kl_10, kl_11, kl_12, kl_13, kl_14, kl_16, kl_20, kl_21, kl_24, kl_29, kl_30, kl_31, kl_33, kl_35, kl_37, kl_38, kl_39, kl_40, kl_41, kl_42, kl_43, kl_44, kl_45, kl_46, kl_47, kl_48, kl_49, kl_50, kl_51, kl_52, kl_53, kl_54, kl_55, kl_56, kl_57, kl_58, kl_59, kl_60, kl_61, kl_62, kl_63, kl_64, kl_70, kl_80, kl_81, kl_97, kl_98, kl_99, kl_100, kl_101, kl_102, kl_103, kl_104, kl_105, kl_106, kl_107, kl_108, kl_109, kl_110, kl_111, kl_112, kl_113, kl_114, kl_115, kl_120, kl_124, kl_126, kl_130, kl_255, kl_720, kl_2048, kl_10000, kl_12345, kl_252645135, kl_858993459, kl_1103515245, kl_1431655765, kl_1640531535, kl_2000000000, m_in]
        rfl
      all_goals intro _
      all_goals try (exfalso; first | (rename_i q; exact q trivial) | (rename_i q; exact q) | omega)
    | with_reducible apply wp_oe
      · simp (disch := omega) only [Int.add_zero, Int.zero_add, true_or, or_true, true_and, and_true, not_false_eq_true, not_true_eq_false, if_true, if_false, if_pos, if_neg, ki_add, ki_sub, ki_mul, ki_neg, ki_lt, ki_le, ki_eq, ki_cl, ki_div, ki_ite, ck5, kl_0, kl_1, kl_2, kl_3, kl_4, kl_5, kl_6, kl_7, kl_8, kl_9, kl_10, kl_11, kl_12, kl_13, kl_14, kl_16, kl_20, kl_21, kl_24, kl_29, kl_30, kl_31, kl_33, kl_35, kl_37, kl_38, kl_39, kl_40, kl_41, kl_42, kl_43, kl_44, kl_45, kl_46, kl_47, kl_48, kl_49, kl_50, kl_51, kl_52, kl_53, kl_54, kl_55, kl_56, kl_57, kl_58, kl_59, kl_60, kl_61, kl_62, kl_63, kl_64, kl_70, kl_80, kl_81, kl_97, kl_98, kl_99, kl_100, kl_101, kl_102, kl_103, kl_104, kl_105, kl_106, kl_107, kl_108, kl_109, kl_110, kl_111, kl_112, kl_113, kl_114, kl_115, kl_120, kl_124, kl_126, kl_130, kl_255, kl_720, kl_2048, kl_10000, kl_12345, kl_252645135, kl_858993459, kl_1103515245, kl_1431655765, kl_1640531535, kl_2000000000, m_in]
        try rfl
    | with_reducible apply wp_sv
      · (try simp (disch := omega) only [bi, Int.add_zero, Int.zero_add, true_or, or_true, true_and, and_true, not_false_eq_true, not_true_eq_false, if_true, if_false, if_pos, if_neg, ki_add, ki_sub, ki_mul, ki_neg, ki_lt, ki_le, ki_eq, ki_cl, ki_div, ki_ite, ck5, kl_0, kl_1, kl_2, kl_3, kl_4, kl_5, kl_6, kl_7, kl_8, kl_9, kl_10, kl_11, kl_12, kl_13, kl_14, kl_16, kl_20, kl_21, kl_24, kl_29, kl_30, kl_31, kl_33, kl_35, kl_37, kl_38, kl_39, kl_40, kl_41, kl_42, kl_43, kl_44, kl_45, kl_46, kl_47, kl_48, kl_49, kl_50, kl_51, kl_52, kl_53, kl_54, kl_55, kl_56, kl_57, kl_58, kl_59, kl_60, kl_61, kl_62, kl_63, kl_64, kl_70, kl_80, kl_81, kl_97, kl_98, kl_99, kl_100, kl_101, kl_102, kl_103, kl_104, kl_105, kl_106, kl_107, kl_108, kl_109, kl_110, kl_111, kl_112, kl_113, kl_114, kl_115, kl_120, kl_124, kl_126, kl_130, kl_255, kl_720, kl_2048, kl_10000, kl_12345, kl_252645135, kl_858993459, kl_1103515245, kl_1431655765, kl_1640531535, kl_2000000000, m_in])
        rfl
    | with_reducible apply wp_so
  · exact sk (bi_t (by omega)).symm
  · exact sk (bi_f (by omega)).symm
theorem m_days {S : xSt} {a : Int} (a1 : -2147483648 ≤ a) (a2 : a < 2147483648) : f_X12_areDays S (ki a) = some (S, ki (bi (0 ≤ a ∧ a ≤ 40))) := by
  unfold f_X12_areDays f_X12_areDays_0
  apply wp_eq
  repeat' first
    | with_reducible apply wp_bd
      · (try simp (disch := omega) only [bi, Int.add_zero, Int.zero_add, true_or, or_true, true_and, and_true, not_false_eq_true, not_true_eq_false, if_true, if_false, if_pos, if_neg, ki_add, ki_sub, ki_mul, ki_neg, ki_lt, ki_le, ki_eq, ki_cl, ki_div, ki_ite, ck5, kl_0, kl_1, kl_2, kl_3, kl_4, kl_5, kl_6, kl_7, kl_8, kl_9, kl_10, kl_11, kl_12, kl_13, kl_14, kl_16, kl_20, kl_21, kl_24, kl_29, kl_30, kl_31, kl_33, kl_35, kl_37, kl_38, kl_39, kl_40, kl_41, kl_42, kl_43, kl_44, kl_45, kl_46, kl_47, kl_48, kl_49, kl_50, kl_51, kl_52, kl_53, kl_54, kl_55, kl_56, kl_57, kl_58, kl_59, kl_60, kl_61, kl_62, kl_63, kl_64, kl_70, kl_80, kl_81, kl_97, kl_98, kl_99, kl_100, kl_101, kl_102, kl_103, kl_104, kl_105, kl_106, kl_107, kl_108, kl_109, kl_110, kl_111, kl_112, kl_113, kl_114, kl_115, kl_120, kl_124, kl_126, kl_130, kl_255, kl_720, kl_2048, kl_10000, kl_12345, kl_252645135, kl_858993459, kl_1103515245, kl_1431655765, kl_1640531535, kl_2000000000, m_in])
        rfl
    | with_reducible apply wp_in
      · (try simp (disch := omega) only [bi, Int.add_zero, Int.zero_add, true_or, or_true, true_and, and_true, not_false_eq_true, not_true_eq_false, if_true, if_false, if_pos, if_neg, ki_add, ki_sub, ki_mul, ki_neg, ki_lt, ki_le, ki_eq, ki_cl, ki_div, ki_ite, ck5, kl_0, kl_1, kl_2, kl_3, kl_4, kl_5, kl_6, kl_7, kl_8, kl_9, kl_10, kl_11, kl_12, kl_13, kl_14, kl_16, kl_20, kl_21, kl_24, kl_29, kl_30, kl_31, kl_33, kl_35, kl_37, kl_38, kl_39, kl_40, kl_41, kl_42, kl_43, kl_44, kl_45, kl_46, kl_47, kl_48, kl_49, kl_50, kl_51, kl_52, kl_53, kl_54, kl_55, kl_56, kl_57, kl_58, kl_59, kl_60, kl_61, kl_62, kl_63, kl_64, kl_70, kl_80, kl_81, kl_97, kl_98, kl_99, kl_100, kl_101, kl_102, kl_103, kl_104, kl_105, kl_106, kl_107, kl_108, kl_109, kl_110, kl_111, kl_112, kl_113, kl_114, kl_115, kl_120, kl_124, kl_126, kl_130, kl_255, kl_720, kl_2048, kl_10000, kl_12345, kl_252645135, kl_858993459, kl_1103515245, kl_1431655765, kl_1640531535, kl_2000000000, m_in])
        rfl
      · decide
      · omega
      · omega
    | with_reducible apply wp_gd
      · (try simp (disch := omega) only [bi, Int.add_zero, Int.zero_add, true_or, or_true, true_and, and_true, not_false_eq_true, not_true_eq_false, if_true, if_false, if_pos, if_neg, ki_add, ki_sub, ki_mul, ki_neg, ki_lt, ki_le, ki_eq, ki_cl, ki_div, ki_ite, ck5, kl_0, kl_1, kl_2, kl_3, kl_4, kl_5, kl_6, kl_7, kl_8, kl_9, kl_10, kl_11, kl_12, kl_13, kl_14, kl_16, kl_20, kl_21, kl_24, kl_29, kl_30, kl_31, kl_33, kl_35, kl_37, kl_38, kl_39, kl_40, kl_41, kl_42, kl_43, kl_44, kl_45, kl_46, kl_47, kl_48, kl_49, kl_50, kl_51, kl_52, kl_53, kl_54, kl_55, kl_56, kl_57, kl_58, kl_59, kl_60, kl_61, kl_62, kl_63, kl_64, kl_70, kl_80, kl_81, kl_97, kl_98, kl_99, kl_100, kl_101, kl_102, kl_103, kl_104, kl_105, kl_106, kl_107, kl_108, kl_109, kl_110, kl_111, kl_112, kl_113, kl_114, kl_115, kl_120, kl_124, kl_126, kl_130, kl_255, kl_720, kl_2048, kl_10000, kl_12345, kl_252645135, kl_858993459, kl_1103515245, kl_1431655765, kl_1640531535, kl_2000000000, m_in])
        rfl
      · first | exact True.intro | omega
    | with_reducible apply wp_is
      · (try simp (disch := omega) only [bi, Int.add_zero, Int.zero_add, true_or, or_true, true_and, and_true, not_false_eq_true, not_true_eq_false, if_true, if_false, if_pos, if_neg, ki_add, ki_sub, ki_mul, ki_neg, ki_lt, ki_le, ki_eq, ki_cl, ki_div, ki_ite, ck5, kl_0, kl_1, kl_2, kl_3, kl_4, kl_5, kl_6, kl_7, kl_8, kl_9, kl_10, kl_11, kl_12, kl_13, kl_14, kl_16, kl_20, kl_21, kl_24, kl_29, kl_30, kl_31, kl_33, kl_35, kl_37, kl_38, kl_39, kl_40, kl_41, kl_42, kl_43, kl_44, kl_45, kl_46, kl_47, kl_48, kl_49, kl_50, kl_51, kl_52, kl_53, kl_54, kl_55, kl_56, kl_57, kl_58, kl_59, kl_60, kl_61, kl_62, kl_63, kl_64, kl_70, kl_80, kl_81, kl_97, kl_98, kl_99, kl_100, kl_101, kl_102, kl_103, kl_104, kl_105, kl_106, kl_107, kl_108, kl_109, kl_110, kl_111, kl_112, kl_113, kl_114, kl_115, kl_120, kl_124, kl_126, kl_130, kl_255, kl_720, kl_2048, kl_10000, kl_12345, kl_252645135, kl_858993459, kl_1103515245, kl_1431655765, kl_1640531535, kl_2000000000, m_in])
        rfl
      all_goals intro _
      all_goals try (exfalso; first | (rename_i q; exact q trivial) | (rename_i q; exact q) | omega)
    | with_reducible apply wp_mr
    | with_reducible apply wp_b
      · simp (disch := omega) only [Int.add_zero, Int.zero_add, true_or, or_true, true_and, and_true, not_false_eq_true, not_true_eq_false, if_true, if_false, if_pos, if_neg, ki_add, ki_sub, ki_mul, ki_neg, ki_lt, ki_le, ki_eq, ki_cl, ki_div, ki_ite, ck5, kl_0, kl_1, kl_2, kl_3, kl_4, kl_5, kl_6, kl_7, kl_8, kl_9, kl_10, kl_11, kl_12, kl_13, kl_14, kl_16, kl_20, kl_21, kl_24, kl_29, kl_30, kl_31, kl_33, kl_35, kl_37, kl_38, kl_39, kl_40, kl_41, kl_42, kl_43, kl_44, kl_45, kl_46, kl_47, kl_48, kl_49, kl_50, kl_51, kl_52, kl_53, kl_54, kl_55, kl_56, kl_57, kl_58, kl_59, kl_60, kl_61, kl_62, kl_63, kl_64, kl_70, kl_80, kl_81, kl_97, kl_98, kl_99, kl_100, kl_101, kl_102, kl_103, kl_104, kl_105, kl_106, kl_107, kl_108, kl_109, kl_110, kl_111, kl_112, kl_113, kl_114, kl_115, kl_120, kl_124, kl_126, kl_130, kl_255, kl_720, kl_2048, kl_10000, kl_12345, kl_252645135, kl_858993459, kl_1103515245, kl_1431655765, kl_1640531535, kl_2000000000, m_in]
        rfl
      all_goals intro _
      all_goals try (exfalso; first | (rename_i q; exact q trivial) | (rename_i q; exact q) | omega)
    | with_reducible apply wp_oe
      · simp (disch := omega) only [Int.add_zero, Int.zero_add, true_or, or_true, true_and, and_true, not_false_eq_true, not_true_eq_false, if_true, if_false, if_pos, if_neg, ki_add, ki_sub, ki_mul, ki_neg, ki_lt, ki_le, ki_eq, ki_cl, ki_div, ki_ite, ck5, kl_0, kl_1, kl_2, kl_3, kl_4, kl_5, kl_6, kl_7, kl_8, kl_9, kl_10, kl_11, kl_12, kl_13, kl_14, kl_16, kl_20, kl_21, kl_24, kl_29, kl_30, kl_31, kl_33, kl_35, kl_37, kl_38, kl_39, kl_40, kl_41, kl_42, kl_43, kl_44, kl_45, kl_46, kl_47, kl_48, kl_49, kl_50, kl_51, kl_52, kl_53, kl_54, kl_55, kl_56, kl_57, kl_58, kl_59, kl_60, kl_61, kl_62, kl_63, kl_64, kl_70, kl_80, kl_81, kl_97, kl_98, kl_99, kl_100, kl_101, kl_102, kl_103, kl_104, kl_105, kl_106, kl_107, kl_108, kl_109, kl_110, kl_111, kl_112, kl_113, kl_114, kl_115, kl_120, kl_124, kl_126, kl_130, kl_255, kl_720, kl_2048, kl_10000, kl_12345, kl_252645135, kl_858993459, kl_1103515245, kl_1431655765, kl_1640531535, kl_2000000000, m_in]
        try rfl
    | with_reducible apply wp_sv
      · (try simp (disch := omega) only [bi, Int.add_zero, Int.zero_add, true_or, or_true, true_and, and_true, not_false_eq_true, not_true_eq_false, if_true, if_false, if_pos, if_neg, ki_add, ki_sub, ki_mul, ki_neg, ki_lt, ki_le, ki_eq, ki_cl, ki_div, ki_ite, ck5, kl_0, kl_1, kl_2, kl_3, kl_4, kl_5, kl_6, kl_7, kl_8, kl_9, kl_10, kl_11, kl_12, kl_13, kl_14, kl_16, kl_20, kl_21, kl_24, kl_29, kl_30, kl_31, kl_33, kl_35, kl_37, kl_38, kl_39, kl_40, kl_41, kl_42, kl_43, kl_44, kl_45, kl_46, kl_47, kl_48, kl_49, kl_50, kl_51, kl_52, kl_53, kl_54, kl_55, kl_56, kl_57, kl_58, kl_59, kl_60, kl_61, kl_62, kl_63, kl_64, kl_70, kl_80, kl_81, kl_97, kl_98, kl_99, kl_100, kl_101, kl_102, kl_103, kl_104, kl_105, kl_106, kl_107, kl_108, kl_109, kl_110, kl_111, kl_112, kl_113, kl_114, kl_115, kl_120, kl_124, kl_126, kl_130, kl_255, kl_720, kl_2048, kl_10000, kl_12345, kl_252645135, kl_858993459, kl_1103515245, kl_1431655765, kl_1640531535, kl_2000000000, m_in])
        rfl
    | with_reducible apply wp_so
  · exact sk (bi_t (by omega)).symm
  · exact sk (bi_f (by omega)).symm
theorem m_cell {η : Hy} {S : xSt} (r1 : vw S 1 6 (η 1)) (hw : wf η) {c : Int} (c1 : -2147483648 ≤ c) (c2 : c < 2147483648) : f_X12_isCell S (ki c) = some (S, ki (bi (hasS η c))) := by
  unfold vw at r1
  have b1 := hw.1 (c / 5)
  unfold f_X12_isCell f_X12_isCell_0 f_X12_isCell_28
  apply wp_eq
  repeat' first
    | with_reducible apply wp_bd
      · (try simp (disch := omega) only [bi, Int.add_zero, Int.zero_add, true_or, or_true, true_and, and_true, not_false_eq_true, not_true_eq_false, if_true, if_false, if_pos, if_neg, ki_add, ki_sub, ki_mul, ki_neg, ki_lt, ki_le, ki_eq, ki_cl, ki_div, ki_ite, ck5, kl_0, kl_1, kl_2, kl_3, kl_4, kl_5, kl_6, kl_7, kl_8, kl_9, kl_10, kl_11, kl_12, kl_13, kl_14, kl_16, kl_20, kl_21, kl_24, kl_29, kl_30, kl_31, kl_33, kl_35, kl_37, kl_38, kl_39, kl_40, kl_41, kl_42, kl_43, kl_44, kl_45, kl_46, kl_47, kl_48, kl_49, kl_50, kl_51, kl_52, kl_53, kl_54, kl_55, kl_56, kl_57, kl_58, kl_59, kl_60, kl_61, kl_62, kl_63, kl_64, kl_70, kl_80, kl_81, kl_97, kl_98, kl_99, kl_100, kl_101, kl_102, kl_103, kl_104, kl_105, kl_106, kl_107, kl_108, kl_109, kl_110, kl_111, kl_112, kl_113, kl_114, kl_115, kl_120, kl_124, kl_126, kl_130, kl_255, kl_720, kl_2048, kl_10000, kl_12345, kl_252645135, kl_858993459, kl_1103515245, kl_1431655765, kl_1640531535, kl_2000000000, r1, m_in])
        rfl
    | with_reducible apply wp_in
      · (try simp (disch := omega) only [bi, Int.add_zero, Int.zero_add, true_or, or_true, true_and, and_true, not_false_eq_true, not_true_eq_false, if_true, if_false, if_pos, if_neg, ki_add, ki_sub, ki_mul, ki_neg, ki_lt, ki_le, ki_eq, ki_cl, ki_div, ki_ite, ck5, kl_0, kl_1, kl_2, kl_3, kl_4, kl_5, kl_6, kl_7, kl_8, kl_9, kl_10, kl_11, kl_12, kl_13, kl_14, kl_16, kl_20, kl_21, kl_24, kl_29, kl_30, kl_31, kl_33, kl_35, kl_37, kl_38, kl_39, kl_40, kl_41, kl_42, kl_43, kl_44, kl_45, kl_46, kl_47, kl_48, kl_49, kl_50, kl_51, kl_52, kl_53, kl_54, kl_55, kl_56, kl_57, kl_58, kl_59, kl_60, kl_61, kl_62, kl_63, kl_64, kl_70, kl_80, kl_81, kl_97, kl_98, kl_99, kl_100, kl_101, kl_102, kl_103, kl_104, kl_105, kl_106, kl_107, kl_108, kl_109, kl_110, kl_111, kl_112, kl_113, kl_114, kl_115, kl_120, kl_124, kl_126, kl_130, kl_255, kl_720, kl_2048, kl_10000, kl_12345, kl_252645135, kl_858993459, kl_1103515245, kl_1431655765, kl_1640531535, kl_2000000000, r1, m_in])
        rfl
      · decide
      · omega
      · omega
    | with_reducible apply wp_gd
      · (try simp (disch := omega) only [bi, Int.add_zero, Int.zero_add, true_or, or_true, true_and, and_true, not_false_eq_true, not_true_eq_false, if_true, if_false, if_pos, if_neg, ki_add, ki_sub, ki_mul, ki_neg, ki_lt, ki_le, ki_eq, ki_cl, ki_div, ki_ite, ck5, kl_0, kl_1, kl_2, kl_3, kl_4, kl_5, kl_6, kl_7, kl_8, kl_9, kl_10, kl_11, kl_12, kl_13, kl_14, kl_16, kl_20, kl_21, kl_24, kl_29, kl_30, kl_31, kl_33, kl_35, kl_37, kl_38, kl_39, kl_40, kl_41, kl_42, kl_43, kl_44, kl_45, kl_46, kl_47, kl_48, kl_49, kl_50, kl_51, kl_52, kl_53, kl_54, kl_55, kl_56, kl_57, kl_58, kl_59, kl_60, kl_61, kl_62, kl_63, kl_64, kl_70, kl_80, kl_81, kl_97, kl_98, kl_99, kl_100, kl_101, kl_102, kl_103, kl_104, kl_105, kl_106, kl_107, kl_108, kl_109, kl_110, kl_111, kl_112, kl_113, kl_114, kl_115, kl_120, kl_124, kl_126, kl_130, kl_255, kl_720, kl_2048, kl_10000, kl_12345, kl_252645135, kl_858993459, kl_1103515245, kl_1431655765, kl_1640531535, kl_2000000000, r1, m_in])
        rfl
      · first | exact True.intro | omega
    | with_reducible apply wp_is
      · (try simp (disch := omega) only [bi, Int.add_zero, Int.zero_add, true_or, or_true, true_and, and_true, not_false_eq_true, not_true_eq_false, if_true, if_false, if_pos, if_neg, ki_add, ki_sub, ki_mul, ki_neg, ki_lt, ki_le, ki_eq, ki_cl, ki_div, ki_ite, ck5, kl_0, kl_1, kl_2, kl_3, kl_4, kl_5, kl_6, kl_7, kl_8, kl_9, kl_10, kl_11, kl_12, kl_13, kl_14, kl_16, kl_20, kl_21, kl_24, kl_29, kl_30, kl_31, kl_33, kl_35, kl_37, kl_38, kl_39, kl_40, kl_41, kl_42, kl_43, kl_44, kl_45, kl_46, kl_47, kl_48, kl_49, kl_50, kl_51, kl_52, kl_53, kl_54, kl_55, kl_56, kl_57, kl_58, kl_59, kl_60, kl_61, kl_62, kl_63, kl_64, kl_70, kl_80, kl_81, kl_97, kl_98, kl_99, kl_100, kl_101, kl_102, kl_103, kl_104, kl_105, kl_106, kl_107, kl_108, kl_109, kl_110, kl_111, kl_112, kl_113, kl_114, kl_115, kl_120, kl_124, kl_126, kl_130, kl_255, kl_720, kl_2048, kl_10000, kl_12345, kl_252645135, kl_858993459, kl_1103515245, kl_1431655765, kl_1640531535, kl_2000000000, r1, m_in])
        rfl
      all_goals intro _
      all_goals try (exfalso; first | (rename_i q; exact q trivial) | (rename_i q; exact q) | omega)
    | with_reducible apply wp_mr
    | with_reducible apply wp_b
      · simp (disch := omega) only [Int.add_zero, Int.zero_add, true_or, or_true, true_and, and_true, not_false_eq_true, not_true_eq_false, if_true, if_false, if_pos, if_neg, ki_add, ki_sub, ki_mul, ki_neg, ki_lt, ki_le, ki_eq, ki_cl, ki_div, ki_ite, ck5, kl_0, kl_1, kl_2, kl_3, kl_4, kl_5, kl_6, kl_7, kl_8, kl_9, kl_10, kl_11, kl_12, kl_13, kl_14, kl_16, kl_20, kl_21, kl_24, kl_29, kl_30, kl_31, kl_33, kl_35, kl_37, kl_38, kl_39, kl_40, kl_41, kl_42, kl_43, kl_44, kl_45, kl_46, kl_47, kl_48, kl_49, kl_50, kl_51, kl_52, kl_53, kl_54, kl_55, kl_56, kl_57, kl_58, kl_59, kl_60, kl_61, kl_62, kl_63, kl_64, kl_70, kl_80, kl_81, kl_97, kl_98, kl_99, kl_100, kl_101, kl_102, kl_103, kl_104, kl_105, kl_106, kl_107, kl_108, kl_109, kl_110, kl_111, kl_112, kl_113, kl_114, kl_115, kl_120, kl_124, kl_126, kl_130, kl_255, kl_720, kl_2048, kl_10000, kl_12345, kl_252645135, kl_858993459, kl_1103515245, kl_1431655765, kl_1640531535, kl_2000000000, r1, m_in]
        rfl
      all_goals intro _
      all_goals try (exfalso; first | (rename_i q; exact q trivial) | (rename_i q; exact q) | omega)
    | with_reducible apply wp_oe
      · simp (disch := omega) only [Int.add_zero, Int.zero_add, true_or, or_true, true_and, and_true, not_false_eq_true, not_true_eq_false, if_true, if_false, if_pos, if_neg, ki_add, ki_sub, ki_mul, ki_neg, ki_lt, ki_le, ki_eq, ki_cl, ki_div, ki_ite, ck5, kl_0, kl_1, kl_2, kl_3, kl_4, kl_5, kl_6, kl_7, kl_8, kl_9, kl_10, kl_11, kl_12, kl_13, kl_14, kl_16, kl_20, kl_21, kl_24, kl_29, kl_30, kl_31, kl_33, kl_35, kl_37, kl_38, kl_39, kl_40, kl_41, kl_42, kl_43, kl_44, kl_45, kl_46, kl_47, kl_48, kl_49, kl_50, kl_51, kl_52, kl_53, kl_54, kl_55, kl_56, kl_57, kl_58, kl_59, kl_60, kl_61, kl_62, kl_63, kl_64, kl_70, kl_80, kl_81, kl_97, kl_98, kl_99, kl_100, kl_101, kl_102, kl_103, kl_104, kl_105, kl_106, kl_107, kl_108, kl_109, kl_110, kl_111, kl_112, kl_113, kl_114, kl_115, kl_120, kl_124, kl_126, kl_130, kl_255, kl_720, kl_2048, kl_10000, kl_12345, kl_252645135, kl_858993459, kl_1103515245, kl_1431655765, kl_1640531535, kl_2000000000, r1, m_in]
        try rfl
    | with_reducible apply wp_sv
      · (try simp (disch := omega) only [bi, Int.add_zero, Int.zero_add, true_or, or_true, true_and, and_true, not_false_eq_true, not_true_eq_false, if_true, if_false, if_pos, if_neg, ki_add, ki_sub, ki_mul, ki_neg, ki_lt, ki_le, ki_eq, ki_cl, ki_div, ki_ite, ck5, kl_0, kl_1, kl_2, kl_3, kl_4, kl_5, kl_6, kl_7, kl_8, kl_9, kl_10, kl_11, kl_12, kl_13, kl_14, kl_16, kl_20, kl_21, kl_24, kl_29, kl_30, kl_31, kl_33, kl_35, kl_37, kl_38, kl_39, kl_40, kl_41, kl_42, kl_43, kl_44, kl_45, kl_46, kl_47, kl_48, kl_49, kl_50, kl_51, kl_52, kl_53, kl_54, kl_55, kl_56, kl_57, kl_58, kl_59, kl_60, kl_61, kl_62, kl_63, kl_64, kl_70, kl_80, kl_81, kl_97, kl_98, kl_99, kl_100, kl_101, kl_102, kl_103, kl_104, kl_105, kl_106, kl_107, kl_108, kl_109, kl_110, kl_111, kl_112, kl_113, kl_114, kl_115, kl_120, kl_124, kl_126, kl_130, kl_255, kl_720, kl_2048, kl_10000, kl_12345, kl_252645135, kl_858993459, kl_1103515245, kl_1431655765, kl_1640531535, kl_2000000000, r1, m_in])
        rfl
    | with_reducible apply wp_so
  · exact sk (bi_f (by omega)).symm
  · exact sk (bi_t (by omega)).symm
  · exact sk (bi_f (by omega)).symm
theorem m_now {η : Hy} {S : xSt} (h : hm η S) (hw : wf η) {c : Int} (c1 : 0 ≤ c) (c2 : c < 30) : f_X12_isThereNow S (ki c) = some (S, ki (bi (hasS η c))) := by
  have r1 := h.1
  unfold vw at r1
  have b1 := hw.1 (c / 5)
  unfold f_X12_isThereNow f_X12_isThereNow_0
  apply wp_eq
  repeat' first
    | with_reducible apply wp_bd
      · (try simp (disch := omega) only [bi, Int.add_zero, Int.zero_add, true_or, or_true, true_and, and_true, not_false_eq_true, not_true_eq_false, if_true, if_false, if_pos, if_neg, ki_add, ki_sub, ki_mul, ki_neg, ki_lt, ki_le, ki_eq, ki_cl, ki_div, ki_ite, ck5, kl_0, kl_1, kl_2, kl_3, kl_4, kl_5, kl_6, kl_7, kl_8, kl_9, kl_10, kl_11, kl_12, kl_13, kl_14, kl_16, kl_20, kl_21, kl_24, kl_29, kl_30, kl_31, kl_33, kl_35, kl_37, kl_38, kl_39, kl_40, kl_41, kl_42, kl_43, kl_44, kl_45, kl_46, kl_47, kl_48, kl_49, kl_50, kl_51, kl_52, kl_53, kl_54, kl_55, kl_56, kl_57, kl_58, kl_59, kl_60, kl_61, kl_62, kl_63, kl_64, kl_70, kl_80, kl_81, kl_97, kl_98, kl_99, kl_100, kl_101, kl_102, kl_103, kl_104, kl_105, kl_106, kl_107, kl_108, kl_109, kl_110, kl_111, kl_112, kl_113, kl_114, kl_115, kl_120, kl_124, kl_126, kl_130, kl_255, kl_720, kl_2048, kl_10000, kl_12345, kl_252645135, kl_858993459, kl_1103515245, kl_1431655765, kl_1640531535, kl_2000000000, r1])
        rfl
    | with_reducible apply wp_in
      · (try simp (disch := omega) only [bi, Int.add_zero, Int.zero_add, true_or, or_true, true_and, and_true, not_false_eq_true, not_true_eq_false, if_true, if_false, if_pos, if_neg, ki_add, ki_sub, ki_mul, ki_neg, ki_lt, ki_le, ki_eq, ki_cl, ki_div, ki_ite, ck5, kl_0, kl_1, kl_2, kl_3, kl_4, kl_5, kl_6, kl_7, kl_8, kl_9, kl_10, kl_11, kl_12, kl_13, kl_14, kl_16, kl_20, kl_21, kl_24, kl_29, kl_30, kl_31, kl_33, kl_35, kl_37, kl_38, kl_39, kl_40, kl_41, kl_42, kl_43, kl_44, kl_45, kl_46, kl_47, kl_48, kl_49, kl_50, kl_51, kl_52, kl_53, kl_54, kl_55, kl_56, kl_57, kl_58, kl_59, kl_60, kl_61, kl_62, kl_63, kl_64, kl_70, kl_80, kl_81, kl_97, kl_98, kl_99, kl_100, kl_101, kl_102, kl_103, kl_104, kl_105, kl_106, kl_107, kl_108, kl_109, kl_110, kl_111, kl_112, kl_113, kl_114, kl_115, kl_120, kl_124, kl_126, kl_130, kl_255, kl_720, kl_2048, kl_10000, kl_12345, kl_252645135, kl_858993459, kl_1103515245, kl_1431655765, kl_1640531535, kl_2000000000, r1])
        rfl
      · decide
      · omega
      · omega
    | with_reducible apply wp_gd
      · (try simp (disch := omega) only [bi, Int.add_zero, Int.zero_add, true_or, or_true, true_and, and_true, not_false_eq_true, not_true_eq_false, if_true, if_false, if_pos, if_neg, ki_add, ki_sub, ki_mul, ki_neg, ki_lt, ki_le, ki_eq, ki_cl, ki_div, ki_ite, ck5, kl_0, kl_1, kl_2, kl_3, kl_4, kl_5, kl_6, kl_7, kl_8, kl_9, kl_10, kl_11, kl_12, kl_13, kl_14, kl_16, kl_20, kl_21, kl_24, kl_29, kl_30, kl_31, kl_33, kl_35, kl_37, kl_38, kl_39, kl_40, kl_41, kl_42, kl_43, kl_44, kl_45, kl_46, kl_47, kl_48, kl_49, kl_50, kl_51, kl_52, kl_53, kl_54, kl_55, kl_56, kl_57, kl_58, kl_59, kl_60, kl_61, kl_62, kl_63, kl_64, kl_70, kl_80, kl_81, kl_97, kl_98, kl_99, kl_100, kl_101, kl_102, kl_103, kl_104, kl_105, kl_106, kl_107, kl_108, kl_109, kl_110, kl_111, kl_112, kl_113, kl_114, kl_115, kl_120, kl_124, kl_126, kl_130, kl_255, kl_720, kl_2048, kl_10000, kl_12345, kl_252645135, kl_858993459, kl_1103515245, kl_1431655765, kl_1640531535, kl_2000000000, r1])
        rfl
      · first | exact True.intro | omega
    | with_reducible apply wp_is
      · (try simp (disch := omega) only [bi, Int.add_zero, Int.zero_add, true_or, or_true, true_and, and_true, not_false_eq_true, not_true_eq_false, if_true, if_false, if_pos, if_neg, ki_add, ki_sub, ki_mul, ki_neg, ki_lt, ki_le, ki_eq, ki_cl, ki_div, ki_ite, ck5, kl_0, kl_1, kl_2, kl_3, kl_4, kl_5, kl_6, kl_7, kl_8, kl_9, kl_10, kl_11, kl_12, kl_13, kl_14, kl_16, kl_20, kl_21, kl_24, kl_29, kl_30, kl_31, kl_33, kl_35, kl_37, kl_38, kl_39, kl_40, kl_41, kl_42, kl_43, kl_44, kl_45, kl_46, kl_47, kl_48, kl_49, kl_50, kl_51, kl_52, kl_53, kl_54, kl_55, kl_56, kl_57, kl_58, kl_59, kl_60, kl_61, kl_62, kl_63, kl_64, kl_70, kl_80, kl_81, kl_97, kl_98, kl_99, kl_100, kl_101, kl_102, kl_103, kl_104, kl_105, kl_106, kl_107, kl_108, kl_109, kl_110, kl_111, kl_112, kl_113, kl_114, kl_115, kl_120, kl_124, kl_126, kl_130, kl_255, kl_720, kl_2048, kl_10000, kl_12345, kl_252645135, kl_858993459, kl_1103515245, kl_1431655765, kl_1640531535, kl_2000000000, r1])
        rfl
      all_goals intro _
      all_goals try (exfalso; first | (rename_i q; exact q trivial) | (rename_i q; exact q) | omega)
    | with_reducible apply wp_mr
    | with_reducible apply wp_b
      · simp (disch := omega) only [Int.add_zero, Int.zero_add, true_or, or_true, true_and, and_true, not_false_eq_true, not_true_eq_false, if_true, if_false, if_pos, if_neg, ki_add, ki_sub, ki_mul, ki_neg, ki_lt, ki_le, ki_eq, ki_cl, ki_div, ki_ite, ck5, kl_0, kl_1, kl_2, kl_3, kl_4, kl_5, kl_6, kl_7, kl_8, kl_9, kl_10, kl_11, kl_12, kl_13, kl_14, kl_16, kl_20, kl_21, kl_24, kl_29, kl_30, kl_31, kl_33, kl_35, kl_37, kl_38, kl_39, kl_40, kl_41, kl_42, kl_43, kl_44, kl_45, kl_46, kl_47, kl_48, kl_49, kl_50, kl_51, kl_52, kl_53, kl_54, kl_55, kl_56, kl_57, kl_58, kl_59, kl_60, kl_61, kl_62, kl_63, kl_64, kl_70, kl_80, kl_81, kl_97, kl_98, kl_99, kl_100, kl_101, kl_102, kl_103, kl_104, kl_105, kl_106, kl_107, kl_108, kl_109, kl_110, kl_111, kl_112, kl_113, kl_114, kl_115, kl_120, kl_124, kl_126, kl_130, kl_255, kl_720, kl_2048, kl_10000, kl_12345, kl_252645135, kl_858993459, kl_1103515245, kl_1431655765, kl_1640531535, kl_2000000000, r1]
        rfl
      all_goals intro _
      all_goals try (exfalso; first | (rename_i q; exact q trivial) | (rename_i q; exact q) | omega)
    | with_reducible apply wp_oe
      · simp (disch := omega) only [Int.add_zero, Int.zero_add, true_or, or_true, true_and, and_true, not_false_eq_true, not_true_eq_false, if_true, if_false, if_pos, if_neg, ki_add, ki_sub, ki_mul, ki_neg, ki_lt, ki_le, ki_eq, ki_cl, ki_div, ki_ite, ck5, kl_0, kl_1, kl_2, kl_3, kl_4, kl_5, kl_6, kl_7, kl_8, kl_9, kl_10, kl_11, kl_12, kl_13, kl_14, kl_16, kl_20, kl_21, kl_24, kl_29, kl_30, kl_31, kl_33, kl_35, kl_37, kl_38, kl_39, kl_40, kl_41, kl_42, kl_43, kl_44, kl_45, kl_46, kl_47, kl_48, kl_49, kl_50, kl_51, kl_52, kl_53, kl_54, kl_55, kl_56, kl_57, kl_58, kl_59, kl_60, kl_61, kl_62, kl_63, kl_64, kl_70, kl_80, kl_81, kl_97, kl_98, kl_99, kl_100, kl_101, kl_102, kl_103, kl_104, kl_105, kl_106, kl_107, kl_108, kl_109, kl_110, kl_111, kl_112, kl_113, kl_114, kl_115, kl_120, kl_124, kl_126, kl_130, kl_255, kl_720, kl_2048, kl_10000, kl_12345, kl_252645135, kl_858993459, kl_1103515245, kl_1431655765, kl_1640531535, kl_2000000000, r1]
        try rfl
    | with_reducible apply wp_sv
      · (try simp (disch := omega) only [bi, Int.add_zero, Int.zero_add, true_or, or_true, true_and, and_true, not_false_eq_true, not_true_eq_false, if_true, if_false, if_pos, if_neg, ki_add, ki_sub, ki_mul, ki_neg, ki_lt, ki_le, ki_eq, ki_cl, ki_div, ki_ite, ck5, kl_0, kl_1, kl_2, kl_3, kl_4, kl_5, kl_6, kl_7, kl_8, kl_9, kl_10, kl_11, kl_12, kl_13, kl_14, kl_16, kl_20, kl_21, kl_24, kl_29, kl_30, kl_31, kl_33, kl_35, kl_37, kl_38, kl_39, kl_40, kl_41, kl_42, kl_43, kl_44, kl_45, kl_46, kl_47, kl_48, kl_49, kl_50, kl_51, kl_52, kl_53, kl_54, kl_55, kl_56, kl_57, kl_58, kl_59, kl_60, kl_61, kl_62, kl_63, kl_64, kl_70, kl_80, kl_81, kl_97, kl_98, kl_99, kl_100, kl_101, kl_102, kl_103, kl_104, kl_105, kl_106, kl_107, kl_108, kl_109, kl_110, kl_111, kl_112, kl_113, kl_114, kl_115, kl_120, kl_124, kl_126, kl_130, kl_255, kl_720, kl_2048, kl_10000, kl_12345, kl_252645135, kl_858993459, kl_1103515245, kl_1431655765, kl_1640531535, kl_2000000000, r1])
        rfl
    | with_reducible apply wp_so
  · exact sk (bi_f (by omega)).symm
  · exact sk (bi_t (by omega)).symm
theorem m_there {η : Hy} {S : xSt} (h : hm η S) (hw : wf η) {a b : Int} (a1 : -10 ≤ a) (a2 : a < 10) (b1 : -10 ≤ b) (b2 : b < 10) : f_X12_isThere S (ki a) (ki b) = some (S, ki (bi (0 ≤ b ∧ ¬ byS η a b))) := by
  have r1 := h.1
  unfold vw at r1
  have b1 := hw.1 a
  unfold f_X12_isThere f_X12_isThere_0 f_X12_isThere_27
  apply wp_eq
  repeat' first
    | with_reducible apply wp_bd
      · (try simp (disch := omega) only [bi, Int.add_zero, Int.zero_add, true_or, or_true, true_and, and_true, not_false_eq_true, not_true_eq_false, if_true, if_false, if_pos, if_neg, ki_add, ki_sub, ki_mul, ki_neg, ki_lt, ki_le, ki_eq, ki_cl, ki_div, ki_ite, ck5, kl_0, kl_1, kl_2, kl_3, kl_4, kl_5, kl_6, kl_7, kl_8, kl_9, kl_10, kl_11, kl_12, kl_13, kl_14, kl_16, kl_20, kl_21, kl_24, kl_29, kl_30, kl_31, kl_33, kl_35, kl_37, kl_38, kl_39, kl_40, kl_41, kl_42, kl_43, kl_44, kl_45, kl_46, kl_47, kl_48, kl_49, kl_50, kl_51, kl_52, kl_53, kl_54, kl_55, kl_56, kl_57, kl_58, kl_59, kl_60, kl_61, kl_62, kl_63, kl_64, kl_70, kl_80, kl_81, kl_97, kl_98, kl_99, kl_100, kl_101, kl_102, kl_103, kl_104, kl_105, kl_106, kl_107, kl_108, kl_109, kl_110, kl_111, kl_112, kl_113, kl_114, kl_115, kl_120, kl_124, kl_126, kl_130, kl_255, kl_720, kl_2048, kl_10000, kl_12345, kl_252645135, kl_858993459, kl_1103515245, kl_1431655765, kl_1640531535, kl_2000000000, r1, m_in, m_col])
        rfl
    | with_reducible apply wp_in
      · (try simp (disch := omega) only [bi, Int.add_zero, Int.zero_add, true_or, or_true, true_and, and_true, not_false_eq_true, not_true_eq_false, if_true, if_false, if_pos, if_neg, ki_add, ki_sub, ki_mul, ki_neg, ki_lt, ki_le, ki_eq, ki_cl, ki_div, ki_ite, ck5, kl_0, kl_1, kl_2, kl_3, kl_4, kl_5, kl_6, kl_7, kl_8, kl_9, kl_10, kl_11, kl_12, kl_13, kl_14, kl_16, kl_20, kl_21, kl_24, kl_29, kl_30, kl_31, kl_33, kl_35, kl_37, kl_38, kl_39, kl_40, kl_41, kl_42, kl_43, kl_44, kl_45, kl_46, kl_47, kl_48, kl_49, kl_50, kl_51, kl_52, kl_53, kl_54, kl_55, kl_56, kl_57, kl_58, kl_59, kl_60, kl_61, kl_62, kl_63, kl_64, kl_70, kl_80, kl_81, kl_97, kl_98, kl_99, kl_100, kl_101, kl_102, kl_103, kl_104, kl_105, kl_106, kl_107, kl_108, kl_109, kl_110, kl_111, kl_112, kl_113, kl_114, kl_115, kl_120, kl_124, kl_126, kl_130, kl_255, kl_720, kl_2048, kl_10000, kl_12345, kl_252645135, kl_858993459, kl_1103515245, kl_1431655765, kl_1640531535, kl_2000000000, r1, m_in, m_col])
        rfl
      · decide
      · omega
      · omega
    | with_reducible apply wp_gd
      · (try simp (disch := omega) only [bi, Int.add_zero, Int.zero_add, true_or, or_true, true_and, and_true, not_false_eq_true, not_true_eq_false, if_true, if_false, if_pos, if_neg, ki_add, ki_sub, ki_mul, ki_neg, ki_lt, ki_le, ki_eq, ki_cl, ki_div, ki_ite, ck5, kl_0, kl_1, kl_2, kl_3, kl_4, kl_5, kl_6, kl_7, kl_8, kl_9, kl_10, kl_11, kl_12, kl_13, kl_14, kl_16, kl_20, kl_21, kl_24, kl_29, kl_30, kl_31, kl_33, kl_35, kl_37, kl_38, kl_39, kl_40, kl_41, kl_42, kl_43, kl_44, kl_45, kl_46, kl_47, kl_48, kl_49, kl_50, kl_51, kl_52, kl_53, kl_54, kl_55, kl_56, kl_57, kl_58, kl_59, kl_60, kl_61, kl_62, kl_63, kl_64, kl_70, kl_80, kl_81, kl_97, kl_98, kl_99, kl_100, kl_101, kl_102, kl_103, kl_104, kl_105, kl_106, kl_107, kl_108, kl_109, kl_110, kl_111, kl_112, kl_113, kl_114, kl_115, kl_120, kl_124, kl_126, kl_130, kl_255, kl_720, kl_2048, kl_10000, kl_12345, kl_252645135, kl_858993459, kl_1103515245, kl_1431655765, kl_1640531535, kl_2000000000, r1, m_in, m_col])
        rfl
      · first | exact True.intro | omega
    | with_reducible apply wp_is
      · (try simp (disch := omega) only [bi, Int.add_zero, Int.zero_add, true_or, or_true, true_and, and_true, not_false_eq_true, not_true_eq_false, if_true, if_false, if_pos, if_neg, ki_add, ki_sub, ki_mul, ki_neg, ki_lt, ki_le, ki_eq, ki_cl, ki_div, ki_ite, ck5, kl_0, kl_1, kl_2, kl_3, kl_4, kl_5, kl_6, kl_7, kl_8, kl_9, kl_10, kl_11, kl_12, kl_13, kl_14, kl_16, kl_20, kl_21, kl_24, kl_29, kl_30, kl_31, kl_33, kl_35, kl_37, kl_38, kl_39, kl_40, kl_41, kl_42, kl_43, kl_44, kl_45, kl_46, kl_47, kl_48, kl_49, kl_50, kl_51, kl_52, kl_53, kl_54, kl_55, kl_56, kl_57, kl_58, kl_59, kl_60, kl_61, kl_62, kl_63, kl_64, kl_70, kl_80, kl_81, kl_97, kl_98, kl_99, kl_100, kl_101, kl_102, kl_103, kl_104, kl_105, kl_106, kl_107, kl_108, kl_109, kl_110, kl_111, kl_112, kl_113, kl_114, kl_115, kl_120, kl_124, kl_126, kl_130, kl_255, kl_720, kl_2048, kl_10000, kl_12345, kl_252645135, kl_858993459, kl_1103515245, kl_1431655765, kl_1640531535, kl_2000000000, r1, m_in, m_col])
        rfl
      all_goals intro _
      all_goals try (exfalso; first | (rename_i q; exact q trivial) | (rename_i q; exact q) | omega)
    | with_reducible apply wp_mr
    | with_reducible apply wp_b
      · simp (disch := omega) only [Int.add_zero, Int.zero_add, true_or, or_true, true_and, and_true, not_false_eq_true, not_true_eq_false, if_true, if_false, if_pos, if_neg, ki_add, ki_sub, ki_mul, ki_neg, ki_lt, ki_le, ki_eq, ki_cl, ki_div, ki_ite, ck5, kl_0, kl_1, kl_2, kl_3, kl_4, kl_5, kl_6, kl_7, kl_8, kl_9, kl_10, kl_11, kl_12, kl_13, kl_14, kl_16, kl_20, kl_21, kl_24, kl_29, kl_30, kl_31, kl_33, kl_35, kl_37, kl_38, kl_39, kl_40, kl_41, kl_42, kl_43, kl_44, kl_45, kl_46, kl_47, kl_48, kl_49, kl_50, kl_51, kl_52, kl_53, kl_54, kl_55, kl_56, kl_57, kl_58, kl_59, kl_60, kl_61, kl_62, kl_63, kl_64, kl_70, kl_80, kl_81, kl_97, kl_98, kl_99, kl_100, kl_101, kl_102, kl_103, kl_104, kl_105, kl_106, kl_107, kl_108, kl_109, kl_110, kl_111, kl_112, kl_113, kl_114, kl_115, kl_120, kl_124, kl_126, kl_130, kl_255, kl_720, kl_2048, kl_10000, kl_12345, kl_252645135, kl_858993459, kl_1103515245, kl_1431655765, kl_1640531535, kl_2000000000, r1, m_in, m_col]
        rfl
      all_goals intro _
      all_goals try (exfalso; first | (rename_i q; exact q trivial) | (rename_i q; exact q) | omega)
    | with_reducible apply wp_oe
      · simp (disch := omega) only [Int.add_zero, Int.zero_add, true_or, or_true, true_and, and_true, not_false_eq_true, not_true_eq_false, if_true, if_false, if_pos, if_neg, ki_add, ki_sub, ki_mul, ki_neg, ki_lt, ki_le, ki_eq, ki_cl, ki_div, ki_ite, ck5, kl_0, kl_1, kl_2, kl_3, kl_4, kl_5, kl_6, kl_7, kl_8, kl_9, kl_10, kl_11, kl_12, kl_13, kl_14, kl_16, kl_20, kl_21, kl_24, kl_29, kl_30, kl_31, kl_33, kl_35, kl_37, kl_38, kl_39, kl_40, kl_41, kl_42, kl_43, kl_44, kl_45, kl_46, kl_47, kl_48, kl_49, kl_50, kl_51, kl_52, kl_53, kl_54, kl_55, kl_56, kl_57, kl_58, kl_59, kl_60, kl_61, kl_62, kl_63, kl_64, kl_70, kl_80, kl_81, kl_97, kl_98, kl_99, kl_100, kl_101, kl_102, kl_103, kl_104, kl_105, kl_106, kl_107, kl_108, kl_109, kl_110, kl_111, kl_112, kl_113, kl_114, kl_115, kl_120, kl_124, kl_126, kl_130, kl_255, kl_720, kl_2048, kl_10000, kl_12345, kl_252645135, kl_858993459, kl_1103515245, kl_1431655765, kl_1640531535, kl_2000000000, r1, m_in, m_col]
        try rfl
    | with_reducible apply wp_sv
      · (try simp (disch := omega) only [bi, Int.add_zero, Int.zero_add, true_or, or_true, true_and, and_true, not_false_eq_true, not_true_eq_false, if_true, if_false, if_pos, if_neg, ki_add, ki_sub, ki_mul, ki_neg, ki_lt, ki_le, ki_eq, ki_cl, ki_div, ki_ite, ck5, kl_0, kl_1, kl_2, kl_3, kl_4, kl_5, kl_6, kl_7, kl_8, kl_9, kl_10, kl_11, kl_12, kl_13, kl_14, kl_16, kl_20, kl_21, kl_24, kl_29, kl_30, kl_31, kl_33, kl_35, kl_37, kl_38, kl_39, kl_40, kl_41, kl_42, kl_43, kl_44, kl_45, kl_46, kl_47, kl_48, kl_49, kl_50, kl_51, kl_52, kl_53, kl_54, kl_55, kl_56, kl_57, kl_58, kl_59, kl_60, kl_61, kl_62, kl_63, kl_64, kl_70, kl_80, kl_81, kl_97, kl_98, kl_99, kl_100, kl_101, kl_102, kl_103, kl_104, kl_105, kl_106, kl_107, kl_108, kl_109, kl_110, kl_111, kl_112, kl_113, kl_114, kl_115, kl_120, kl_124, kl_126, kl_130, kl_255, kl_720, kl_2048, kl_10000, kl_12345, kl_252645135, kl_858993459, kl_1103515245, kl_1431655765, kl_1640531535, kl_2000000000, r1, m_in, m_col])
        rfl
    | with_reducible apply wp_so
  · exact sk (bi_t (by omega)).symm
  · exact sk (bi_f (by omega)).symm
  · exact sk (bi_f (by omega)).symm
theorem m_bes0 {η : Hy} {S : xSt} (h : hm η S) (hw : wf η) {c : Int} (c1 : 0 ≤ c) (c2 : c < 30) : f_X12_beside S (ki c) (ki 0) = some (S, ki (if byS η (c / 5) (c % 5 + 1) then -2 else c + 1)) := by
  unfold f_X12_beside f_X12_beside_0 f_X12_beside_22 f_X12_beside_45
  have y := @m_there η S h hw
  apply wp_eq
  repeat' first
    | with_reducible apply wp_bd
      · (try simp (disch := omega) only [bi, Int.add_zero, Int.zero_add, true_or, or_true, true_and, and_true, not_false_eq_true, not_true_eq_false, if_true, if_false, if_pos, if_neg, ki_add, ki_sub, ki_mul, ki_neg, ki_lt, ki_le, ki_eq, ki_cl, ki_div, ki_ite, ck5, kl_0, kl_1, kl_2, kl_3, kl_4, kl_5, kl_6, kl_7, kl_8, kl_9, kl_10, kl_11, kl_12, kl_13, kl_14, kl_16, kl_20, kl_21, kl_24, kl_29, kl_30, kl_31, kl_33, kl_35, kl_37, kl_38, kl_39, kl_40, kl_41, kl_42, kl_43, kl_44, kl_45, kl_46, kl_47, kl_48, kl_49, kl_50, kl_51, kl_52, kl_53, kl_54, kl_55, kl_56, kl_57, kl_58, kl_59, kl_60, kl_61, kl_62, kl_63, kl_64, kl_70, kl_80, kl_81, kl_97, kl_98, kl_99, kl_100, kl_101, kl_102, kl_103, kl_104, kl_105, kl_106, kl_107, kl_108, kl_109, kl_110, kl_111, kl_112, kl_113, kl_114, kl_115, kl_120, kl_124, kl_126, kl_130, kl_255, kl_720, kl_2048, kl_10000, kl_12345, kl_252645135, kl_858993459, kl_1103515245, kl_1431655765, kl_1640531535, kl_2000000000, y])
        rfl
    | with_reducible apply wp_in
      · (try simp (disch := omega) only [bi, Int.add_zero, Int.zero_add, true_or, or_true, true_and, and_true, not_false_eq_true, not_true_eq_false, if_true, if_false, if_pos, if_neg, ki_add, ki_sub, ki_mul, ki_neg, ki_lt, ki_le, ki_eq, ki_cl, ki_div, ki_ite, ck5, kl_0, kl_1, kl_2, kl_3, kl_4, kl_5, kl_6, kl_7, kl_8, kl_9, kl_10, kl_11, kl_12, kl_13, kl_14, kl_16, kl_20, kl_21, kl_24, kl_29, kl_30, kl_31, kl_33, kl_35, kl_37, kl_38, kl_39, kl_40, kl_41, kl_42, kl_43, kl_44, kl_45, kl_46, kl_47, kl_48, kl_49, kl_50, kl_51, kl_52, kl_53, kl_54, kl_55, kl_56, kl_57, kl_58, kl_59, kl_60, kl_61, kl_62, kl_63, kl_64, kl_70, kl_80, kl_81, kl_97, kl_98, kl_99, kl_100, kl_101, kl_102, kl_103, kl_104, kl_105, kl_106, kl_107, kl_108, kl_109, kl_110, kl_111, kl_112, kl_113, kl_114, kl_115, kl_120, kl_124, kl_126, kl_130, kl_255, kl_720, kl_2048, kl_10000, kl_12345, kl_252645135, kl_858993459, kl_1103515245, kl_1431655765, kl_1640531535, kl_2000000000, y])
        rfl
      · decide
      · omega
      · omega
    | with_reducible apply wp_gd
      · (try simp (disch := omega) only [bi, Int.add_zero, Int.zero_add, true_or, or_true, true_and, and_true, not_false_eq_true, not_true_eq_false, if_true, if_false, if_pos, if_neg, ki_add, ki_sub, ki_mul, ki_neg, ki_lt, ki_le, ki_eq, ki_cl, ki_div, ki_ite, ck5, kl_0, kl_1, kl_2, kl_3, kl_4, kl_5, kl_6, kl_7, kl_8, kl_9, kl_10, kl_11, kl_12, kl_13, kl_14, kl_16, kl_20, kl_21, kl_24, kl_29, kl_30, kl_31, kl_33, kl_35, kl_37, kl_38, kl_39, kl_40, kl_41, kl_42, kl_43, kl_44, kl_45, kl_46, kl_47, kl_48, kl_49, kl_50, kl_51, kl_52, kl_53, kl_54, kl_55, kl_56, kl_57, kl_58, kl_59, kl_60, kl_61, kl_62, kl_63, kl_64, kl_70, kl_80, kl_81, kl_97, kl_98, kl_99, kl_100, kl_101, kl_102, kl_103, kl_104, kl_105, kl_106, kl_107, kl_108, kl_109, kl_110, kl_111, kl_112, kl_113, kl_114, kl_115, kl_120, kl_124, kl_126, kl_130, kl_255, kl_720, kl_2048, kl_10000, kl_12345, kl_252645135, kl_858993459, kl_1103515245, kl_1431655765, kl_1640531535, kl_2000000000, y])
        rfl
      · first | exact True.intro | omega
    | with_reducible apply wp_is
      · (try simp (disch := omega) only [bi, Int.add_zero, Int.zero_add, true_or, or_true, true_and, and_true, not_false_eq_true, not_true_eq_false, if_true, if_false, if_pos, if_neg, ki_add, ki_sub, ki_mul, ki_neg, ki_lt, ki_le, ki_eq, ki_cl, ki_div, ki_ite, ck5, kl_0, kl_1, kl_2, kl_3, kl_4, kl_5, kl_6, kl_7, kl_8, kl_9, kl_10, kl_11, kl_12, kl_13, kl_14, kl_16, kl_20, kl_21, kl_24, kl_29, kl_30, kl_31, kl_33, kl_35, kl_37, kl_38, kl_39, kl_40, kl_41, kl_42, kl_43, kl_44, kl_45, kl_46, kl_47, kl_48, kl_49, kl_50, kl_51, kl_52, kl_53, kl_54, kl_55, kl_56, kl_57, kl_58, kl_59, kl_60, kl_61, kl_62, kl_63, kl_64, kl_70, kl_80, kl_81, kl_97, kl_98, kl_99, kl_100, kl_101, kl_102, kl_103, kl_104, kl_105, kl_106, kl_107, kl_108, kl_109, kl_110, kl_111, kl_112, kl_113, kl_114, kl_115, kl_120, kl_124, kl_126, kl_130, kl_255, kl_720, kl_2048, kl_10000, kl_12345, kl_252645135, kl_858993459, kl_1103515245, kl_1431655765, kl_1640531535, kl_2000000000, y])
        rfl
      all_goals intro _
      all_goals try (exfalso; first | (rename_i q; exact q trivial) | (rename_i q; exact q) | omega)
    | with_reducible apply wp_mr
    | with_reducible apply wp_b
      · simp (disch := omega) only [Int.add_zero, Int.zero_add, true_or, or_true, true_and, and_true, not_false_eq_true, not_true_eq_false, if_true, if_false, if_pos, if_neg, ki_add, ki_sub, ki_mul, ki_neg, ki_lt, ki_le, ki_eq, ki_cl, ki_div, ki_ite, ck5, kl_0, kl_1, kl_2, kl_3, kl_4, kl_5, kl_6, kl_7, kl_8, kl_9, kl_10, kl_11, kl_12, kl_13, kl_14, kl_16, kl_20, kl_21, kl_24, kl_29, kl_30, kl_31, kl_33, kl_35, kl_37, kl_38, kl_39, kl_40, kl_41, kl_42, kl_43, kl_44, kl_45, kl_46, kl_47, kl_48, kl_49, kl_50, kl_51, kl_52, kl_53, kl_54, kl_55, kl_56, kl_57, kl_58, kl_59, kl_60, kl_61, kl_62, kl_63, kl_64, kl_70, kl_80, kl_81, kl_97, kl_98, kl_99, kl_100, kl_101, kl_102, kl_103, kl_104, kl_105, kl_106, kl_107, kl_108, kl_109, kl_110, kl_111, kl_112, kl_113, kl_114, kl_115, kl_120, kl_124, kl_126, kl_130, kl_255, kl_720, kl_2048, kl_10000, kl_12345, kl_252645135, kl_858993459, kl_1103515245, kl_1431655765, kl_1640531535, kl_2000000000, y]
        rfl
      all_goals intro _
      all_goals try (exfalso; first | (rename_i q; exact q trivial) | (rename_i q; exact q) | omega)
    | with_reducible apply wp_oe
      · simp (disch := omega) only [Int.add_zero, Int.zero_add, true_or, or_true, true_and, and_true, not_false_eq_true, not_true_eq_false, if_true, if_false, if_pos, if_neg, ki_add, ki_sub, ki_mul, ki_neg, ki_lt, ki_le, ki_eq, ki_cl, ki_div, ki_ite, ck5, kl_0, kl_1, kl_2, kl_3, kl_4, kl_5, kl_6, kl_7, kl_8, kl_9, kl_10, kl_11, kl_12, kl_13, kl_14, kl_16, kl_20, kl_21, kl_24, kl_29, kl_30, kl_31, kl_33, kl_35, kl_37, kl_38, kl_39, kl_40, kl_41, kl_42, kl_43, kl_44, kl_45, kl_46, kl_47, kl_48, kl_49, kl_50, kl_51, kl_52, kl_53, kl_54, kl_55, kl_56, kl_57, kl_58, kl_59, kl_60, kl_61, kl_62, kl_63, kl_64, kl_70, kl_80, kl_81, kl_97, kl_98, kl_99, kl_100, kl_101, kl_102, kl_103, kl_104, kl_105, kl_106, kl_107, kl_108, kl_109, kl_110, kl_111, kl_112, kl_113, kl_114, kl_115, kl_120, kl_124, kl_126, kl_130, kl_255, kl_720, kl_2048, kl_10000, kl_12345, kl_252645135, kl_858993459, kl_1103515245, kl_1431655765, kl_1640531535, kl_2000000000, y]
        try rfl
    | with_reducible apply wp_sv
      · (try simp (disch := omega) only [bi, Int.add_zero, Int.zero_add, true_or, or_true, true_and, and_true, not_false_eq_true, not_true_eq_false, if_true, if_false, if_pos, if_neg, ki_add, ki_sub, ki_mul, ki_neg, ki_lt, ki_le, ki_eq, ki_cl, ki_div, ki_ite, ck5, kl_0, kl_1, kl_2, kl_3, kl_4, kl_5, kl_6, kl_7, kl_8, kl_9, kl_10, kl_11, kl_12, kl_13, kl_14, kl_16, kl_20, kl_21, kl_24, kl_29, kl_30, kl_31, kl_33, kl_35, kl_37, kl_38, kl_39, kl_40, kl_41, kl_42, kl_43, kl_44, kl_45, kl_46, kl_47, kl_48, kl_49, kl_50, kl_51, kl_52, kl_53, kl_54, kl_55, kl_56, kl_57, kl_58, kl_59, kl_60, kl_61, kl_62, kl_63, kl_64, kl_70, kl_80, kl_81, kl_97, kl_98, kl_99, kl_100, kl_101, kl_102, kl_103, kl_104, kl_105, kl_106, kl_107, kl_108, kl_109, kl_110, kl_111, kl_112, kl_113, kl_114, kl_115, kl_120, kl_124, kl_126, kl_130, kl_255, kl_720, kl_2048, kl_10000, kl_12345, kl_252645135, kl_858993459, kl_1103515245, kl_1431655765, kl_1640531535, kl_2000000000, y])
        rfl
    | with_reducible apply wp_so
  · exact sk (by rw [if_neg (by omega)]; omega)
  · exact sk (by rw [if_pos (by omega)])
theorem m_bes1 {η : Hy} {S : xSt} (h : hm η S) (hw : wf η) {c : Int} (hc : hasS η c) : f_X12_beside S (ki c) (ki 1) = some (S, ki (if 0 < c % 5 then c - 1 else -2)) := by
  unfold f_X12_beside f_X12_beside_0 f_X12_beside_22 f_X12_beside_45
  have y := @m_there η S h hw
  apply wp_eq
  repeat' first
    | with_reducible apply wp_bd
      · (try simp (disch := omega) only [bi, Int.add_zero, Int.zero_add, true_or, or_true, true_and, and_true, not_false_eq_true, not_true_eq_false, if_true, if_false, if_pos, if_neg, ki_add, ki_sub, ki_mul, ki_neg, ki_lt, ki_le, ki_eq, ki_cl, ki_div, ki_ite, ck5, kl_0, kl_1, kl_2, kl_3, kl_4, kl_5, kl_6, kl_7, kl_8, kl_9, kl_10, kl_11, kl_12, kl_13, kl_14, kl_16, kl_20, kl_21, kl_24, kl_29, kl_30, kl_31, kl_33, kl_35, kl_37, kl_38, kl_39, kl_40, kl_41, kl_42, kl_43, kl_44, kl_45, kl_46, kl_47, kl_48, kl_49, kl_50, kl_51, kl_52, kl_53, kl_54, kl_55, kl_56, kl_57, kl_58, kl_59, kl_60, kl_61, kl_62, kl_63, kl_64, kl_70, kl_80, kl_81, kl_97, kl_98, kl_99, kl_100, kl_101, kl_102, kl_103, kl_104, kl_105, kl_106, kl_107, kl_108, kl_109, kl_110, kl_111, kl_112, kl_113, kl_114, kl_115, kl_120, kl_124, kl_126, kl_130, kl_255, kl_720, kl_2048, kl_10000, kl_12345, kl_252645135, kl_858993459, kl_1103515245, kl_1431655765, kl_1640531535, kl_2000000000, y])
        rfl
    | with_reducible apply wp_in
      · (try simp (disch := omega) only [bi, Int.add_zero, Int.zero_add, true_or, or_true, true_and, and_true, not_false_eq_true, not_true_eq_false, if_true, if_false, if_pos, if_neg, ki_add, ki_sub, ki_mul, ki_neg, ki_lt, ki_le, ki_eq, ki_cl, ki_div, ki_ite, ck5, kl_0, kl_1, kl_2, kl_3, kl_4, kl_5, kl_6, kl_7, kl_8, kl_9, kl_10, kl_11, kl_12, kl_13, kl_14, kl_16, kl_20, kl_21, kl_24, kl_29, kl_30, kl_31, kl_33, kl_35, kl_37, kl_38, kl_39, kl_40, kl_41, kl_42, kl_43, kl_44, kl_45, kl_46, kl_47, kl_48, kl_49, kl_50, kl_51, kl_52, kl_53, kl_54, kl_55, kl_56, kl_57, kl_58, kl_59, kl_60, kl_61, kl_62, kl_63, kl_64, kl_70, kl_80, kl_81, kl_97, kl_98, kl_99, kl_100, kl_101, kl_102, kl_103, kl_104, kl_105, kl_106, kl_107, kl_108, kl_109, kl_110, kl_111, kl_112, kl_113, kl_114, kl_115, kl_120, kl_124, kl_126, kl_130, kl_255, kl_720, kl_2048, kl_10000, kl_12345, kl_252645135, kl_858993459, kl_1103515245, kl_1431655765, kl_1640531535, kl_2000000000, y])
        rfl
      · decide
      · omega
      · omega
    | with_reducible apply wp_gd
      · (try simp (disch := omega) only [bi, Int.add_zero, Int.zero_add, true_or, or_true, true_and, and_true, not_false_eq_true, not_true_eq_false, if_true, if_false, if_pos, if_neg, ki_add, ki_sub, ki_mul, ki_neg, ki_lt, ki_le, ki_eq, ki_cl, ki_div, ki_ite, ck5, kl_0, kl_1, kl_2, kl_3, kl_4, kl_5, kl_6, kl_7, kl_8, kl_9, kl_10, kl_11, kl_12, kl_13, kl_14, kl_16, kl_20, kl_21, kl_24, kl_29, kl_30, kl_31, kl_33, kl_35, kl_37, kl_38, kl_39, kl_40, kl_41, kl_42, kl_43, kl_44, kl_45, kl_46, kl_47, kl_48, kl_49, kl_50, kl_51, kl_52, kl_53, kl_54, kl_55, kl_56, kl_57, kl_58, kl_59, kl_60, kl_61, kl_62, kl_63, kl_64, kl_70, kl_80, kl_81, kl_97, kl_98, kl_99, kl_100, kl_101, kl_102, kl_103, kl_104, kl_105, kl_106, kl_107, kl_108, kl_109, kl_110, kl_111, kl_112, kl_113, kl_114, kl_115, kl_120, kl_124, kl_126, kl_130, kl_255, kl_720, kl_2048, kl_10000, kl_12345, kl_252645135, kl_858993459, kl_1103515245, kl_1431655765, kl_1640531535, kl_2000000000, y])
        rfl
      · first | exact True.intro | omega
    | with_reducible apply wp_is
      · (try simp (disch := omega) only [bi, Int.add_zero, Int.zero_add, true_or, or_true, true_and, and_true, not_false_eq_true, not_true_eq_false, if_true, if_false, if_pos, if_neg, ki_add, ki_sub, ki_mul, ki_neg, ki_lt, ki_le, ki_eq, ki_cl, ki_div, ki_ite, ck5, kl_0, kl_1, kl_2, kl_3, kl_4, kl_5, kl_6, kl_7, kl_8, kl_9, kl_10, kl_11, kl_12, kl_13, kl_14, kl_16, kl_20, kl_21, kl_24, kl_29, kl_30, kl_31, kl_33, kl_35, kl_37, kl_38, kl_39, kl_40, kl_41, kl_42, kl_43, kl_44, kl_45, kl_46, kl_47, kl_48, kl_49, kl_50, kl_51, kl_52, kl_53, kl_54, kl_55, kl_56, kl_57, kl_58, kl_59, kl_60, kl_61, kl_62, kl_63, kl_64, kl_70, kl_80, kl_81, kl_97, kl_98, kl_99, kl_100, kl_101, kl_102, kl_103, kl_104, kl_105, kl_106, kl_107, kl_108, kl_109, kl_110, kl_111, kl_112, kl_113, kl_114, kl_115, kl_120, kl_124, kl_126, kl_130, kl_255, kl_720, kl_2048, kl_10000, kl_12345, kl_252645135, kl_858993459, kl_1103515245, kl_1431655765, kl_1640531535, kl_2000000000, y])
        rfl
      all_goals intro _
      all_goals try (exfalso; first | (rename_i q; exact q trivial) | (rename_i q; exact q) | omega)
    | with_reducible apply wp_mr
    | with_reducible apply wp_b
      · simp (disch := omega) only [Int.add_zero, Int.zero_add, true_or, or_true, true_and, and_true, not_false_eq_true, not_true_eq_false, if_true, if_false, if_pos, if_neg, ki_add, ki_sub, ki_mul, ki_neg, ki_lt, ki_le, ki_eq, ki_cl, ki_div, ki_ite, ck5, kl_0, kl_1, kl_2, kl_3, kl_4, kl_5, kl_6, kl_7, kl_8, kl_9, kl_10, kl_11, kl_12, kl_13, kl_14, kl_16, kl_20, kl_21, kl_24, kl_29, kl_30, kl_31, kl_33, kl_35, kl_37, kl_38, kl_39, kl_40, kl_41, kl_42, kl_43, kl_44, kl_45, kl_46, kl_47, kl_48, kl_49, kl_50, kl_51, kl_52, kl_53, kl_54, kl_55, kl_56, kl_57, kl_58, kl_59, kl_60, kl_61, kl_62, kl_63, kl_64, kl_70, kl_80, kl_81, kl_97, kl_98, kl_99, kl_100, kl_101, kl_102, kl_103, kl_104, kl_105, kl_106, kl_107, kl_108, kl_109, kl_110, kl_111, kl_112, kl_113, kl_114, kl_115, kl_120, kl_124, kl_126, kl_130, kl_255, kl_720, kl_2048, kl_10000, kl_12345, kl_252645135, kl_858993459, kl_1103515245, kl_1431655765, kl_1640531535, kl_2000000000, y]
        rfl
      all_goals intro _
      all_goals try (exfalso; first | (rename_i q; exact q trivial) | (rename_i q; exact q) | omega)
    | with_reducible apply wp_oe
      · simp (disch := omega) only [Int.add_zero, Int.zero_add, true_or, or_true, true_and, and_true, not_false_eq_true, not_true_eq_false, if_true, if_false, if_pos, if_neg, ki_add, ki_sub, ki_mul, ki_neg, ki_lt, ki_le, ki_eq, ki_cl, ki_div, ki_ite, ck5, kl_0, kl_1, kl_2, kl_3, kl_4, kl_5, kl_6, kl_7, kl_8, kl_9, kl_10, kl_11, kl_12, kl_13, kl_14, kl_16, kl_20, kl_21, kl_24, kl_29, kl_30, kl_31, kl_33, kl_35, kl_37, kl_38, kl_39, kl_40, kl_41, kl_42, kl_43, kl_44, kl_45, kl_46, kl_47, kl_48, kl_49, kl_50, kl_51, kl_52, kl_53, kl_54, kl_55, kl_56, kl_57, kl_58, kl_59, kl_60, kl_61, kl_62, kl_63, kl_64, kl_70, kl_80, kl_81, kl_97, kl_98, kl_99, kl_100, kl_101, kl_102, kl_103, kl_104, kl_105, kl_106, kl_107, kl_108, kl_109, kl_110, kl_111, kl_112, kl_113, kl_114, kl_115, kl_120, kl_124, kl_126, kl_130, kl_255, kl_720, kl_2048, kl_10000, kl_12345, kl_252645135, kl_858993459, kl_1103515245, kl_1431655765, kl_1640531535, kl_2000000000, y]
        try rfl
    | with_reducible apply wp_sv
      · (try simp (disch := omega) only [bi, Int.add_zero, Int.zero_add, true_or, or_true, true_and, and_true, not_false_eq_true, not_true_eq_false, if_true, if_false, if_pos, if_neg, ki_add, ki_sub, ki_mul, ki_neg, ki_lt, ki_le, ki_eq, ki_cl, ki_div, ki_ite, ck5, kl_0, kl_1, kl_2, kl_3, kl_4, kl_5, kl_6, kl_7, kl_8, kl_9, kl_10, kl_11, kl_12, kl_13, kl_14, kl_16, kl_20, kl_21, kl_24, kl_29, kl_30, kl_31, kl_33, kl_35, kl_37, kl_38, kl_39, kl_40, kl_41, kl_42, kl_43, kl_44, kl_45, kl_46, kl_47, kl_48, kl_49, kl_50, kl_51, kl_52, kl_53, kl_54, kl_55, kl_56, kl_57, kl_58, kl_59, kl_60, kl_61, kl_62, kl_63, kl_64, kl_70, kl_80, kl_81, kl_97, kl_98, kl_99, kl_100, kl_101, kl_102, kl_103, kl_104, kl_105, kl_106, kl_107, kl_108, kl_109, kl_110, kl_111, kl_112, kl_113, kl_114, kl_115, kl_120, kl_124, kl_126, kl_130, kl_255, kl_720, kl_2048, kl_10000, kl_12345, kl_252645135, kl_858993459, kl_1103515245, kl_1431655765, kl_1640531535, kl_2000000000, y])
        rfl
    | with_reducible apply wp_so
  · exact sk (by rw [if_pos (by omega)]; omega)
  · exact sk (by rw [if_neg (by omega)])
theorem m_bes2 {η : Hy} {S : xSt} (h : hm η S) (hw : wf η) {c : Int} (c1 : 0 ≤ c) (c2 : c < 30) : f_X12_beside S (ki c) (ki 2) = some (S, ki (if byS η (c / 5 - 1) (c % 5) then -2 else c - 5)) := by
  unfold f_X12_beside f_X12_beside_0 f_X12_beside_22 f_X12_beside_45
  have y := @m_there η S h hw
  have e0 : c / 5 + -1 = c / 5 - 1 := by omega
  apply wp_eq
  repeat' first
    | with_reducible apply wp_bd
      · (try simp (disch := omega) only [bi, Int.add_zero, Int.zero_add, true_or, or_true, true_and, and_true, not_false_eq_true, not_true_eq_false, if_true, if_false, if_pos, if_neg, ki_add, ki_sub, ki_mul, ki_neg, ki_lt, ki_le, ki_eq, ki_cl, ki_div, ki_ite, ck5, kl_0, kl_1, kl_2, kl_3, kl_4, kl_5, kl_6, kl_7, kl_8, kl_9, kl_10, kl_11, kl_12, kl_13, kl_14, kl_16, kl_20, kl_21, kl_24, kl_29, kl_30, kl_31, kl_33, kl_35, kl_37, kl_38, kl_39, kl_40, kl_41, kl_42, kl_43, kl_44, kl_45, kl_46, kl_47, kl_48, kl_49, kl_50, kl_51, kl_52, kl_53, kl_54, kl_55, kl_56, kl_57, kl_58, kl_59, kl_60, kl_61, kl_62, kl_63, kl_64, kl_70, kl_80, kl_81, kl_97, kl_98, kl_99, kl_100, kl_101, kl_102, kl_103, kl_104, kl_105, kl_106, kl_107, kl_108, kl_109, kl_110, kl_111, kl_112, kl_113, kl_114, kl_115, kl_120, kl_124, kl_126, kl_130, kl_255, kl_720, kl_2048, kl_10000, kl_12345, kl_252645135, kl_858993459, kl_1103515245, kl_1431655765, kl_1640531535, kl_2000000000, y, e0])
        rfl
    | with_reducible apply wp_in
      · (try simp (disch := omega) only [bi, Int.add_zero, Int.zero_add, true_or, or_true, true_and, and_true, not_false_eq_true, not_true_eq_false, if_true, if_false, if_pos, if_neg, ki_add, ki_sub, ki_mul, ki_neg, ki_lt, ki_le, ki_eq, ki_cl, ki_div, ki_ite, ck5, kl_0, kl_1, kl_2, kl_3, kl_4, kl_5, kl_6, kl_7, kl_8, kl_9, kl_10, kl_11, kl_12, kl_13, kl_14, kl_16, kl_20, kl_21, kl_24, kl_29, kl_30, kl_31, kl_33, kl_35, kl_37, kl_38, kl_39, kl_40, kl_41, kl_42, kl_43, kl_44, kl_45, kl_46, kl_47, kl_48, kl_49, kl_50, kl_51, kl_52, kl_53, kl_54, kl_55, kl_56, kl_57, kl_58, kl_59, kl_60, kl_61, kl_62, kl_63, kl_64, kl_70, kl_80, kl_81, kl_97, kl_98, kl_99, kl_100, kl_101, kl_102, kl_103, kl_104, kl_105, kl_106, kl_107, kl_108, kl_109, kl_110, kl_111, kl_112, kl_113, kl_114, kl_115, kl_120, kl_124, kl_126, kl_130, kl_255, kl_720, kl_2048, kl_10000, kl_12345, kl_252645135, kl_858993459, kl_1103515245, kl_1431655765, kl_1640531535, kl_2000000000, y, e0])
        rfl
      · decide
      · omega
      · omega
    | with_reducible apply wp_gd
      · (try simp (disch := omega) only [bi, Int.add_zero, Int.zero_add, true_or, or_true, true_and, and_true, not_false_eq_true, not_true_eq_false, if_true, if_false, if_pos, if_neg, ki_add, ki_sub, ki_mul, ki_neg, ki_lt, ki_le, ki_eq, ki_cl, ki_div, ki_ite, ck5, kl_0, kl_1, kl_2, kl_3, kl_4, kl_5, kl_6, kl_7, kl_8, kl_9, kl_10, kl_11, kl_12, kl_13, kl_14, kl_16, kl_20, kl_21, kl_24, kl_29, kl_30, kl_31, kl_33, kl_35, kl_37, kl_38, kl_39, kl_40, kl_41, kl_42, kl_43, kl_44, kl_45, kl_46, kl_47, kl_48, kl_49, kl_50, kl_51, kl_52, kl_53, kl_54, kl_55, kl_56, kl_57, kl_58, kl_59, kl_60, kl_61, kl_62, kl_63, kl_64, kl_70, kl_80, kl_81, kl_97, kl_98, kl_99, kl_100, kl_101, kl_102, kl_103, kl_104, kl_105, kl_106, kl_107, kl_108, kl_109, kl_110, kl_111, kl_112, kl_113, kl_114, kl_115, kl_120, kl_124, kl_126, kl_130, kl_255, kl_720, kl_2048, kl_10000, kl_12345, kl_252645135, kl_858993459, kl_1103515245, kl_1431655765, kl_1640531535, kl_2000000000, y, e0])
        rfl
      · first | exact True.intro | omega
    | with_reducible apply wp_is
      · (try simp (disch := omega) only [bi, Int.add_zero, Int.zero_add, true_or, or_true, true_and, and_true, not_false_eq_true, not_true_eq_false, if_true, if_false, if_pos, if_neg, ki_add, ki_sub, ki_mul, ki_neg, ki_lt, ki_le, ki_eq, ki_cl, ki_div, ki_ite, ck5, kl_0, kl_1, kl_2, kl_3, kl_4, kl_5, kl_6, kl_7, kl_8, kl_9, kl_10, kl_11, kl_12, kl_13, kl_14, kl_16, kl_20, kl_21, kl_24, kl_29, kl_30, kl_31, kl_33, kl_35, kl_37, kl_38, kl_39, kl_40, kl_41, kl_42, kl_43, kl_44, kl_45, kl_46, kl_47, kl_48, kl_49, kl_50, kl_51, kl_52, kl_53, kl_54, kl_55, kl_56, kl_57, kl_58, kl_59, kl_60, kl_61, kl_62, kl_63, kl_64, kl_70, kl_80, kl_81, kl_97, kl_98, kl_99, kl_100, kl_101, kl_102, kl_103, kl_104, kl_105, kl_106, kl_107, kl_108, kl_109, kl_110, kl_111, kl_112, kl_113, kl_114, kl_115, kl_120, kl_124, kl_126, kl_130, kl_255, kl_720, kl_2048, kl_10000, kl_12345, kl_252645135, kl_858993459, kl_1103515245, kl_1431655765, kl_1640531535, kl_2000000000, y, e0])
        rfl
      all_goals intro _
      all_goals try (exfalso; first | (rename_i q; exact q trivial) | (rename_i q; exact q) | omega)
    | with_reducible apply wp_mr
    | with_reducible apply wp_b
      · simp (disch := omega) only [Int.add_zero, Int.zero_add, true_or, or_true, true_and, and_true, not_false_eq_true, not_true_eq_false, if_true, if_false, if_pos, if_neg, ki_add, ki_sub, ki_mul, ki_neg, ki_lt, ki_le, ki_eq, ki_cl, ki_div, ki_ite, ck5, kl_0, kl_1, kl_2, kl_3, kl_4, kl_5, kl_6, kl_7, kl_8, kl_9, kl_10, kl_11, kl_12, kl_13, kl_14, kl_16, kl_20, kl_21, kl_24, kl_29, kl_30, kl_31, kl_33, kl_35, kl_37, kl_38, kl_39, kl_40, kl_41, kl_42, kl_43, kl_44, kl_45, kl_46, kl_47, kl_48, kl_49, kl_50, kl_51, kl_52, kl_53, kl_54, kl_55, kl_56, kl_57, kl_58, kl_59, kl_60, kl_61, kl_62, kl_63, kl_64, kl_70, kl_80, kl_81, kl_97, kl_98, kl_99, kl_100, kl_101, kl_102, kl_103, kl_104, kl_105, kl_106, kl_107, kl_108, kl_109, kl_110, kl_111, kl_112, kl_113, kl_114, kl_115, kl_120, kl_124, kl_126, kl_130, kl_255, kl_720, kl_2048, kl_10000, kl_12345, kl_252645135, kl_858993459, kl_1103515245, kl_1431655765, kl_1640531535, kl_2000000000, y, e0]
        rfl
      all_goals intro _
      all_goals try (exfalso; first | (rename_i q; exact q trivial) | (rename_i q; exact q) | omega)
    | with_reducible apply wp_oe
      · simp (disch := omega) only [Int.add_zero, Int.zero_add, true_or, or_true, true_and, and_true, not_false_eq_true, not_true_eq_false, if_true, if_false, if_pos, if_neg, ki_add, ki_sub, ki_mul, ki_neg, ki_lt, ki_le, ki_eq, ki_cl, ki_div, ki_ite, ck5, kl_0, kl_1, kl_2, kl_3, kl_4, kl_5, kl_6, kl_7, kl_8, kl_9, kl_10, kl_11, kl_12, kl_13, kl_14, kl_16, kl_20, kl_21, kl_24, kl_29, kl_30, kl_31, kl_33, kl_35, kl_37, kl_38, kl_39, kl_40, kl_41, kl_42, kl_43, kl_44, kl_45, kl_46, kl_47, kl_48, kl_49, kl_50, kl_51, kl_52, kl_53, kl_54, kl_55, kl_56, kl_57, kl_58, kl_59, kl_60, kl_61, kl_62, kl_63, kl_64, kl_70, kl_80, kl_81, kl_97, kl_98, kl_99, kl_100, kl_101, kl_102, kl_103, kl_104, kl_105, kl_106, kl_107, kl_108, kl_109, kl_110, kl_111, kl_112, kl_113, kl_114, kl_115, kl_120, kl_124, kl_126, kl_130, kl_255, kl_720, kl_2048, kl_10000, kl_12345, kl_252645135, kl_858993459, kl_1103515245, kl_1431655765, kl_1640531535, kl_2000000000, y, e0]
        try rfl
    | with_reducible apply wp_sv
      · (try simp (disch := omega) only [bi, Int.add_zero, Int.zero_add, true_or, or_true, true_and, and_true, not_false_eq_true, not_true_eq_false, if_true, if_false, if_pos, if_neg, ki_add, ki_sub, ki_mul, ki_neg, ki_lt, ki_le, ki_eq, ki_cl, ki_div, ki_ite, ck5, kl_0, kl_1, kl_2, kl_3, kl_4, kl_5, kl_6, kl_7, kl_8, kl_9, kl_10, kl_11, kl_12, kl_13, kl_14, kl_16, kl_20, kl_21, kl_24, kl_29, kl_30, kl_31, kl_33, kl_35, kl_37, kl_38, kl_39, kl_40, kl_41, kl_42, kl_43, kl_44, kl_45, kl_46, kl_47, kl_48, kl_49, kl_50, kl_51, kl_52, kl_53, kl_54, kl_55, kl_56, kl_57, kl_58, kl_59, kl_60, kl_61, kl_62, kl_63, kl_64, kl_70, kl_80, kl_81, kl_97, kl_98, kl_99, kl_100, kl_101, kl_102, kl_103, kl_104, kl_105, kl_106, kl_107, kl_108, kl_109, kl_110, kl_111, kl_112, kl_113, kl_114, kl_115, kl_120, kl_124, kl_126, kl_130, kl_255, kl_720, kl_2048, kl_10000, kl_12345, kl_252645135, kl_858993459, kl_1103515245, kl_1431655765, kl_1640531535, kl_2000000000, y, e0])
        rfl
    | with_reducible apply wp_so
  · exact sk (by rw [if_neg (by omega)]; omega)
  · exact sk (by rw [if_pos (by omega)])
theorem m_bes3 {η : Hy} {S : xSt} (h : hm η S) (hw : wf η) {c : Int} (c1 : 0 ≤ c) (c2 : c < 30) : f_X12_beside S (ki c) (ki 3) = some (S, ki (if byS η (c / 5 + 1) (c % 5) then -2 else c + 5)) := by
  unfold f_X12_beside f_X12_beside_0 f_X12_beside_22 f_X12_beside_45
  have y := @m_there η S h hw
  apply wp_eq
  repeat' first
    | with_reducible apply wp_bd
      · (try simp (disch := omega) only [bi, Int.add_zero, Int.zero_add, true_or, or_true, true_and, and_true, not_false_eq_true, not_true_eq_false, if_true, if_false, if_pos, if_neg, ki_add, ki_sub, ki_mul, ki_neg, ki_lt, ki_le, ki_eq, ki_cl, ki_div, ki_ite, ck5, kl_0, kl_1, kl_2, kl_3, kl_4, kl_5, kl_6, kl_7, kl_8, kl_9, kl_10, kl_11, kl_12, kl_13, kl_14, kl_16, kl_20, kl_21, kl_24, kl_29, kl_30, kl_31, kl_33, kl_35, kl_37, kl_38, kl_39, kl_40, kl_41, kl_42, kl_43, kl_44, kl_45, kl_46, kl_47, kl_48, kl_49, kl_50, kl_51, kl_52, kl_53, kl_54, kl_55, kl_56, kl_57, kl_58, kl_59, kl_60, kl_61, kl_62, kl_63, kl_64, kl_70, kl_80, kl_81, kl_97, kl_98, kl_99, kl_100, kl_101, kl_102, kl_103, kl_104, kl_105, kl_106, kl_107, kl_108, kl_109, kl_110, kl_111, kl_112, kl_113, kl_114, kl_115, kl_120, kl_124, kl_126, kl_130, kl_255, kl_720, kl_2048, kl_10000, kl_12345, kl_252645135, kl_858993459, kl_1103515245, kl_1431655765, kl_1640531535, kl_2000000000, y])
        rfl
    | with_reducible apply wp_in
      · (try simp (disch := omega) only [bi, Int.add_zero, Int.zero_add, true_or, or_true, true_and, and_true, not_false_eq_true, not_true_eq_false, if_true, if_false, if_pos, if_neg, ki_add, ki_sub, ki_mul, ki_neg, ki_lt, ki_le, ki_eq, ki_cl, ki_div, ki_ite, ck5, kl_0, kl_1, kl_2, kl_3, kl_4, kl_5, kl_6, kl_7, kl_8, kl_9, kl_10, kl_11, kl_12, kl_13, kl_14, kl_16, kl_20, kl_21, kl_24, kl_29, kl_30, kl_31, kl_33, kl_35, kl_37, kl_38, kl_39, kl_40, kl_41, kl_42, kl_43, kl_44, kl_45, kl_46, kl_47, kl_48, kl_49, kl_50, kl_51, kl_52, kl_53, kl_54, kl_55, kl_56, kl_57, kl_58, kl_59, kl_60, kl_61, kl_62, kl_63, kl_64, kl_70, kl_80, kl_81, kl_97, kl_98, kl_99, kl_100, kl_101, kl_102, kl_103, kl_104, kl_105, kl_106, kl_107, kl_108, kl_109, kl_110, kl_111, kl_112, kl_113, kl_114, kl_115, kl_120, kl_124, kl_126, kl_130, kl_255, kl_720, kl_2048, kl_10000, kl_12345, kl_252645135, kl_858993459, kl_1103515245, kl_1431655765, kl_1640531535, kl_2000000000, y])
        rfl
      · decide
      · omega
      · omega
    | with_reducible apply wp_gd
      · (try simp (disch := omega) only [bi, Int.add_zero, Int.zero_add, true_or, or_true, true_and, and_true, not_false_eq_true, not_true_eq_false, if_true, if_false, if_pos, if_neg, ki_add, ki_sub, ki_mul, ki_neg, ki_lt, ki_le, ki_eq, ki_cl, ki_div, ki_ite, ck5, kl_0, kl_1, kl_2, kl_3, kl_4, kl_5, kl_6, kl_7, kl_8, kl_9, kl_10, kl_11, kl_12, kl_13, kl_14, kl_16, kl_20, kl_21, kl_24, kl_29, kl_30, kl_31, kl_33, kl_35, kl_37, kl_38, kl_39, kl_40, kl_41, kl_42, kl_43, kl_44, kl_45, kl_46, kl_47, kl_48, kl_49, kl_50, kl_51, kl_52, kl_53, kl_54, kl_55, kl_56, kl_57, kl_58, kl_59, kl_60, kl_61, kl_62, kl_63, kl_64, kl_70, kl_80, kl_81, kl_97, kl_98, kl_99, kl_100, kl_101, kl_102, kl_103, kl_104, kl_105, kl_106, kl_107, kl_108, kl_109, kl_110, kl_111, kl_112, kl_113, kl_114, kl_115, kl_120, kl_124, kl_126, kl_130, kl_255, kl_720, kl_2048, kl_10000, kl_12345, kl_252645135, kl_858993459, kl_1103515245, kl_1431655765, kl_1640531535, kl_2000000000, y])
        rfl
      · first | exact True.intro | omega
    | with_reducible apply wp_is
      · (try simp (disch := omega) only [bi, Int.add_zero, Int.zero_add, true_or, or_true, true_and, and_true, not_false_eq_true, not_true_eq_false, if_true, if_false, if_pos, if_neg, ki_add, ki_sub, ki_mul, ki_neg, ki_lt, ki_le, ki_eq, ki_cl, ki_div, ki_ite, ck5, kl_0, kl_1, kl_2, kl_3, kl_4, kl_5, kl_6, kl_7, kl_8, kl_9, kl_10, kl_11, kl_12, kl_13, kl_14, kl_16, kl_20, kl_21, kl_24, kl_29, kl_30, kl_31, kl_33, kl_35, kl_37, kl_38, kl_39, kl_40, kl_41, kl_42, kl_43, kl_44, kl_45, kl_46, kl_47, kl_48, kl_49, kl_50, kl_51, kl_52, kl_53, kl_54, kl_55, kl_56, kl_57, kl_58, kl_59, kl_60, kl_61, kl_62, kl_63, kl_64, kl_70, kl_80, kl_81, kl_97, kl_98, kl_99, kl_100, kl_101, kl_102, kl_103, kl_104, kl_105, kl_106, kl_107, kl_108, kl_109, kl_110, kl_111, kl_112, kl_113, kl_114, kl_115, kl_120, kl_124, kl_126, kl_130, kl_255, kl_720, kl_2048, kl_10000, kl_12345, kl_252645135, kl_858993459, kl_1103515245, kl_1431655765, kl_1640531535, kl_2000000000, y])
        rfl
      all_goals intro _
      all_goals try (exfalso; first | (rename_i q; exact q trivial) | (rename_i q; exact q) | omega)
    | with_reducible apply wp_mr
    | with_reducible apply wp_b
      · simp (disch := omega) only [Int.add_zero, Int.zero_add, true_or, or_true, true_and, and_true, not_false_eq_true, not_true_eq_false, if_true, if_false, if_pos, if_neg, ki_add, ki_sub, ki_mul, ki_neg, ki_lt, ki_le, ki_eq, ki_cl, ki_div, ki_ite, ck5, kl_0, kl_1, kl_2, kl_3, kl_4, kl_5, kl_6, kl_7, kl_8, kl_9, kl_10, kl_11, kl_12, kl_13, kl_14, kl_16, kl_20, kl_21, kl_24, kl_29, kl_30, kl_31, kl_33, kl_35, kl_37, kl_38, kl_39, kl_40, kl_41, kl_42, kl_43, kl_44, kl_45, kl_46, kl_47, kl_48, kl_49, kl_50, kl_51, kl_52, kl_53, kl_54, kl_55, kl_56, kl_57, kl_58, kl_59, kl_60, kl_61, kl_62, kl_63, kl_64, kl_70, kl_80, kl_81, kl_97, kl_98, kl_99, kl_100, kl_101, kl_102, kl_103, kl_104, kl_105, kl_106, kl_107, kl_108, kl_109, kl_110, kl_111, kl_112, kl_113, kl_114, kl_115, kl_120, kl_124, kl_126, kl_130, kl_255, kl_720, kl_2048, kl_10000, kl_12345, kl_252645135, kl_858993459, kl_1103515245, kl_1431655765, kl_1640531535, kl_2000000000, y]
        rfl
      all_goals intro _
      all_goals try (exfalso; first | (rename_i q; exact q trivial) | (rename_i q; exact q) | omega)
    | with_reducible apply wp_oe
      · simp (disch := omega) only [Int.add_zero, Int.zero_add, true_or, or_true, true_and, and_true, not_false_eq_true, not_true_eq_false, if_true, if_false, if_pos, if_neg, ki_add, ki_sub, ki_mul, ki_neg, ki_lt, ki_le, ki_eq, ki_cl, ki_div, ki_ite, ck5, kl_0, kl_1, kl_2, kl_3, kl_4, kl_5, kl_6, kl_7, kl_8, kl_9, kl_10, kl_11, kl_12, kl_13, kl_14, kl_16, kl_20, kl_21, kl_24, kl_29, kl_30, kl_31, kl_33, kl_35, kl_37, kl_38, kl_39, kl_40, kl_41, kl_42, kl_43, kl_44, kl_45, kl_46, kl_47, kl_48, kl_49, kl_50, kl_51, kl_52, kl_53, kl_54, kl_55, kl_56, kl_57, kl_58, kl_59, kl_60, kl_61, kl_62, kl_63, kl_64, kl_70, kl_80, kl_81, kl_97, kl_98, kl_99, kl_100, kl_101, kl_102, kl_103, kl_104, kl_105, kl_106, kl_107, kl_108, kl_109, kl_110, kl_111, kl_112, kl_113, kl_114, kl_115, kl_120, kl_124, kl_126, kl_130, kl_255, kl_720, kl_2048, kl_10000, kl_12345, kl_252645135, kl_858993459, kl_1103515245, kl_1431655765, kl_1640531535, kl_2000000000, y]
        try rfl
    | with_reducible apply wp_sv
      · (try simp (disch := omega) only [bi, Int.add_zero, Int.zero_add, true_or, or_true, true_and, and_true, not_false_eq_true, not_true_eq_false, if_true, if_false, if_pos, if_neg, ki_add, ki_sub, ki_mul, ki_neg, ki_lt, ki_le, ki_eq, ki_cl, ki_div, ki_ite, ck5, kl_0, kl_1, kl_2, kl_3, kl_4, kl_5, kl_6, kl_7, kl_8, kl_9, kl_10, kl_11, kl_12, kl_13, kl_14, kl_16, kl_20, kl_21, kl_24, kl_29, kl_30, kl_31, kl_33, kl_35, kl_37, kl_38, kl_39, kl_40, kl_41, kl_42, kl_43, kl_44, kl_45, kl_46, kl_47, kl_48, kl_49, kl_50, kl_51, kl_52, kl_53, kl_54, kl_55, kl_56, kl_57, kl_58, kl_59, kl_60, kl_61, kl_62, kl_63, kl_64, kl_70, kl_80, kl_81, kl_97, kl_98, kl_99, kl_100, kl_101, kl_102, kl_103, kl_104, kl_105, kl_106, kl_107, kl_108, kl_109, kl_110, kl_111, kl_112, kl_113, kl_114, kl_115, kl_120, kl_124, kl_126, kl_130, kl_255, kl_720, kl_2048, kl_10000, kl_12345, kl_252645135, kl_858993459, kl_1103515245, kl_1431655765, kl_1640531535, kl_2000000000, y])
        rfl
    | with_reducible apply wp_so
  · exact sk (by rw [if_neg (by omega)]; omega)
  · exact sk (by rw [if_pos (by omega)])
theorem m_air {η : Hy} {S : xSt} (h : hm η S) (hw : wf η) {c : Int} (c1 : 0 ≤ c) (c2 : c < 30) : f_X12_airOf S (ki c) = some (S, ki (airS η c)) := by
  have r2 := h.2.1
  unfold vw at r2
  have b2 := hw.2.1 (c / 5)
  have y0 := m_bes0 h hw c1 c2
  have y2 := m_bes2 h hw c1 c2
  have y3 := m_bes3 h hw c1 c2
  have s0 : ∀ n : Int, f_X12_airOf_20 (ki c) S (ki n) (ki 0) = some (.inl (S, ki (n + bi (byS η (c / 5) (c % 5 + 1))), ki 1)) := by
    intro n
    unfold f_X12_airOf_20 f_X12_airOf_42
    apply wp_eq
    repeat' first
      | with_reducible apply wp_bd
        · (try simp (disch := omega) only [bi, Int.add_zero, Int.zero_add, true_or, or_true, true_and, and_true, not_false_eq_true, not_true_eq_false, if_true, if_false, if_pos, if_neg, ki_add, ki_sub, ki_mul, ki_neg, ki_lt, ki_le, ki_eq, ki_cl, ki_div, ki_ite, ck5, kl_0, kl_1, kl_2, kl_3, kl_4, kl_5, kl_6, kl_7, kl_8, kl_9, kl_10, kl_11, kl_12, kl_13, kl_14, kl_16, kl_20, kl_21, kl_24, kl_29, kl_30, kl_31, kl_33, kl_35, kl_37, kl_38, kl_39, kl_40, kl_41, kl_42, kl_43, kl_44, kl_45, kl_46, kl_47, kl_48, kl_49, kl_50, kl_51, kl_52, kl_53, kl_54, kl_55, kl_56, kl_57, kl_58, kl_59, kl_60, kl_61, kl_62, kl_63, kl_64, kl_70, kl_80, kl_81, kl_97, kl_98, kl_99, kl_100, kl_101, kl_102, kl_103, kl_104, kl_105, kl_106, kl_107, kl_108, kl_109, kl_110, kl_111, kl_112, kl_113, kl_114, kl_115, kl_120, kl_124, kl_126, kl_130, kl_255, kl_720, kl_2048, kl_10000, kl_12345, kl_252645135, kl_858993459, kl_1103515245, kl_1431655765, kl_1640531535, kl_2000000000, y0])
          rfl
      | with_reducible apply wp_in
        · (try simp (disch := omega) only [bi, Int.add_zero, Int.zero_add, true_or, or_true, true_and, and_true, not_false_eq_true, not_true_eq_false, if_true, if_false, if_pos, if_neg, ki_add, ki_sub, ki_mul, ki_neg, ki_lt, ki_le, ki_eq, ki_cl, ki_div, ki_ite, ck5, kl_0, kl_1, kl_2, kl_3, kl_4, kl_5, kl_6, kl_7, kl_8, kl_9, kl_10, kl_11, kl_12, kl_13, kl_14, kl_16, kl_20, kl_21, kl_24, kl_29, kl_30, kl_31, kl_33, kl_35, kl_37, kl_38, kl_39, kl_40, kl_41, kl_42, kl_43, kl_44, kl_45, kl_46, kl_47, kl_48, kl_49, kl_50, kl_51, kl_52, kl_53, kl_54, kl_55, kl_56, kl_57, kl_58, kl_59, kl_60, kl_61, kl_62, kl_63, kl_64, kl_70, kl_80, kl_81, kl_97, kl_98, kl_99, kl_100, kl_101, kl_102, kl_103, kl_104, kl_105, kl_106, kl_107, kl_108, kl_109, kl_110, kl_111, kl_112, kl_113, kl_114, kl_115, kl_120, kl_124, kl_126, kl_130, kl_255, kl_720, kl_2048, kl_10000, kl_12345, kl_252645135, kl_858993459, kl_1103515245, kl_1431655765, kl_1640531535, kl_2000000000, y0])
          rfl
        · decide
        · omega
        · omega
      | with_reducible apply wp_gd
        · (try simp (disch := omega) only [bi, Int.add_zero, Int.zero_add, true_or, or_true, true_and, and_true, not_false_eq_true, not_true_eq_false, if_true, if_false, if_pos, if_neg, ki_add, ki_sub, ki_mul, ki_neg, ki_lt, ki_le, ki_eq, ki_cl, ki_div, ki_ite, ck5, kl_0, kl_1, kl_2, kl_3, kl_4, kl_5, kl_6, kl_7, kl_8, kl_9, kl_10, kl_11, kl_12, kl_13, kl_14, kl_16, kl_20, kl_21, kl_24, kl_29, kl_30, kl_31, kl_33, kl_35, kl_37, kl_38, kl_39, kl_40, kl_41, kl_42, kl_43, kl_44, kl_45, kl_46, kl_47, kl_48, kl_49, kl_50, kl_51, kl_52, kl_53, kl_54, kl_55, kl_56, kl_57, kl_58, kl_59, kl_60, kl_61, kl_62, kl_63, kl_64, kl_70, kl_80, kl_81, kl_97, kl_98, kl_99, kl_100, kl_101, kl_102, kl_103, kl_104, kl_105, kl_106, kl_107, kl_108, kl_109, kl_110, kl_111, kl_112, kl_113, kl_114, kl_115, kl_120, kl_124, kl_126, kl_130, kl_255, kl_720, kl_2048, kl_10000, kl_12345, kl_252645135, kl_858993459, kl_1103515245, kl_1431655765, kl_1640531535, kl_2000000000, y0])
          rfl
        · first | exact True.intro | omega
      | with_reducible apply wp_is
        · (try simp (disch := omega) only [bi, Int.add_zero, Int.zero_add, true_or, or_true, true_and, and_true, not_false_eq_true, not_true_eq_false, if_true, if_false, if_pos, if_neg, ki_add, ki_sub, ki_mul, ki_neg, ki_lt, ki_le, ki_eq, ki_cl, ki_div, ki_ite, ck5, kl_0, kl_1, kl_2, kl_3, kl_4, kl_5, kl_6, kl_7, kl_8, kl_9, kl_10, kl_11, kl_12, kl_13, kl_14, kl_16, kl_20, kl_21, kl_24, kl_29, kl_30, kl_31, kl_33, kl_35, kl_37, kl_38, kl_39, kl_40, kl_41, kl_42, kl_43, kl_44, kl_45, kl_46, kl_47, kl_48, kl_49, kl_50, kl_51, kl_52, kl_53, kl_54, kl_55, kl_56, kl_57, kl_58, kl_59, kl_60, kl_61, kl_62, kl_63, kl_64, kl_70, kl_80, kl_81, kl_97, kl_98, kl_99, kl_100, kl_101, kl_102, kl_103, kl_104, kl_105, kl_106, kl_107, kl_108, kl_109, kl_110, kl_111, kl_112, kl_113, kl_114, kl_115, kl_120, kl_124, kl_126, kl_130, kl_255, kl_720, kl_2048, kl_10000, kl_12345, kl_252645135, kl_858993459, kl_1103515245, kl_1431655765, kl_1640531535, kl_2000000000, y0])
          rfl
        all_goals intro _
        all_goals try (exfalso; first | (rename_i q; exact q trivial) | (rename_i q; exact q) | omega)
      | with_reducible apply wp_mr
      | with_reducible apply wp_b
        · simp (disch := omega) only [Int.add_zero, Int.zero_add, true_or, or_true, true_and, and_true, not_false_eq_true, not_true_eq_false, if_true, if_false, if_pos, if_neg, ki_add, ki_sub, ki_mul, ki_neg, ki_lt, ki_le, ki_eq, ki_cl, ki_div, ki_ite, ck5, kl_0, kl_1, kl_2, kl_3, kl_4, kl_5, kl_6, kl_7, kl_8, kl_9, kl_10, kl_11, kl_12, kl_13, kl_14, kl_16, kl_20, kl_21, kl_24, kl_29, kl_30, kl_31, kl_33, kl_35, kl_37, kl_38, kl_39, kl_40, kl_41, kl_42, kl_43, kl_44, kl_45, kl_46, kl_47, kl_48, kl_49, kl_50, kl_51, kl_52, kl_53, kl_54, kl_55, kl_56, kl_57, kl_58, kl_59, kl_60, kl_61, kl_62, kl_63, kl_64, kl_70, kl_80, kl_81, kl_97, kl_98, kl_99, kl_100, kl_101, kl_102, kl_103, kl_104, kl_105, kl_106, kl_107, kl_108, kl_109, kl_110, kl_111, kl_112, kl_113, kl_114, kl_115, kl_120, kl_124, kl_126, kl_130, kl_255, kl_720, kl_2048, kl_10000, kl_12345, kl_252645135, kl_858993459, kl_1103515245, kl_1431655765, kl_1640531535, kl_2000000000, y0]
          rfl
        all_goals intro _
        all_goals try (exfalso; first | (rename_i q; exact q trivial) | (rename_i q; exact q) | omega)
      | with_reducible apply wp_oe
        · simp (disch := omega) only [Int.add_zero, Int.zero_add, true_or, or_true, true_and, and_true, not_false_eq_true, not_true_eq_false, if_true, if_false, if_pos, if_neg, ki_add, ki_sub, ki_mul, ki_neg, ki_lt, ki_le, ki_eq, ki_cl, ki_div, ki_ite, ck5, kl_0, kl_1, kl_2, kl_3, kl_4, kl_5, kl_6, kl_7, kl_8, kl_9, kl_10, kl_11, kl_12, kl_13, kl_14, kl_16, kl_20, kl_21, kl_24, kl_29, kl_30, kl_31, kl_33, kl_35, kl_37, kl_38, kl_39, kl_40, kl_41, kl_42, kl_43, kl_44, kl_45, kl_46, kl_47, kl_48, kl_49, kl_50, kl_51, kl_52, kl_53, kl_54, kl_55, kl_56, kl_57, kl_58, kl_59, kl_60, kl_61, kl_62, kl_63, kl_64, kl_70, kl_80, kl_81, kl_97, kl_98, kl_99, kl_100, kl_101, kl_102, kl_103, kl_104, kl_105, kl_106, kl_107, kl_108, kl_109, kl_110, kl_111, kl_112, kl_113, kl_114, kl_115, kl_120, kl_124, kl_126, kl_130, kl_255, kl_720, kl_2048, kl_10000, kl_12345, kl_252645135, kl_858993459, kl_1103515245, kl_1431655765, kl_1640531535, kl_2000000000, y0]
          try rfl
      | with_reducible apply wp_sv
        · (try simp (disch := omega) only [bi, Int.add_zero, Int.zero_add, true_or, or_true, true_and, and_true, not_false_eq_true, not_true_eq_false, if_true, if_false, if_pos, if_neg, ki_add, ki_sub, ki_mul, ki_neg, ki_lt, ki_le, ki_eq, ki_cl, ki_div, ki_ite, ck5, kl_0, kl_1, kl_2, kl_3, kl_4, kl_5, kl_6, kl_7, kl_8, kl_9, kl_10, kl_11, kl_12, kl_13, kl_14, kl_16, kl_20, kl_21, kl_24, kl_29, kl_30, kl_31, kl_33, kl_35, kl_37, kl_38, kl_39, kl_40, kl_41, kl_42, kl_43, kl_44, kl_45, kl_46, kl_47, kl_48, kl_49, kl_50, kl_51, kl_52, kl_53, kl_54, kl_55, kl_56, kl_57, kl_58, kl_59, kl_60, kl_61, kl_62, kl_63, kl_64, kl_70, kl_80, kl_81, kl_97, kl_98, kl_99, kl_100, kl_101, kl_102, kl_103, kl_104, kl_105, kl_106, kl_107, kl_108, kl_109, kl_110, kl_111, kl_112, kl_113, kl_114, kl_115, kl_120, kl_124, kl_126, kl_130, kl_255, kl_720, kl_2048, kl_10000, kl_12345, kl_252645135, kl_858993459, kl_1103515245, kl_1431655765, kl_1640531535, kl_2000000000, y0])
          rfl
      | with_reducible apply wp_so
    all_goals try (simp (disch := omega) only [bi, if_pos, if_neg, Int.add_zero])
    all_goals rfl
  have s1 : ∀ n : Int, f_X12_airOf_20 (ki c) S (ki n) (ki 1) = some (.inl (S, ki (n + 0), ki 2)) := by
    intro n
    unfold f_X12_airOf_20 f_X12_airOf_42
    apply wp_eq
    repeat' first
      | with_reducible apply wp_bd
        · (try simp (disch := omega) only [bi, Int.add_zero, Int.zero_add, true_or, or_true, true_and, and_true, not_false_eq_true, not_true_eq_false, if_true, if_false, if_pos, if_neg, ki_add, ki_sub, ki_mul, ki_neg, ki_lt, ki_le, ki_eq, ki_cl, ki_div, ki_ite, ck5, kl_0, kl_1, kl_2, kl_3, kl_4, kl_5, kl_6, kl_7, kl_8, kl_9, kl_10, kl_11, kl_12, kl_13, kl_14, kl_16, kl_20, kl_21, kl_24, kl_29, kl_30, kl_31, kl_33, kl_35, kl_37, kl_38, kl_39, kl_40, kl_41, kl_42, kl_43, kl_44, kl_45, kl_46, kl_47, kl_48, kl_49, kl_50, kl_51, kl_52, kl_53, kl_54, kl_55, kl_56, kl_57, kl_58, kl_59, kl_60, kl_61, kl_62, kl_63, kl_64, kl_70, kl_80, kl_81, kl_97, kl_98, kl_99, kl_100, kl_101, kl_102, kl_103, kl_104, kl_105, kl_106, kl_107, kl_108, kl_109, kl_110, kl_111, kl_112, kl_113, kl_114, kl_115, kl_120, kl_124, kl_126, kl_130, kl_255, kl_720, kl_2048, kl_10000, kl_12345, kl_252645135, kl_858993459, kl_1103515245, kl_1431655765, kl_1640531535, kl_2000000000])
          rfl
      | with_reducible apply wp_in
        · (try simp (disch := omega) only [bi, Int.add_zero, Int.zero_add, true_or, or_true, true_and, and_true, not_false_eq_true, not_true_eq_false, if_true, if_false, if_pos, if_neg, ki_add, ki_sub, ki_mul, ki_neg, ki_lt, ki_le, ki_eq, ki_cl, ki_div, ki_ite, ck5, kl_0, kl_1, kl_2, kl_3, kl_4, kl_5, kl_6, kl_7, kl_8, kl_9, kl_10, kl_11, kl_12, kl_13, kl_14, kl_16, kl_20, kl_21, kl_24, kl_29, kl_30, kl_31, kl_33, kl_35, kl_37, kl_38, kl_39, kl_40, kl_41, kl_42, kl_43, kl_44, kl_45, kl_46, kl_47, kl_48, kl_49, kl_50, kl_51, kl_52, kl_53, kl_54, kl_55, kl_56, kl_57, kl_58, kl_59, kl_60, kl_61, kl_62, kl_63, kl_64, kl_70, kl_80, kl_81, kl_97, kl_98, kl_99, kl_100, kl_101, kl_102, kl_103, kl_104, kl_105, kl_106, kl_107, kl_108, kl_109, kl_110, kl_111, kl_112, kl_113, kl_114, kl_115, kl_120, kl_124, kl_126, kl_130, kl_255, kl_720, kl_2048, kl_10000, kl_12345, kl_252645135, kl_858993459, kl_1103515245, kl_1431655765, kl_1640531535, kl_2000000000])
          rfl
        · decide
        · omega
        · omega
      | with_reducible apply wp_gd
        · (try simp (disch := omega) only [bi, Int.add_zero, Int.zero_add, true_or, or_true, true_and, and_true, not_false_eq_true, not_true_eq_false, if_true, if_false, if_pos, if_neg, ki_add, ki_sub, ki_mul, ki_neg, ki_lt, ki_le, ki_eq, ki_cl, ki_div, ki_ite, ck5, kl_0, kl_1, kl_2, kl_3, kl_4, kl_5, kl_6, kl_7, kl_8, kl_9, kl_10, kl_11, kl_12, kl_13, kl_14, kl_16, kl_20, kl_21, kl_24, kl_29, kl_30, kl_31, kl_33, kl_35, kl_37, kl_38, kl_39, kl_40, kl_41, kl_42, kl_43, kl_44, kl_45, kl_46, kl_47, kl_48, kl_49, kl_50, kl_51, kl_52, kl_53, kl_54, kl_55, kl_56, kl_57, kl_58, kl_59, kl_60, kl_61, kl_62, kl_63, kl_64, kl_70, kl_80, kl_81, kl_97, kl_98, kl_99, kl_100, kl_101, kl_102, kl_103, kl_104, kl_105, kl_106, kl_107, kl_108, kl_109, kl_110, kl_111, kl_112, kl_113, kl_114, kl_115, kl_120, kl_124, kl_126, kl_130, kl_255, kl_720, kl_2048, kl_10000, kl_12345, kl_252645135, kl_858993459, kl_1103515245, kl_1431655765, kl_1640531535, kl_2000000000])
          rfl
        · first | exact True.intro | omega
      | with_reducible apply wp_is
        · (try simp (disch := omega) only [bi, Int.add_zero, Int.zero_add, true_or, or_true, true_and, and_true, not_false_eq_true, not_true_eq_false, if_true, if_false, if_pos, if_neg, ki_add, ki_sub, ki_mul, ki_neg, ki_lt, ki_le, ki_eq, ki_cl, ki_div, ki_ite, ck5, kl_0, kl_1, kl_2, kl_3, kl_4, kl_5, kl_6, kl_7, kl_8, kl_9, kl_10, kl_11, kl_12, kl_13, kl_14, kl_16, kl_20, kl_21, kl_24, kl_29, kl_30, kl_31, kl_33, kl_35, kl_37, kl_38, kl_39, kl_40, kl_41, kl_42, kl_43, kl_44, kl_45, kl_46, kl_47, kl_48, kl_49, kl_50, kl_51, kl_52, kl_53, kl_54, kl_55, kl_56, kl_57, kl_58, kl_59, kl_60, kl_61, kl_62, kl_63, kl_64, kl_70, kl_80, kl_81, kl_97, kl_98, kl_99, kl_100, kl_101, kl_102, kl_103, kl_104, kl_105, kl_106, kl_107, kl_108, kl_109, kl_110, kl_111, kl_112, kl_113, kl_114, kl_115, kl_120, kl_124, kl_126, kl_130, kl_255, kl_720, kl_2048, kl_10000, kl_12345, kl_252645135, kl_858993459, kl_1103515245, kl_1431655765, kl_1640531535, kl_2000000000])
          rfl
        all_goals intro _
        all_goals try (exfalso; first | (rename_i q; exact q trivial) | (rename_i q; exact q) | omega)
      | with_reducible apply wp_mr
      | with_reducible apply wp_b
        · simp (disch := omega) only [Int.add_zero, Int.zero_add, true_or, or_true, true_and, and_true, not_false_eq_true, not_true_eq_false, if_true, if_false, if_pos, if_neg, ki_add, ki_sub, ki_mul, ki_neg, ki_lt, ki_le, ki_eq, ki_cl, ki_div, ki_ite, ck5, kl_0, kl_1, kl_2, kl_3, kl_4, kl_5, kl_6, kl_7, kl_8, kl_9, kl_10, kl_11, kl_12, kl_13, kl_14, kl_16, kl_20, kl_21, kl_24, kl_29, kl_30, kl_31, kl_33, kl_35, kl_37, kl_38, kl_39, kl_40, kl_41, kl_42, kl_43, kl_44, kl_45, kl_46, kl_47, kl_48, kl_49, kl_50, kl_51, kl_52, kl_53, kl_54, kl_55, kl_56, kl_57, kl_58, kl_59, kl_60, kl_61, kl_62, kl_63, kl_64, kl_70, kl_80, kl_81, kl_97, kl_98, kl_99, kl_100, kl_101, kl_102, kl_103, kl_104, kl_105, kl_106, kl_107, kl_108, kl_109, kl_110, kl_111, kl_112, kl_113, kl_114, kl_115, kl_120, kl_124, kl_126, kl_130, kl_255, kl_720, kl_2048, kl_10000, kl_12345, kl_252645135, kl_858993459, kl_1103515245, kl_1431655765, kl_1640531535, kl_2000000000]
          rfl
        all_goals intro _
        all_goals try (exfalso; first | (rename_i q; exact q trivial) | (rename_i q; exact q) | omega)
      | with_reducible apply wp_oe
        · simp (disch := omega) only [Int.add_zero, Int.zero_add, true_or, or_true, true_and, and_true, not_false_eq_true, not_true_eq_false, if_true, if_false, if_pos, if_neg, ki_add, ki_sub, ki_mul, ki_neg, ki_lt, ki_le, ki_eq, ki_cl, ki_div, ki_ite, ck5, kl_0, kl_1, kl_2, kl_3, kl_4, kl_5, kl_6, kl_7, kl_8, kl_9, kl_10, kl_11, kl_12, kl_13, kl_14, kl_16, kl_20, kl_21, kl_24, kl_29, kl_30, kl_31, kl_33, kl_35, kl_37, kl_38, kl_39, kl_40, kl_41, kl_42, kl_43, kl_44, kl_45, kl_46, kl_47, kl_48, kl_49, kl_50, kl_51, kl_52, kl_53, kl_54, kl_55, kl_56, kl_57, kl_58, kl_59, kl_60, kl_61, kl_62, kl_63, kl_64, kl_70, kl_80, kl_81, kl_97, kl_98, kl_99, kl_100, kl_101, kl_102, kl_103, kl_104, kl_105, kl_106, kl_107, kl_108, kl_109, kl_110, kl_111, kl_112, kl_113, kl_114, kl_115, kl_120, kl_124, kl_126, kl_130, kl_255, kl_720, kl_2048, kl_10000, kl_12345, kl_252645135, kl_858993459, kl_1103515245, kl_1431655765, kl_1640531535, kl_2000000000]
          try rfl
      | with_reducible apply wp_sv
        · (try simp (disch := omega) only [bi, Int.add_zero, Int.zero_add, true_or, or_true, true_and, and_true, not_false_eq_true, not_true_eq_false, if_true, if_false, if_pos, if_neg, ki_add, ki_sub, ki_mul, ki_neg, ki_lt, ki_le, ki_eq, ki_cl, ki_div, ki_ite, ck5, kl_0, kl_1, kl_2, kl_3, kl_4, kl_5, kl_6, kl_7, kl_8, kl_9, kl_10, kl_11, kl_12, kl_13, kl_14, kl_16, kl_20, kl_21, kl_24, kl_29, kl_30, kl_31, kl_33, kl_35, kl_37, kl_38, kl_39, kl_40, kl_41, kl_42, kl_43, kl_44, kl_45, kl_46, kl_47, kl_48, kl_49, kl_50, kl_51, kl_52, kl_53, kl_54, kl_55, kl_56, kl_57, kl_58, kl_59, kl_60, kl_61, kl_62, kl_63, kl_64, kl_70, kl_80, kl_81, kl_97, kl_98, kl_99, kl_100, kl_101, kl_102, kl_103, kl_104, kl_105, kl_106, kl_107, kl_108, kl_109, kl_110, kl_111, kl_112, kl_113, kl_114, kl_115, kl_120, kl_124, kl_126, kl_130, kl_255, kl_720, kl_2048, kl_10000, kl_12345, kl_252645135, kl_858993459, kl_1103515245, kl_1431655765, kl_1640531535, kl_2000000000])
          rfl
      | with_reducible apply wp_so
    all_goals try (simp (disch := omega) only [bi, if_pos, if_neg, Int.add_zero])
    all_goals rfl
  have s2 : ∀ n : Int, f_X12_airOf_20 (ki c) S (ki n) (ki 2) = some (.inl (S, ki (n + bi (byS η (c / 5 - 1) (c % 5))), ki 3)) := by
    intro n
    unfold f_X12_airOf_20 f_X12_airOf_42
    apply wp_eq
    repeat' first
      | with_reducible apply wp_bd
        · (try simp (disch := omega) only [bi, Int.add_zero, Int.zero_add, true_or, or_true, true_and, and_true, not_false_eq_true, not_true_eq_false, if_true, if_false, if_pos, if_neg, ki_add, ki_sub, ki_mul, ki_neg, ki_lt, ki_le, ki_eq, ki_cl, ki_div, ki_ite, ck5, kl_0, kl_1, kl_2, kl_3, kl_4, kl_5, kl_6, kl_7, kl_8, kl_9, kl_10, kl_11, kl_12, kl_13, kl_14, kl_16, kl_20, kl_21, kl_24, kl_29, kl_30, kl_31, kl_33, kl_35, kl_37, kl_38, kl_39, kl_40, kl_41, kl_42, kl_43, kl_44, kl_45, kl_46, kl_47, kl_48, kl_49, kl_50, kl_51, kl_52, kl_53, kl_54, kl_55, kl_56, kl_57, kl_58, kl_59, kl_60, kl_61, kl_62, kl_63, kl_64, kl_70, kl_80, kl_81, kl_97, kl_98, kl_99, kl_100, kl_101, kl_102, kl_103, kl_104, kl_105, kl_106, kl_107, kl_108, kl_109, kl_110, kl_111, kl_112, kl_113, kl_114, kl_115, kl_120, kl_124, kl_126, kl_130, kl_255, kl_720, kl_2048, kl_10000, kl_12345, kl_252645135, kl_858993459, kl_1103515245, kl_1431655765, kl_1640531535, kl_2000000000, y2])
          rfl
      | with_reducible apply wp_in
        · (try simp (disch := omega) only [bi, Int.add_zero, Int.zero_add, true_or, or_true, true_and, and_true, not_false_eq_true, not_true_eq_false, if_true, if_false, if_pos, if_neg, ki_add, ki_sub, ki_mul, ki_neg, ki_lt, ki_le, ki_eq, ki_cl, ki_div, ki_ite, ck5, kl_0, kl_1, kl_2, kl_3, kl_4, kl_5, kl_6, kl_7, kl_8, kl_9, kl_10, kl_11, kl_12, kl_13, kl_14, kl_16, kl_20, kl_21, kl_24, kl_29, kl_30, kl_31, kl_33, kl_35, kl_37, kl_38, kl_39, kl_40, kl_41, kl_42, kl_43, kl_44, kl_45, kl_46, kl_47, kl_48, kl_49, kl_50, kl_51, kl_52, kl_53, kl_54, kl_55, kl_56, kl_57, kl_58, kl_59, kl_60, kl_61, kl_62, kl_63, kl_64, kl_70, kl_80, kl_81, kl_97, kl_98, kl_99, kl_100, kl_101, kl_102, kl_103, kl_104, kl_105, kl_106, kl_107, kl_108, kl_109, kl_110, kl_111, kl_112, kl_113, kl_114, kl_115, kl_120, kl_124, kl_126, kl_130, kl_255, kl_720, kl_2048, kl_10000, kl_12345, kl_252645135, kl_858993459, kl_1103515245, kl_1431655765, kl_1640531535, kl_2000000000, y2])
          rfl
        · decide
        · omega
        · omega
      | with_reducible apply wp_gd
        · (try simp (disch := omega) only [bi, Int.add_zero, Int.zero_add, true_or, or_true, true_and, and_true, not_false_eq_true, not_true_eq_false, if_true, if_false, if_pos, if_neg, ki_add, ki_sub, ki_mul, ki_neg, ki_lt, ki_le, ki_eq, ki_cl, ki_div, ki_ite, ck5, kl_0, kl_1, kl_2, kl_3, kl_4, kl_5, kl_6, kl_7, kl_8, kl_9, kl_10, kl_11, kl_12, kl_13, kl_14, kl_16, kl_20, kl_21, kl_24, kl_29, kl_30, kl_31, kl_33, kl_35, kl_37, kl_38, kl_39, kl_40, kl_41, kl_42, kl_43, kl_44, kl_45, kl_46, kl_47, kl_48, kl_49, kl_50, kl_51, kl_52, kl_53, kl_54, kl_55, kl_56, kl_57, kl_58, kl_59, kl_60, kl_61, kl_62, kl_63, kl_64, kl_70, kl_80, kl_81, kl_97, kl_98, kl_99, kl_100, kl_101, kl_102, kl_103, kl_104, kl_105, kl_106, kl_107, kl_108, kl_109, kl_110, kl_111, kl_112, kl_113, kl_114, kl_115, kl_120, kl_124, kl_126, kl_130, kl_255, kl_720, kl_2048, kl_10000, kl_12345, kl_252645135, kl_858993459, kl_1103515245, kl_1431655765, kl_1640531535, kl_2000000000, y2])
          rfl
        · first | exact True.intro | omega
      | with_reducible apply wp_is
        · (try simp (disch := omega) only [bi, Int.add_zero, Int.zero_add, true_or, or_true, true_and, and_true, not_false_eq_true, not_true_eq_false, if_true, if_false, if_pos, if_neg, ki_add, ki_sub, ki_mul, ki_neg, ki_lt, ki_le, ki_eq, ki_cl, ki_div, ki_ite, ck5, kl_0, kl_1, kl_2, kl_3, kl_4, kl_5, kl_6, kl_7, kl_8, kl_9, kl_10, kl_11, kl_12, kl_13, kl_14, kl_16, kl_20, kl_21, kl_24, kl_29, kl_30, kl_31, kl_33, kl_35, kl_37, kl_38, kl_39, kl_40, kl_41, kl_42, kl_43, kl_44, kl_45, kl_46, kl_47, kl_48, kl_49, kl_50, kl_51, kl_52, kl_53, kl_54, kl_55, kl_56, kl_57, kl_58, kl_59, kl_60, kl_61, kl_62, kl_63, kl_64, kl_70, kl_80, kl_81, kl_97, kl_98, kl_99, kl_100, kl_101, kl_102, kl_103, kl_104, kl_105, kl_106, kl_107, kl_108, kl_109, kl_110, kl_111, kl_112, kl_113, kl_114, kl_115, kl_120, kl_124, kl_126, kl_130, kl_255, kl_720, kl_2048, kl_10000, kl_12345, kl_252645135, kl_858993459, kl_1103515245, kl_1431655765, kl_1640531535, kl_2000000000, y2])
          rfl
        all_goals intro _
        all_goals try (exfalso; first | (rename_i q; exact q trivial) | (rename_i q; exact q) | omega)
      | with_reducible apply wp_mr
      | with_reducible apply wp_b
        · simp (disch := omega) only [Int.add_zero, Int.zero_add, true_or, or_true, true_and, and_true, not_false_eq_true, not_true_eq_false, if_true, if_false, if_pos, if_neg, ki_add, ki_sub, ki_mul, ki_neg, ki_lt, ki_le, ki_eq, ki_cl, ki_div, ki_ite, ck5, kl_0, kl_1, kl_2, kl_3, kl_4, kl_5, kl_6, kl_7, kl_8, kl_9, kl_10, kl_11, kl_12, kl_13, kl_14, kl_16, kl_20, kl_21, kl_24, kl_29, kl_30, kl_31, kl_33, kl_35, kl_37, kl_38, kl_39, kl_40, kl_41, kl_42, kl_43, kl_44, kl_45, kl_46, kl_47, kl_48, kl_49, kl_50, kl_51, kl_52, kl_53, kl_54, kl_55, kl_56, kl_57, kl_58, kl_59, kl_60, kl_61, kl_62, kl_63, kl_64, kl_70, kl_80, kl_81, kl_97, kl_98, kl_99, kl_100, kl_101, kl_102, kl_103, kl_104, kl_105, kl_106, kl_107, kl_108, kl_109, kl_110, kl_111, kl_112, kl_113, kl_114, kl_115, kl_120, kl_124, kl_126, kl_130, kl_255, kl_720, kl_2048, kl_10000, kl_12345, kl_252645135, kl_858993459, kl_1103515245, kl_1431655765, kl_1640531535, kl_2000000000, y2]
          rfl
        all_goals intro _
        all_goals try (exfalso; first | (rename_i q; exact q trivial) | (rename_i q; exact q) | omega)
      | with_reducible apply wp_oe
        · simp (disch := omega) only [Int.add_zero, Int.zero_add, true_or, or_true, true_and, and_true, not_false_eq_true, not_true_eq_false, if_true, if_false, if_pos, if_neg, ki_add, ki_sub, ki_mul, ki_neg, ki_lt, ki_le, ki_eq, ki_cl, ki_div, ki_ite, ck5, kl_0, kl_1, kl_2, kl_3, kl_4, kl_5, kl_6, kl_7, kl_8, kl_9, kl_10, kl_11, kl_12, kl_13, kl_14, kl_16, kl_20, kl_21, kl_24, kl_29, kl_30, kl_31, kl_33, kl_35, kl_37, kl_38, kl_39, kl_40, kl_41, kl_42, kl_43, kl_44, kl_45, kl_46, kl_47, kl_48, kl_49, kl_50, kl_51, kl_52, kl_53, kl_54, kl_55, kl_56, kl_57, kl_58, kl_59, kl_60, kl_61, kl_62, kl_63, kl_64, kl_70, kl_80, kl_81, kl_97, kl_98, kl_99, kl_100, kl_101, kl_102, kl_103, kl_104, kl_105, kl_106, kl_107, kl_108, kl_109, kl_110, kl_111, kl_112, kl_113, kl_114, kl_115, kl_120, kl_124, kl_126, kl_130, kl_255, kl_720, kl_2048, kl_10000, kl_12345, kl_252645135, kl_858993459, kl_1103515245, kl_1431655765, kl_1640531535, kl_2000000000, y2]
          try rfl
      | with_reducible apply wp_sv
        · (try simp (disch := omega) only [bi, Int.add_zero, Int.zero_add, true_or, or_true, true_and, and_true, not_false_eq_true, not_true_eq_false, if_true, if_false, if_pos, if_neg, ki_add, ki_sub, ki_mul, ki_neg, ki_lt, ki_le, ki_eq, ki_cl, ki_div, ki_ite, ck5, kl_0, kl_1, kl_2, kl_3, kl_4, kl_5, kl_6, kl_7, kl_8, kl_9, kl_10, kl_11, kl_12, kl_13, kl_14, kl_16, kl_20, kl_21, kl_24, kl_29, kl_30, kl_31, kl_33, kl_35, kl_37, kl_38, kl_39, kl_40, kl_41, kl_42, kl_43, kl_44, kl_45, kl_46, kl_47, kl_48, kl_49, kl_50, kl_51, kl_52, kl_53, kl_54, kl_55, kl_56, kl_57, kl_58, kl_59, kl_60, kl_61, kl_62, kl_63, kl_64, kl_70, kl_80, kl_81, kl_97, kl_98, kl_99, kl_100, kl_101, kl_102, kl_103, kl_104, kl_105, kl_106, kl_107, kl_108, kl_109, kl_110, kl_111, kl_112, kl_113, kl_114, kl_115, kl_120, kl_124, kl_126, kl_130, kl_255, kl_720, kl_2048, kl_10000, kl_12345, kl_252645135, kl_858993459, kl_1103515245, kl_1431655765, kl_1640531535, kl_2000000000, y2])
          rfl
      | with_reducible apply wp_so
    all_goals try (simp (disch := omega) only [bi, if_pos, if_neg, Int.add_zero])
    all_goals rfl
  have s3 : ∀ n : Int, f_X12_airOf_20 (ki c) S (ki n) (ki 3) = some (.inl (S, ki (n + bi (byS η (c / 5 + 1) (c % 5))), ki 4)) := by
    intro n
    unfold f_X12_airOf_20 f_X12_airOf_42
    apply wp_eq
    repeat' first
      | with_reducible apply wp_bd
        · (try simp (disch := omega) only [bi, Int.add_zero, Int.zero_add, true_or, or_true, true_and, and_true, not_false_eq_true, not_true_eq_false, if_true, if_false, if_pos, if_neg, ki_add, ki_sub, ki_mul, ki_neg, ki_lt, ki_le, ki_eq, ki_cl, ki_div, ki_ite, ck5, kl_0, kl_1, kl_2, kl_3, kl_4, kl_5, kl_6, kl_7, kl_8, kl_9, kl_10, kl_11, kl_12, kl_13, kl_14, kl_16, kl_20, kl_21, kl_24, kl_29, kl_30, kl_31, kl_33, kl_35, kl_37, kl_38, kl_39, kl_40, kl_41, kl_42, kl_43, kl_44, kl_45, kl_46, kl_47, kl_48, kl_49, kl_50, kl_51, kl_52, kl_53, kl_54, kl_55, kl_56, kl_57, kl_58, kl_59, kl_60, kl_61, kl_62, kl_63, kl_64, kl_70, kl_80, kl_81, kl_97, kl_98, kl_99, kl_100, kl_101, kl_102, kl_103, kl_104, kl_105, kl_106, kl_107, kl_108, kl_109, kl_110, kl_111, kl_112, kl_113, kl_114, kl_115, kl_120, kl_124, kl_126, kl_130, kl_255, kl_720, kl_2048, kl_10000, kl_12345, kl_252645135, kl_858993459, kl_1103515245, kl_1431655765, kl_1640531535, kl_2000000000, y3])
          rfl
      | with_reducible apply wp_in
        · (try simp (disch := omega) only [bi, Int.add_zero, Int.zero_add, true_or, or_true, true_and, and_true, not_false_eq_true, not_true_eq_false, if_true, if_false, if_pos, if_neg, ki_add, ki_sub, ki_mul, ki_neg, ki_lt, ki_le, ki_eq, ki_cl, ki_div, ki_ite, ck5, kl_0, kl_1, kl_2, kl_3, kl_4, kl_5, kl_6, kl_7, kl_8, kl_9, kl_10, kl_11, kl_12, kl_13, kl_14, kl_16, kl_20, kl_21, kl_24, kl_29, kl_30, kl_31, kl_33, kl_35, kl_37, kl_38, kl_39, kl_40, kl_41, kl_42, kl_43, kl_44, kl_45, kl_46, kl_47, kl_48, kl_49, kl_50, kl_51, kl_52, kl_53, kl_54, kl_55, kl_56, kl_57, kl_58, kl_59, kl_60, kl_61, kl_62, kl_63, kl_64, kl_70, kl_80, kl_81, kl_97, kl_98, kl_99, kl_100, kl_101, kl_102, kl_103, kl_104, kl_105, kl_106, kl_107, kl_108, kl_109, kl_110, kl_111, kl_112, kl_113, kl_114, kl_115, kl_120, kl_124, kl_126, kl_130, kl_255, kl_720, kl_2048, kl_10000, kl_12345, kl_252645135, kl_858993459, kl_1103515245, kl_1431655765, kl_1640531535, kl_2000000000, y3])
          rfl
        · decide
        · omega
        · omega
      | with_reducible apply wp_gd
        · (try simp (disch := omega) only [bi, Int.add_zero, Int.zero_add, true_or, or_true, true_and, and_true, not_false_eq_true, not_true_eq_false, if_true, if_false, if_pos, if_neg, ki_add, ki_sub, ki_mul, ki_neg, ki_lt, ki_le, ki_eq, ki_cl, ki_div, ki_ite, ck5, kl_0, kl_1, kl_2, kl_3, kl_4, kl_5, kl_6, kl_7, kl_8, kl_9, kl_10, kl_11, kl_12, kl_13, kl_14, kl_16, kl_20, kl_21, kl_24, kl_29, kl_30, kl_31, kl_33, kl_35, kl_37, kl_38, kl_39, kl_40, kl_41, kl_42, kl_43, kl_44, kl_45, kl_46, kl_47, kl_48, kl_49, kl_50, kl_51, kl_52, kl_53, kl_54, kl_55, kl_56, kl_57, kl_58, kl_59, kl_60, kl_61, kl_62, kl_63, kl_64, kl_70, kl_80, kl_81, kl_97, kl_98, kl_99, kl_100, kl_101, kl_102, kl_103, kl_104, kl_105, kl_106, kl_107, kl_108, kl_109, kl_110, kl_111, kl_112, kl_113, kl_114, kl_115, kl_120, kl_124, kl_126, kl_130, kl_255, kl_720, kl_2048, kl_10000, kl_12345, kl_252645135, kl_858993459, kl_1103515245, kl_1431655765, kl_1640531535, kl_2000000000, y3])
          rfl
        · first | exact True.intro | omega
      | with_reducible apply wp_is
        · (try simp (disch := omega) only [bi, Int.add_zero, Int.zero_add, true_or, or_true, true_and, and_true, not_false_eq_true, not_true_eq_false, if_true, if_false, if_pos, if_neg, ki_add, ki_sub, ki_mul, ki_neg, ki_lt, ki_le, ki_eq, ki_cl, ki_div, ki_ite, ck5, kl_0, kl_1, kl_2, kl_3, kl_4, kl_5, kl_6, kl_7, kl_8, kl_9, kl_10, kl_11, kl_12, kl_13, kl_14, kl_16, kl_20, kl_21, kl_24, kl_29, kl_30, kl_31, kl_33, kl_35, kl_37, kl_38, kl_39, kl_40, kl_41, kl_42, kl_43, kl_44, kl_45, kl_46, kl_47, kl_48, kl_49, kl_50, kl_51, kl_52, kl_53, kl_54, kl_55, kl_56, kl_57, kl_58, kl_59, kl_60, kl_61, kl_62, kl_63, kl_64, kl_70, kl_80, kl_81, kl_97, kl_98, kl_99, kl_100, kl_101, kl_102, kl_103, kl_104, kl_105, kl_106, kl_107, kl_108, kl_109, kl_110, kl_111, kl_112, kl_113, kl_114, kl_115, kl_120, kl_124, kl_126, kl_130, kl_255, kl_720, kl_2048, kl_10000, kl_12345, kl_252645135, kl_858993459, kl_1103515245, kl_1431655765, kl_1640531535, kl_2000000000, y3])
          rfl
        all_goals intro _
        all_goals try (exfalso; first | (rename_i q; exact q trivial) | (rename_i q; exact q) | omega)
      | with_reducible apply wp_mr
      | with_reducible apply wp_b
        · simp (disch := omega) only [Int.add_zero, Int.zero_add, true_or, or_true, true_and, and_true, not_false_eq_true, not_true_eq_false, if_true, if_false, if_pos, if_neg, ki_add, ki_sub, ki_mul, ki_neg, ki_lt, ki_le, ki_eq, ki_cl, ki_div, ki_ite, ck5, kl_0, kl_1, kl_2, kl_3, kl_4, kl_5, kl_6, kl_7, kl_8, kl_9, kl_10, kl_11, kl_12, kl_13, kl_14, kl_16, kl_20, kl_21, kl_24, kl_29, kl_30, kl_31, kl_33, kl_35, kl_37, kl_38, kl_39, kl_40, kl_41, kl_42, kl_43, kl_44, kl_45, kl_46, kl_47, kl_48, kl_49, kl_50, kl_51, kl_52, kl_53, kl_54, kl_55, kl_56, kl_57, kl_58, kl_59, kl_60, kl_61, kl_62, kl_63, kl_64, kl_70, kl_80, kl_81, kl_97, kl_98, kl_99, kl_100, kl_101, kl_102, kl_103, kl_104, kl_105, kl_106, kl_107, kl_108, kl_109, kl_110, kl_111, kl_112, kl_113, kl_114, kl_115, kl_120, kl_124, kl_126, kl_130, kl_255, kl_720, kl_2048, kl_10000, kl_12345, kl_252645135, kl_858993459, kl_1103515245, kl_1431655765, kl_1640531535, kl_2000000000, y3]
          rfl
        all_goals intro _
        all_goals try (exfalso; first | (rename_i q; exact q trivial) | (rename_i q; exact q) | omega)
      | with_reducible apply wp_oe
        · simp (disch := omega) only [Int.add_zero, Int.zero_add, true_or, or_true, true_and, and_true, not_false_eq_true, not_true_eq_false, if_true, if_false, if_pos, if_neg, ki_add, ki_sub, ki_mul, ki_neg, ki_lt, ki_le, ki_eq, ki_cl, ki_div, ki_ite, ck5, kl_0, kl_1, kl_2, kl_3, kl_4, kl_5, kl_6, kl_7, kl_8, kl_9, kl_10, kl_11, kl_12, kl_13, kl_14, kl_16, kl_20, kl_21, kl_24, kl_29, kl_30, kl_31, kl_33, kl_35, kl_37, kl_38, kl_39, kl_40, kl_41, kl_42, kl_43, kl_44, kl_45, kl_46, kl_47, kl_48, kl_49, kl_50, kl_51, kl_52, kl_53, kl_54, kl_55, kl_56, kl_57, kl_58, kl_59, kl_60, kl_61, kl_62, kl_63, kl_64, kl_70, kl_80, kl_81, kl_97, kl_98, kl_99, kl_100, kl_101, kl_102, kl_103, kl_104, kl_105, kl_106, kl_107, kl_108, kl_109, kl_110, kl_111, kl_112, kl_113, kl_114, kl_115, kl_120, kl_124, kl_126, kl_130, kl_255, kl_720, kl_2048, kl_10000, kl_12345, kl_252645135, kl_858993459, kl_1103515245, kl_1431655765, kl_1640531535, kl_2000000000, y3]
          try rfl
      | with_reducible apply wp_sv
        · (try simp (disch := omega) only [bi, Int.add_zero, Int.zero_add, true_or, or_true, true_and, and_true, not_false_eq_true, not_true_eq_false, if_true, if_false, if_pos, if_neg, ki_add, ki_sub, ki_mul, ki_neg, ki_lt, ki_le, ki_eq, ki_cl, ki_div, ki_ite, ck5, kl_0, kl_1, kl_2, kl_3, kl_4, kl_5, kl_6, kl_7, kl_8, kl_9, kl_10, kl_11, kl_12, kl_13, kl_14, kl_16, kl_20, kl_21, kl_24, kl_29, kl_30, kl_31, kl_33, kl_35, kl_37, kl_38, kl_39, kl_40, kl_41, kl_42, kl_43, kl_44, kl_45, kl_46, kl_47, kl_48, kl_49, kl_50, kl_51, kl_52, kl_53, kl_54, kl_55, kl_56, kl_57, kl_58, kl_59, kl_60, kl_61, kl_62, kl_63, kl_64, kl_70, kl_80, kl_81, kl_97, kl_98, kl_99, kl_100, kl_101, kl_102, kl_103, kl_104, kl_105, kl_106, kl_107, kl_108, kl_109, kl_110, kl_111, kl_112, kl_113, kl_114, kl_115, kl_120, kl_124, kl_126, kl_130, kl_255, kl_720, kl_2048, kl_10000, kl_12345, kl_252645135, kl_858993459, kl_1103515245, kl_1431655765, kl_1640531535, kl_2000000000, y3])
          rfl
      | with_reducible apply wp_so
    all_goals try (simp (disch := omega) only [bi, if_pos, if_neg, Int.add_zero])
    all_goals rfl
  have s4 : ∀ n : Int, f_X12_airOf_20 (ki c) S (ki n) (ki 4) = some (.inr (S, ki n)) := by
    intro n
    unfold f_X12_airOf_20
    apply wp_eq
    repeat' first
      | with_reducible apply wp_bd
        · (try simp (disch := omega) only [bi, Int.add_zero, Int.zero_add, true_or, or_true, true_and, and_true, not_false_eq_true, not_true_eq_false, if_true, if_false, if_pos, if_neg, ki_add, ki_sub, ki_mul, ki_neg, ki_lt, ki_le, ki_eq, ki_cl, ki_div, ki_ite, ck5, kl_0, kl_1, kl_2, kl_3, kl_4, kl_5, kl_6, kl_7, kl_8, kl_9, kl_10, kl_11, kl_12, kl_13, kl_14, kl_16, kl_20, kl_21, kl_24, kl_29, kl_30, kl_31, kl_33, kl_35, kl_37, kl_38, kl_39, kl_40, kl_41, kl_42, kl_43, kl_44, kl_45, kl_46, kl_47, kl_48, kl_49, kl_50, kl_51, kl_52, kl_53, kl_54, kl_55, kl_56, kl_57, kl_58, kl_59, kl_60, kl_61, kl_62, kl_63, kl_64, kl_70, kl_80, kl_81, kl_97, kl_98, kl_99, kl_100, kl_101, kl_102, kl_103, kl_104, kl_105, kl_106, kl_107, kl_108, kl_109, kl_110, kl_111, kl_112, kl_113, kl_114, kl_115, kl_120, kl_124, kl_126, kl_130, kl_255, kl_720, kl_2048, kl_10000, kl_12345, kl_252645135, kl_858993459, kl_1103515245, kl_1431655765, kl_1640531535, kl_2000000000])
          rfl
      | with_reducible apply wp_in
        · (try simp (disch := omega) only [bi, Int.add_zero, Int.zero_add, true_or, or_true, true_and, and_true, not_false_eq_true, not_true_eq_false, if_true, if_false, if_pos, if_neg, ki_add, ki_sub, ki_mul, ki_neg, ki_lt, ki_le, ki_eq, ki_cl, ki_div, ki_ite, ck5, kl_0, kl_1, kl_2, kl_3, kl_4, kl_5, kl_6, kl_7, kl_8, kl_9, kl_10, kl_11, kl_12, kl_13, kl_14, kl_16, kl_20, kl_21, kl_24, kl_29, kl_30, kl_31, kl_33, kl_35, kl_37, kl_38, kl_39, kl_40, kl_41, kl_42, kl_43, kl_44, kl_45, kl_46, kl_47, kl_48, kl_49, kl_50, kl_51, kl_52, kl_53, kl_54, kl_55, kl_56, kl_57, kl_58, kl_59, kl_60, kl_61, kl_62, kl_63, kl_64, kl_70, kl_80, kl_81, kl_97, kl_98, kl_99, kl_100, kl_101, kl_102, kl_103, kl_104, kl_105, kl_106, kl_107, kl_108, kl_109, kl_110, kl_111, kl_112, kl_113, kl_114, kl_115, kl_120, kl_124, kl_126, kl_130, kl_255, kl_720, kl_2048, kl_10000, kl_12345, kl_252645135, kl_858993459, kl_1103515245, kl_1431655765, kl_1640531535, kl_2000000000])
          rfl
        · decide
        · omega
        · omega
      | with_reducible apply wp_gd
        · (try simp (disch := omega) only [bi, Int.add_zero, Int.zero_add, true_or, or_true, true_and, and_true, not_false_eq_true, not_true_eq_false, if_true, if_false, if_pos, if_neg, ki_add, ki_sub, ki_mul, ki_neg, ki_lt, ki_le, ki_eq, ki_cl, ki_div, ki_ite, ck5, kl_0, kl_1, kl_2, kl_3, kl_4, kl_5, kl_6, kl_7, kl_8, kl_9, kl_10, kl_11, kl_12, kl_13, kl_14, kl_16, kl_20, kl_21, kl_24, kl_29, kl_30, kl_31, kl_33, kl_35, kl_37, kl_38, kl_39, kl_40, kl_41, kl_42, kl_43, kl_44, kl_45, kl_46, kl_47, kl_48, kl_49, kl_50, kl_51, kl_52, kl_53, kl_54, kl_55, kl_56, kl_57, kl_58, kl_59, kl_60, kl_61, kl_62, kl_63, kl_64, kl_70, kl_80, kl_81, kl_97, kl_98, kl_99, kl_100, kl_101, kl_102, kl_103, kl_104, kl_105, kl_106, kl_107, kl_108, kl_109, kl_110, kl_111, kl_112, kl_113, kl_114, kl_115, kl_120, kl_124, kl_126, kl_130, kl_255, kl_720, kl_2048, kl_10000, kl_12345, kl_252645135, kl_858993459, kl_1103515245, kl_1431655765, kl_1640531535, kl_2000000000])
          rfl
        · first | exact True.intro | omega
      | with_reducible apply wp_is
        · (try simp (disch := omega) only [bi, Int.add_zero, Int.zero_add, true_or, or_true, true_and, and_true, not_false_eq_true, not_true_eq_false, if_true, if_false, if_pos, if_neg, ki_add, ki_sub, ki_mul, ki_neg, ki_lt, ki_le, ki_eq, ki_cl, ki_div, ki_ite, ck5, kl_0, kl_1, kl_2, kl_3, kl_4, kl_5, kl_6, kl_7, kl_8, kl_9, kl_10, kl_11, kl_12, kl_13, kl_14, kl_16, kl_20, kl_21, kl_24, kl_29, kl_30, kl_31, kl_33, kl_35, kl_37, kl_38, kl_39, kl_40, kl_41, kl_42, kl_43, kl_44, kl_45, kl_46, kl_47, kl_48, kl_49, kl_50, kl_51, kl_52, kl_53, kl_54, kl_55, kl_56, kl_57, kl_58, kl_59, kl_60, kl_61, kl_62, kl_63, kl_64, kl_70, kl_80, kl_81, kl_97, kl_98, kl_99, kl_100, kl_101, kl_102, kl_103, kl_104, kl_105, kl_106, kl_107, kl_108, kl_109, kl_110, kl_111, kl_112, kl_113, kl_114, kl_115, kl_120, kl_124, kl_126, kl_130, kl_255, kl_720, kl_2048, kl_10000, kl_12345, kl_252645135, kl_858993459, kl_1103515245, kl_1431655765, kl_1640531535, kl_2000000000])
          rfl
        all_goals intro _
        all_goals try (exfalso; first | (rename_i q; exact q trivial) | (rename_i q; exact q) | omega)
      | with_reducible apply wp_mr
      | with_reducible apply wp_b
        · simp (disch := omega) only [Int.add_zero, Int.zero_add, true_or, or_true, true_and, and_true, not_false_eq_true, not_true_eq_false, if_true, if_false, if_pos, if_neg, ki_add, ki_sub, ki_mul, ki_neg, ki_lt, ki_le, ki_eq, ki_cl, ki_div, ki_ite, ck5, kl_0, kl_1, kl_2, kl_3, kl_4, kl_5, kl_6, kl_7, kl_8, kl_9, kl_10, kl_11, kl_12, kl_13, kl_14, kl_16, kl_20, kl_21, kl_24, kl_29, kl_30, kl_31, kl_33, kl_35, kl_37, kl_38, kl_39, kl_40, kl_41, kl_42, kl_43, kl_44, kl_45, kl_46, kl_47, kl_48, kl_49, kl_50, kl_51, kl_52, kl_53, kl_54, kl_55, kl_56, kl_57, kl_58, kl_59, kl_60, kl_61, kl_62, kl_63, kl_64, kl_70, kl_80, kl_81, kl_97, kl_98, kl_99, kl_100, kl_101, kl_102, kl_103, kl_104, kl_105, kl_106, kl_107, kl_108, kl_109, kl_110, kl_111, kl_112, kl_113, kl_114, kl_115, kl_120, kl_124, kl_126, kl_130, kl_255, kl_720, kl_2048, kl_10000, kl_12345, kl_252645135, kl_858993459, kl_1103515245, kl_1431655765, kl_1640531535, kl_2000000000]
          rfl
        all_goals intro _
        all_goals try (exfalso; first | (rename_i q; exact q trivial) | (rename_i q; exact q) | omega)
      | with_reducible apply wp_oe
        · simp (disch := omega) only [Int.add_zero, Int.zero_add, true_or, or_true, true_and, and_true, not_false_eq_true, not_true_eq_false, if_true, if_false, if_pos, if_neg, ki_add, ki_sub, ki_mul, ki_neg, ki_lt, ki_le, ki_eq, ki_cl, ki_div, ki_ite, ck5, kl_0, kl_1, kl_2, kl_3, kl_4, kl_5, kl_6, kl_7, kl_8, kl_9, kl_10, kl_11, kl_12, kl_13, kl_14, kl_16, kl_20, kl_21, kl_24, kl_29, kl_30, kl_31, kl_33, kl_35, kl_37, kl_38, kl_39, kl_40, kl_41, kl_42, kl_43, kl_44, kl_45, kl_46, kl_47, kl_48, kl_49, kl_50, kl_51, kl_52, kl_53, kl_54, kl_55, kl_56, kl_57, kl_58, kl_59, kl_60, kl_61, kl_62, kl_63, kl_64, kl_70, kl_80, kl_81, kl_97, kl_98, kl_99, kl_100, kl_101, kl_102, kl_103, kl_104, kl_105, kl_106, kl_107, kl_108, kl_109, kl_110, kl_111, kl_112, kl_113, kl_114, kl_115, kl_120, kl_124, kl_126, kl_130, kl_255, kl_720, kl_2048, kl_10000, kl_12345, kl_252645135, kl_858993459, kl_1103515245, kl_1431655765, kl_1640531535, kl_2000000000]
          try rfl
      | with_reducible apply wp_sv
        · (try simp (disch := omega) only [bi, Int.add_zero, Int.zero_add, true_or, or_true, true_and, and_true, not_false_eq_true, not_true_eq_false, if_true, if_false, if_pos, if_neg, ki_add, ki_sub, ki_mul, ki_neg, ki_lt, ki_le, ki_eq, ki_cl, ki_div, ki_ite, ck5, kl_0, kl_1, kl_2, kl_3, kl_4, kl_5, kl_6, kl_7, kl_8, kl_9, kl_10, kl_11, kl_12, kl_13, kl_14, kl_16, kl_20, kl_21, kl_24, kl_29, kl_30, kl_31, kl_33, kl_35, kl_37, kl_38, kl_39, kl_40, kl_41, kl_42, kl_43, kl_44, kl_45, kl_46, kl_47, kl_48, kl_49, kl_50, kl_51, kl_52, kl_53, kl_54, kl_55, kl_56, kl_57, kl_58, kl_59, kl_60, kl_61, kl_62, kl_63, kl_64, kl_70, kl_80, kl_81, kl_97, kl_98, kl_99, kl_100, kl_101, kl_102, kl_103, kl_104, kl_105, kl_106, kl_107, kl_108, kl_109, kl_110, kl_111, kl_112, kl_113, kl_114, kl_115, kl_120, kl_124, kl_126, kl_130, kl_255, kl_720, kl_2048, kl_10000, kl_12345, kl_252645135, kl_858993459, kl_1103515245, kl_1431655765, kl_1640531535, kl_2000000000])
          rfl
      | with_reducible apply wp_so
    all_goals rfl
  have s5 : ∀ n : Int, f_X12_airOf_17 (ki c) (ki n) S = some (S, ki (n + bi (byS η (c / 5) (c % 5 + 1)) + 0 + bi (byS η (c / 5 - 1) (c % 5)) + bi (byS η (c / 5 + 1) (c % 5)))) := by
    intro n
    unfold f_X12_airOf_17
    exact xlp_g _ (s0 _) (xlp_g _ (s1 _) (xlp_g _ (s2 _) (xlp_g _ (s3 _) (xlp_e (s4 _)))))
  unfold f_X12_airOf f_X12_airOf_0 airS
  apply wp_eq
  repeat' first
    | with_reducible apply wp_bd
      · (try simp (disch := omega) only [bi, Int.add_zero, Int.zero_add, true_or, or_true, true_and, and_true, not_false_eq_true, not_true_eq_false, if_true, if_false, if_pos, if_neg, ki_add, ki_sub, ki_mul, ki_neg, ki_lt, ki_le, ki_eq, ki_cl, ki_div, ki_ite, ck5, kl_0, kl_1, kl_2, kl_3, kl_4, kl_5, kl_6, kl_7, kl_8, kl_9, kl_10, kl_11, kl_12, kl_13, kl_14, kl_16, kl_20, kl_21, kl_24, kl_29, kl_30, kl_31, kl_33, kl_35, kl_37, kl_38, kl_39, kl_40, kl_41, kl_42, kl_43, kl_44, kl_45, kl_46, kl_47, kl_48, kl_49, kl_50, kl_51, kl_52, kl_53, kl_54, kl_55, kl_56, kl_57, kl_58, kl_59, kl_60, kl_61, kl_62, kl_63, kl_64, kl_70, kl_80, kl_81, kl_97, kl_98, kl_99, kl_100, kl_101, kl_102, kl_103, kl_104, kl_105, kl_106, kl_107, kl_108, kl_109, kl_110, kl_111, kl_112, kl_113, kl_114, kl_115, kl_120, kl_124, kl_126, kl_130, kl_255, kl_720, kl_2048, kl_10000, kl_12345, kl_252645135, kl_858993459, kl_1103515245, kl_1431655765, kl_1640531535, kl_2000000000, r2])
        rfl
    | with_reducible apply wp_in
      · (try simp (disch := omega) only [bi, Int.add_zero, Int.zero_add, true_or, or_true, true_and, and_true, not_false_eq_true, not_true_eq_false, if_true, if_false, if_pos, if_neg, ki_add, ki_sub, ki_mul, ki_neg, ki_lt, ki_le, ki_eq, ki_cl, ki_div, ki_ite, ck5, kl_0, kl_1, kl_2, kl_3, kl_4, kl_5, kl_6, kl_7, kl_8, kl_9, kl_10, kl_11, kl_12, kl_13, kl_14, kl_16, kl_20, kl_21, kl_24, kl_29, kl_30, kl_31, kl_33, kl_35, kl_37, kl_38, kl_39, kl_40, kl_41, kl_42, kl_43, kl_44, kl_45, kl_46, kl_47, kl_48, kl_49, kl_50, kl_51, kl_52, kl_53, kl_54, kl_55, kl_56, kl_57, kl_58, kl_59, kl_60, kl_61, kl_62, kl_63, kl_64, kl_70, kl_80, kl_81, kl_97, kl_98, kl_99, kl_100, kl_101, kl_102, kl_103, kl_104, kl_105, kl_106, kl_107, kl_108, kl_109, kl_110, kl_111, kl_112, kl_113, kl_114, kl_115, kl_120, kl_124, kl_126, kl_130, kl_255, kl_720, kl_2048, kl_10000, kl_12345, kl_252645135, kl_858993459, kl_1103515245, kl_1431655765, kl_1640531535, kl_2000000000, r2])
        rfl
      · decide
      · omega
      · omega
    | with_reducible apply wp_gd
      · (try simp (disch := omega) only [bi, Int.add_zero, Int.zero_add, true_or, or_true, true_and, and_true, not_false_eq_true, not_true_eq_false, if_true, if_false, if_pos, if_neg, ki_add, ki_sub, ki_mul, ki_neg, ki_lt, ki_le, ki_eq, ki_cl, ki_div, ki_ite, ck5, kl_0, kl_1, kl_2, kl_3, kl_4, kl_5, kl_6, kl_7, kl_8, kl_9, kl_10, kl_11, kl_12, kl_13, kl_14, kl_16, kl_20, kl_21, kl_24, kl_29, kl_30, kl_31, kl_33, kl_35, kl_37, kl_38, kl_39, kl_40, kl_41, kl_42, kl_43, kl_44, kl_45, kl_46, kl_47, kl_48, kl_49, kl_50, kl_51, kl_52, kl_53, kl_54, kl_55, kl_56, kl_57, kl_58, kl_59, kl_60, kl_61, kl_62, kl_63, kl_64, kl_70, kl_80, kl_81, kl_97, kl_98, kl_99, kl_100, kl_101, kl_102, kl_103, kl_104, kl_105, kl_106, kl_107, kl_108, kl_109, kl_110, kl_111, kl_112, kl_113, kl_114, kl_115, kl_120, kl_124, kl_126, kl_130, kl_255, kl_720, kl_2048, kl_10000, kl_12345, kl_252645135, kl_858993459, kl_1103515245, kl_1431655765, kl_1640531535, kl_2000000000, r2])
        rfl
      · first | exact True.intro | omega
    | with_reducible apply wp_is
      · (try simp (disch := omega) only [bi, Int.add_zero, Int.zero_add, true_or, or_true, true_and, and_true, not_false_eq_true, not_true_eq_false, if_true, if_false, if_pos, if_neg, ki_add, ki_sub, ki_mul, ki_neg, ki_lt, ki_le, ki_eq, ki_cl, ki_div, ki_ite, ck5, kl_0, kl_1, kl_2, kl_3, kl_4, kl_5, kl_6, kl_7, kl_8, kl_9, kl_10, kl_11, kl_12, kl_13, kl_14, kl_16, kl_20, kl_21, kl_24, kl_29, kl_30, kl_31, kl_33, kl_35, kl_37, kl_38, kl_39, kl_40, kl_41, kl_42, kl_43, kl_44, kl_45, kl_46, kl_47, kl_48, kl_49, kl_50, kl_51, kl_52, kl_53, kl_54, kl_55, kl_56, kl_57, kl_58, kl_59, kl_60, kl_61, kl_62, kl_63, kl_64, kl_70, kl_80, kl_81, kl_97, kl_98, kl_99, kl_100, kl_101, kl_102, kl_103, kl_104, kl_105, kl_106, kl_107, kl_108, kl_109, kl_110, kl_111, kl_112, kl_113, kl_114, kl_115, kl_120, kl_124, kl_126, kl_130, kl_255, kl_720, kl_2048, kl_10000, kl_12345, kl_252645135, kl_858993459, kl_1103515245, kl_1431655765, kl_1640531535, kl_2000000000, r2])
        rfl
      all_goals intro _
      all_goals try (exfalso; first | (rename_i q; exact q trivial) | (rename_i q; exact q) | omega)
    | with_reducible apply wp_mr
    | with_reducible apply wp_b
      · simp (disch := omega) only [Int.add_zero, Int.zero_add, true_or, or_true, true_and, and_true, not_false_eq_true, not_true_eq_false, if_true, if_false, if_pos, if_neg, ki_add, ki_sub, ki_mul, ki_neg, ki_lt, ki_le, ki_eq, ki_cl, ki_div, ki_ite, ck5, kl_0, kl_1, kl_2, kl_3, kl_4, kl_5, kl_6, kl_7, kl_8, kl_9, kl_10, kl_11, kl_12, kl_13, kl_14, kl_16, kl_20, kl_21, kl_24, kl_29, kl_30, kl_31, kl_33, kl_35, kl_37, kl_38, kl_39, kl_40, kl_41, kl_42, kl_43, kl_44, kl_45, kl_46, kl_47, kl_48, kl_49, kl_50, kl_51, kl_52, kl_53, kl_54, kl_55, kl_56, kl_57, kl_58, kl_59, kl_60, kl_61, kl_62, kl_63, kl_64, kl_70, kl_80, kl_81, kl_97, kl_98, kl_99, kl_100, kl_101, kl_102, kl_103, kl_104, kl_105, kl_106, kl_107, kl_108, kl_109, kl_110, kl_111, kl_112, kl_113, kl_114, kl_115, kl_120, kl_124, kl_126, kl_130, kl_255, kl_720, kl_2048, kl_10000, kl_12345, kl_252645135, kl_858993459, kl_1103515245, kl_1431655765, kl_1640531535, kl_2000000000, r2]
        rfl
      all_goals intro _
      all_goals try (exfalso; first | (rename_i q; exact q trivial) | (rename_i q; exact q) | omega)
    | with_reducible apply wp_oe
      · simp (disch := omega) only [Int.add_zero, Int.zero_add, true_or, or_true, true_and, and_true, not_false_eq_true, not_true_eq_false, if_true, if_false, if_pos, if_neg, ki_add, ki_sub, ki_mul, ki_neg, ki_lt, ki_le, ki_eq, ki_cl, ki_div, ki_ite, ck5, kl_0, kl_1, kl_2, kl_3, kl_4, kl_5, kl_6, kl_7, kl_8, kl_9, kl_10, kl_11, kl_12, kl_13, kl_14, kl_16, kl_20, kl_21, kl_24, kl_29, kl_30, kl_31, kl_33, kl_35, kl_37, kl_38, kl_39, kl_40, kl_41, kl_42, kl_43, kl_44, kl_45, kl_46, kl_47, kl_48, kl_49, kl_50, kl_51, kl_52, kl_53, kl_54, kl_55, kl_56, kl_57, kl_58, kl_59, kl_60, kl_61, kl_62, kl_63, kl_64, kl_70, kl_80, kl_81, kl_97, kl_98, kl_99, kl_100, kl_101, kl_102, kl_103, kl_104, kl_105, kl_106, kl_107, kl_108, kl_109, kl_110, kl_111, kl_112, kl_113, kl_114, kl_115, kl_120, kl_124, kl_126, kl_130, kl_255, kl_720, kl_2048, kl_10000, kl_12345, kl_252645135, kl_858993459, kl_1103515245, kl_1431655765, kl_1640531535, kl_2000000000, r2]
        try rfl
    | with_reducible apply wp_sv
      · (try simp (disch := omega) only [bi, Int.add_zero, Int.zero_add, true_or, or_true, true_and, and_true, not_false_eq_true, not_true_eq_false, if_true, if_false, if_pos, if_neg, ki_add, ki_sub, ki_mul, ki_neg, ki_lt, ki_le, ki_eq, ki_cl, ki_div, ki_ite, ck5, kl_0, kl_1, kl_2, kl_3, kl_4, kl_5, kl_6, kl_7, kl_8, kl_9, kl_10, kl_11, kl_12, kl_13, kl_14, kl_16, kl_20, kl_21, kl_24, kl_29, kl_30, kl_31, kl_33, kl_35, kl_37, kl_38, kl_39, kl_40, kl_41, kl_42, kl_43, kl_44, kl_45, kl_46, kl_47, kl_48, kl_49, kl_50, kl_51, kl_52, kl_53, kl_54, kl_55, kl_56, kl_57, kl_58, kl_59, kl_60, kl_61, kl_62, kl_63, kl_64, kl_70, kl_80, kl_81, kl_97, kl_98, kl_99, kl_100, kl_101, kl_102, kl_103, kl_104, kl_105, kl_106, kl_107, kl_108, kl_109, kl_110, kl_111, kl_112, kl_113, kl_114, kl_115, kl_120, kl_124, kl_126, kl_130, kl_255, kl_720, kl_2048, kl_10000, kl_12345, kl_252645135, kl_858993459, kl_1103515245, kl_1431655765, kl_1640531535, kl_2000000000, r2])
        rfl
    | with_reducible apply wp_so
  · rw [kl_0, s5]
    exact wp_so (sk (by omega))
  · rw [kl_2, s5]
    exact wp_so (sk (by omega))
theorem sumS_b {η : Hy} (hw : wf η) (c : Int) : 0 ≤ sumS η c ∧ sumS η c < 400 := by
  have q0 := hw.2.2.2.1 (c - 1)
  have q1 := hw.2.2.2.1 (c + 1)
  have q2 := hw.2.2.2.1 (c - 5)
  have q3 := hw.2.2.2.1 (c + 5)
  have i0 : 0 ≤ (if 0 < c % 5 then η 4 (c - 1) else 0) ∧ (if 0 < c % 5 then η 4 (c - 1) else 0) ≤ 99 := by split <;> omega
  have i1 : 0 ≤ (if ¬ byS η (c / 5) (c % 5 + 1) then η 4 (c + 1) else 0) ∧ (if ¬ byS η (c / 5) (c % 5 + 1) then η 4 (c + 1) else 0) ≤ 99 := by split <;> omega
  have i2 : 0 ≤ (if ¬ byS η (c / 5 - 1) (c % 5) then η 4 (c - 5) else 0) ∧ (if ¬ byS η (c / 5 - 1) (c % 5) then η 4 (c - 5) else 0) ≤ 99 := by split <;> omega
  have i3 : 0 ≤ (if ¬ byS η (c / 5 + 1) (c % 5) then η 4 (c + 5) else 0) ∧ (if ¬ byS η (c / 5 + 1) (c % 5) then η 4 (c + 5) else 0) ≤ 99 := by split <;> omega
  unfold sumS
  generalize (if 0 < c % 5 then η 4 (c - 1) else 0) = a at *
  generalize (if ¬ byS η (c / 5) (c % 5 + 1) then η 4 (c + 1) else 0) = b at *
  generalize (if ¬ byS η (c / 5 - 1) (c % 5) then η 4 (c - 5) else 0) = d at *
  generalize (if ¬ byS η (c / 5 + 1) (c % 5) then η 4 (c + 5) else 0) = e at *
  omega
theorem m_mean {η : Hy} {S : xSt} (h : hm η S) (hw : wf η) {c : Int} (hc : hasS η c) : f_X12_meanBeside S (ki c) = some (S, ki (meanS η c)) := by
  have r4 := h.2.2.2.1
  unfold vw at r4
  have c1 := hc.1
  have c2 := hc.2.1
  have h0 := hw.1 (c / 5)
  have q0 := hw.2.2.2.1 (c - 1)
  have q1 := hw.2.2.2.1 (c + 1)
  have q2 := hw.2.2.2.1 (c - 5)
  have q3 := hw.2.2.2.1 (c + 5)
  have y0 := m_bes0 h hw c1 c2
  have y1 := m_bes1 h hw hc
  have y2 := m_bes2 h hw c1 c2
  have y3 := m_bes3 h hw c1 c2
  have s0 : ∀ n v : Int, 0 ≤ n → n < 9 → 0 ≤ v → v < 900 → f_X12_meanBeside_7 (ki c) S (ki n) (ki v) (ki 0) = some (.inl (S, ki (n + bi (¬ byS η (c / 5) (c % 5 + 1))), ki (v + (if ¬ byS η (c / 5) (c % 5 + 1) then η 4 (c + 1) else 0)), ki 1)) := by
    intro n v n1 n2 v1 v2
    unfold f_X12_meanBeside_7 f_X12_meanBeside_43
    apply wp_eq
    repeat' first
      | with_reducible apply wp_bd
        · (try simp (disch := omega) only [bi, Int.add_zero, Int.zero_add, true_or, or_true, true_and, and_true, not_false_eq_true, not_true_eq_false, if_true, if_false, if_pos, if_neg, ki_add, ki_sub, ki_mul, ki_neg, ki_lt, ki_le, ki_eq, ki_cl, ki_div, ki_ite, ck5, kl_0, kl_1, kl_2, kl_3, kl_4, kl_5, kl_6, kl_7, kl_8, kl_9, kl_10, kl_11, kl_12, kl_13, kl_14, kl_16, kl_20, kl_21, kl_24, kl_29, kl_30, kl_31, kl_33, kl_35, kl_37, kl_38, kl_39, kl_40, kl_41, kl_42, kl_43, kl_44, kl_45, kl_46, kl_47, kl_48, kl_49, kl_50, kl_51, kl_52, kl_53, kl_54, kl_55, kl_56, kl_57, kl_58, kl_59, kl_60, kl_61, kl_62, kl_63, kl_64, kl_70, kl_80, kl_81, kl_97, kl_98, kl_99, kl_100, kl_101, kl_102, kl_103, kl_104, kl_105, kl_106, kl_107, kl_108, kl_109, kl_110, kl_111, kl_112, kl_113, kl_114, kl_115, kl_120, kl_124, kl_126, kl_130, kl_255, kl_720, kl_2048, kl_10000, kl_12345, kl_252645135, kl_858993459, kl_1103515245, kl_1431655765, kl_1640531535, kl_2000000000, y0, r4])
          rfl
      | with_reducible apply wp_in
        · (try simp (disch := omega) only [bi, Int.add_zero, Int.zero_add, true_or, or_true, true_and, and_true, not_false_eq_true, not_true_eq_false, if_true, if_false, if_pos, if_neg, ki_add, ki_sub, ki_mul, ki_neg, ki_lt, ki_le, ki_eq, ki_cl, ki_div, ki_ite, ck5, kl_0, kl_1, kl_2, kl_3, kl_4, kl_5, kl_6, kl_7, kl_8, kl_9, kl_10, kl_11, kl_12, kl_13, kl_14, kl_16, kl_20, kl_21, kl_24, kl_29, kl_30, kl_31, kl_33, kl_35, kl_37, kl_38, kl_39, kl_40, kl_41, kl_42, kl_43, kl_44, kl_45, kl_46, kl_47, kl_48, kl_49, kl_50, kl_51, kl_52, kl_53, kl_54, kl_55, kl_56, kl_57, kl_58, kl_59, kl_60, kl_61, kl_62, kl_63, kl_64, kl_70, kl_80, kl_81, kl_97, kl_98, kl_99, kl_100, kl_101, kl_102, kl_103, kl_104, kl_105, kl_106, kl_107, kl_108, kl_109, kl_110, kl_111, kl_112, kl_113, kl_114, kl_115, kl_120, kl_124, kl_126, kl_130, kl_255, kl_720, kl_2048, kl_10000, kl_12345, kl_252645135, kl_858993459, kl_1103515245, kl_1431655765, kl_1640531535, kl_2000000000, y0, r4])
          rfl
        · decide
        · omega
        · omega
      | with_reducible apply wp_gd
        · (try simp (disch := omega) only [bi, Int.add_zero, Int.zero_add, true_or, or_true, true_and, and_true, not_false_eq_true, not_true_eq_false, if_true, if_false, if_pos, if_neg, ki_add, ki_sub, ki_mul, ki_neg, ki_lt, ki_le, ki_eq, ki_cl, ki_div, ki_ite, ck5, kl_0, kl_1, kl_2, kl_3, kl_4, kl_5, kl_6, kl_7, kl_8, kl_9, kl_10, kl_11, kl_12, kl_13, kl_14, kl_16, kl_20, kl_21, kl_24, kl_29, kl_30, kl_31, kl_33, kl_35, kl_37, kl_38, kl_39, kl_40, kl_41, kl_42, kl_43, kl_44, kl_45, kl_46, kl_47, kl_48, kl_49, kl_50, kl_51, kl_52, kl_53, kl_54, kl_55, kl_56, kl_57, kl_58, kl_59, kl_60, kl_61, kl_62, kl_63, kl_64, kl_70, kl_80, kl_81, kl_97, kl_98, kl_99, kl_100, kl_101, kl_102, kl_103, kl_104, kl_105, kl_106, kl_107, kl_108, kl_109, kl_110, kl_111, kl_112, kl_113, kl_114, kl_115, kl_120, kl_124, kl_126, kl_130, kl_255, kl_720, kl_2048, kl_10000, kl_12345, kl_252645135, kl_858993459, kl_1103515245, kl_1431655765, kl_1640531535, kl_2000000000, y0, r4])
          rfl
        · first | exact True.intro | omega
      | with_reducible apply wp_is
        · (try simp (disch := omega) only [bi, Int.add_zero, Int.zero_add, true_or, or_true, true_and, and_true, not_false_eq_true, not_true_eq_false, if_true, if_false, if_pos, if_neg, ki_add, ki_sub, ki_mul, ki_neg, ki_lt, ki_le, ki_eq, ki_cl, ki_div, ki_ite, ck5, kl_0, kl_1, kl_2, kl_3, kl_4, kl_5, kl_6, kl_7, kl_8, kl_9, kl_10, kl_11, kl_12, kl_13, kl_14, kl_16, kl_20, kl_21, kl_24, kl_29, kl_30, kl_31, kl_33, kl_35, kl_37, kl_38, kl_39, kl_40, kl_41, kl_42, kl_43, kl_44, kl_45, kl_46, kl_47, kl_48, kl_49, kl_50, kl_51, kl_52, kl_53, kl_54, kl_55, kl_56, kl_57, kl_58, kl_59, kl_60, kl_61, kl_62, kl_63, kl_64, kl_70, kl_80, kl_81, kl_97, kl_98, kl_99, kl_100, kl_101, kl_102, kl_103, kl_104, kl_105, kl_106, kl_107, kl_108, kl_109, kl_110, kl_111, kl_112, kl_113, kl_114, kl_115, kl_120, kl_124, kl_126, kl_130, kl_255, kl_720, kl_2048, kl_10000, kl_12345, kl_252645135, kl_858993459, kl_1103515245, kl_1431655765, kl_1640531535, kl_2000000000, y0, r4])
          rfl
        all_goals intro _
        all_goals try (exfalso; first | (rename_i q; exact q trivial) | (rename_i q; exact q) | omega)
      | with_reducible apply wp_mr
      | with_reducible apply wp_b
        · simp (disch := omega) only [Int.add_zero, Int.zero_add, true_or, or_true, true_and, and_true, not_false_eq_true, not_true_eq_false, if_true, if_false, if_pos, if_neg, ki_add, ki_sub, ki_mul, ki_neg, ki_lt, ki_le, ki_eq, ki_cl, ki_div, ki_ite, ck5, kl_0, kl_1, kl_2, kl_3, kl_4, kl_5, kl_6, kl_7, kl_8, kl_9, kl_10, kl_11, kl_12, kl_13, kl_14, kl_16, kl_20, kl_21, kl_24, kl_29, kl_30, kl_31, kl_33, kl_35, kl_37, kl_38, kl_39, kl_40, kl_41, kl_42, kl_43, kl_44, kl_45, kl_46, kl_47, kl_48, kl_49, kl_50, kl_51, kl_52, kl_53, kl_54, kl_55, kl_56, kl_57, kl_58, kl_59, kl_60, kl_61, kl_62, kl_63, kl_64, kl_70, kl_80, kl_81, kl_97, kl_98, kl_99, kl_100, kl_101, kl_102, kl_103, kl_104, kl_105, kl_106, kl_107, kl_108, kl_109, kl_110, kl_111, kl_112, kl_113, kl_114, kl_115, kl_120, kl_124, kl_126, kl_130, kl_255, kl_720, kl_2048, kl_10000, kl_12345, kl_252645135, kl_858993459, kl_1103515245, kl_1431655765, kl_1640531535, kl_2000000000, y0, r4]
          rfl
        all_goals intro _
        all_goals try (exfalso; first | (rename_i q; exact q trivial) | (rename_i q; exact q) | omega)
      | with_reducible apply wp_oe
        · simp (disch := omega) only [Int.add_zero, Int.zero_add, true_or, or_true, true_and, and_true, not_false_eq_true, not_true_eq_false, if_true, if_false, if_pos, if_neg, ki_add, ki_sub, ki_mul, ki_neg, ki_lt, ki_le, ki_eq, ki_cl, ki_div, ki_ite, ck5, kl_0, kl_1, kl_2, kl_3, kl_4, kl_5, kl_6, kl_7, kl_8, kl_9, kl_10, kl_11, kl_12, kl_13, kl_14, kl_16, kl_20, kl_21, kl_24, kl_29, kl_30, kl_31, kl_33, kl_35, kl_37, kl_38, kl_39, kl_40, kl_41, kl_42, kl_43, kl_44, kl_45, kl_46, kl_47, kl_48, kl_49, kl_50, kl_51, kl_52, kl_53, kl_54, kl_55, kl_56, kl_57, kl_58, kl_59, kl_60, kl_61, kl_62, kl_63, kl_64, kl_70, kl_80, kl_81, kl_97, kl_98, kl_99, kl_100, kl_101, kl_102, kl_103, kl_104, kl_105, kl_106, kl_107, kl_108, kl_109, kl_110, kl_111, kl_112, kl_113, kl_114, kl_115, kl_120, kl_124, kl_126, kl_130, kl_255, kl_720, kl_2048, kl_10000, kl_12345, kl_252645135, kl_858993459, kl_1103515245, kl_1431655765, kl_1640531535, kl_2000000000, y0, r4]
          try rfl
      | with_reducible apply wp_sv
        · (try simp (disch := omega) only [bi, Int.add_zero, Int.zero_add, true_or, or_true, true_and, and_true, not_false_eq_true, not_true_eq_false, if_true, if_false, if_pos, if_neg, ki_add, ki_sub, ki_mul, ki_neg, ki_lt, ki_le, ki_eq, ki_cl, ki_div, ki_ite, ck5, kl_0, kl_1, kl_2, kl_3, kl_4, kl_5, kl_6, kl_7, kl_8, kl_9, kl_10, kl_11, kl_12, kl_13, kl_14, kl_16, kl_20, kl_21, kl_24, kl_29, kl_30, kl_31, kl_33, kl_35, kl_37, kl_38, kl_39, kl_40, kl_41, kl_42, kl_43, kl_44, kl_45, kl_46, kl_47, kl_48, kl_49, kl_50, kl_51, kl_52, kl_53, kl_54, kl_55, kl_56, kl_57, kl_58, kl_59, kl_60, kl_61, kl_62, kl_63, kl_64, kl_70, kl_80, kl_81, kl_97, kl_98, kl_99, kl_100, kl_101, kl_102, kl_103, kl_104, kl_105, kl_106, kl_107, kl_108, kl_109, kl_110, kl_111, kl_112, kl_113, kl_114, kl_115, kl_120, kl_124, kl_126, kl_130, kl_255, kl_720, kl_2048, kl_10000, kl_12345, kl_252645135, kl_858993459, kl_1103515245, kl_1431655765, kl_1640531535, kl_2000000000, y0, r4])
          rfl
      | with_reducible apply wp_so
    all_goals try (simp (disch := omega) only [bi, if_pos, if_neg, Int.add_zero])
    all_goals rfl
  have s1 : ∀ n v : Int, 0 ≤ n → n < 9 → 0 ≤ v → v < 900 → f_X12_meanBeside_7 (ki c) S (ki n) (ki v) (ki 1) = some (.inl (S, ki (n + bi (0 < c % 5)), ki (v + (if 0 < c % 5 then η 4 (c - 1) else 0)), ki 2)) := by
    intro n v n1 n2 v1 v2
    unfold f_X12_meanBeside_7 f_X12_meanBeside_43
    apply wp_eq
    repeat' first
      | with_reducible apply wp_bd
        · (try simp (disch := omega) only [bi, Int.add_zero, Int.zero_add, true_or, or_true, true_and, and_true, not_false_eq_true, not_true_eq_false, if_true, if_false, if_pos, if_neg, ki_add, ki_sub, ki_mul, ki_neg, ki_lt, ki_le, ki_eq, ki_cl, ki_div, ki_ite, ck5, kl_0, kl_1, kl_2, kl_3, kl_4, kl_5, kl_6, kl_7, kl_8, kl_9, kl_10, kl_11, kl_12, kl_13, kl_14, kl_16, kl_20, kl_21, kl_24, kl_29, kl_30, kl_31, kl_33, kl_35, kl_37, kl_38, kl_39, kl_40, kl_41, kl_42, kl_43, kl_44, kl_45, kl_46, kl_47, kl_48, kl_49, kl_50, kl_51, kl_52, kl_53, kl_54, kl_55, kl_56, kl_57, kl_58, kl_59, kl_60, kl_61, kl_62, kl_63, kl_64, kl_70, kl_80, kl_81, kl_97, kl_98, kl_99, kl_100, kl_101, kl_102, kl_103, kl_104, kl_105, kl_106, kl_107, kl_108, kl_109, kl_110, kl_111, kl_112, kl_113, kl_114, kl_115, kl_120, kl_124, kl_126, kl_130, kl_255, kl_720, kl_2048, kl_10000, kl_12345, kl_252645135, kl_858993459, kl_1103515245, kl_1431655765, kl_1640531535, kl_2000000000, y1, r4])
          rfl
      | with_reducible apply wp_in
        · (try simp (disch := omega) only [bi, Int.add_zero, Int.zero_add, true_or, or_true, true_and, and_true, not_false_eq_true, not_true_eq_false, if_true, if_false, if_pos, if_neg, ki_add, ki_sub, ki_mul, ki_neg, ki_lt, ki_le, ki_eq, ki_cl, ki_div, ki_ite, ck5, kl_0, kl_1, kl_2, kl_3, kl_4, kl_5, kl_6, kl_7, kl_8, kl_9, kl_10, kl_11, kl_12, kl_13, kl_14, kl_16, kl_20, kl_21, kl_24, kl_29, kl_30, kl_31, kl_33, kl_35, kl_37, kl_38, kl_39, kl_40, kl_41, kl_42, kl_43, kl_44, kl_45, kl_46, kl_47, kl_48, kl_49, kl_50, kl_51, kl_52, kl_53, kl_54, kl_55, kl_56, kl_57, kl_58, kl_59, kl_60, kl_61, kl_62, kl_63, kl_64, kl_70, kl_80, kl_81, kl_97, kl_98, kl_99, kl_100, kl_101, kl_102, kl_103, kl_104, kl_105, kl_106, kl_107, kl_108, kl_109, kl_110, kl_111, kl_112, kl_113, kl_114, kl_115, kl_120, kl_124, kl_126, kl_130, kl_255, kl_720, kl_2048, kl_10000, kl_12345, kl_252645135, kl_858993459, kl_1103515245, kl_1431655765, kl_1640531535, kl_2000000000, y1, r4])
          rfl
        · decide
        · omega
        · omega
      | with_reducible apply wp_gd
        · (try simp (disch := omega) only [bi, Int.add_zero, Int.zero_add, true_or, or_true, true_and, and_true, not_false_eq_true, not_true_eq_false, if_true, if_false, if_pos, if_neg, ki_add, ki_sub, ki_mul, ki_neg, ki_lt, ki_le, ki_eq, ki_cl, ki_div, ki_ite, ck5, kl_0, kl_1, kl_2, kl_3, kl_4, kl_5, kl_6, kl_7, kl_8, kl_9, kl_10, kl_11, kl_12, kl_13, kl_14, kl_16, kl_20, kl_21, kl_24, kl_29, kl_30, kl_31, kl_33, kl_35, kl_37, kl_38, kl_39, kl_40, kl_41, kl_42, kl_43, kl_44, kl_45, kl_46, kl_47, kl_48, kl_49, kl_50, kl_51, kl_52, kl_53, kl_54, kl_55, kl_56, kl_57, kl_58, kl_59, kl_60, kl_61, kl_62, kl_63, kl_64, kl_70, kl_80, kl_81, kl_97, kl_98, kl_99, kl_100, kl_101, kl_102, kl_103, kl_104, kl_105, kl_106, kl_107, kl_108, kl_109, kl_110, kl_111, kl_112, kl_113, kl_114, kl_115, kl_120, kl_124, kl_126, kl_130, kl_255, kl_720, kl_2048, kl_10000, kl_12345, kl_252645135, kl_858993459, kl_1103515245, kl_1431655765, kl_1640531535, kl_2000000000, y1, r4])
          rfl
        · first | exact True.intro | omega
      | with_reducible apply wp_is
        · (try simp (disch := omega) only [bi, Int.add_zero, Int.zero_add, true_or, or_true, true_and, and_true, not_false_eq_true, not_true_eq_false, if_true, if_false, if_pos, if_neg, ki_add, ki_sub, ki_mul, ki_neg, ki_lt, ki_le, ki_eq, ki_cl, ki_div, ki_ite, ck5, kl_0, kl_1, kl_2, kl_3, kl_4, kl_5, kl_6, kl_7, kl_8, kl_9, kl_10, kl_11, kl_12, kl_13, kl_14, kl_16, kl_20, kl_21, kl_24, kl_29, kl_30, kl_31, kl_33, kl_35, kl_37, kl_38, kl_39, kl_40, kl_41, kl_42, kl_43, kl_44, kl_45, kl_46, kl_47, kl_48, kl_49, kl_50, kl_51, kl_52, kl_53, kl_54, kl_55, kl_56, kl_57, kl_58, kl_59, kl_60, kl_61, kl_62, kl_63, kl_64, kl_70, kl_80, kl_81, kl_97, kl_98, kl_99, kl_100, kl_101, kl_102, kl_103, kl_104, kl_105, kl_106, kl_107, kl_108, kl_109, kl_110, kl_111, kl_112, kl_113, kl_114, kl_115, kl_120, kl_124, kl_126, kl_130, kl_255, kl_720, kl_2048, kl_10000, kl_12345, kl_252645135, kl_858993459, kl_1103515245, kl_1431655765, kl_1640531535, kl_2000000000, y1, r4])
          rfl
        all_goals intro _
        all_goals try (exfalso; first | (rename_i q; exact q trivial) | (rename_i q; exact q) | omega)
      | with_reducible apply wp_mr
      | with_reducible apply wp_b
        · simp (disch := omega) only [Int.add_zero, Int.zero_add, true_or, or_true, true_and, and_true, not_false_eq_true, not_true_eq_false, if_true, if_false, if_pos, if_neg, ki_add, ki_sub, ki_mul, ki_neg, ki_lt, ki_le, ki_eq, ki_cl, ki_div, ki_ite, ck5, kl_0, kl_1, kl_2, kl_3, kl_4, kl_5, kl_6, kl_7, kl_8, kl_9, kl_10, kl_11, kl_12, kl_13, kl_14, kl_16, kl_20, kl_21, kl_24, kl_29, kl_30, kl_31, kl_33, kl_35, kl_37, kl_38, kl_39, kl_40, kl_41, kl_42, kl_43, kl_44, kl_45, kl_46, kl_47, kl_48, kl_49, kl_50, kl_51, kl_52, kl_53, kl_54, kl_55, kl_56, kl_57, kl_58, kl_59, kl_60, kl_61, kl_62, kl_63, kl_64, kl_70, kl_80, kl_81, kl_97, kl_98, kl_99, kl_100, kl_101, kl_102, kl_103, kl_104, kl_105, kl_106, kl_107, kl_108, kl_109, kl_110, kl_111, kl_112, kl_113, kl_114, kl_115, kl_120, kl_124, kl_126, kl_130, kl_255, kl_720, kl_2048, kl_10000, kl_12345, kl_252645135, kl_858993459, kl_1103515245, kl_1431655765, kl_1640531535, kl_2000000000, y1, r4]
          rfl
        all_goals intro _
        all_goals try (exfalso; first | (rename_i q; exact q trivial) | (rename_i q; exact q) | omega)
      | with_reducible apply wp_oe
        · simp (disch := omega) only [Int.add_zero, Int.zero_add, true_or, or_true, true_and, and_true, not_false_eq_true, not_true_eq_false, if_true, if_false, if_pos, if_neg, ki_add, ki_sub, ki_mul, ki_neg, ki_lt, ki_le, ki_eq, ki_cl, ki_div, ki_ite, ck5, kl_0, kl_1, kl_2, kl_3, kl_4, kl_5, kl_6, kl_7, kl_8, kl_9, kl_10, kl_11, kl_12, kl_13, kl_14, kl_16, kl_20, kl_21, kl_24, kl_29, kl_30, kl_31, kl_33, kl_35, kl_37, kl_38, kl_39, kl_40, kl_41, kl_42, kl_43, kl_44, kl_45, kl_46, kl_47, kl_48, kl_49, kl_50, kl_51, kl_52, kl_53, kl_54, kl_55, kl_56, kl_57, kl_58, kl_59, kl_60, kl_61, kl_62, kl_63, kl_64, kl_70, kl_80, kl_81, kl_97, kl_98, kl_99, kl_100, kl_101, kl_102, kl_103, kl_104, kl_105, kl_106, kl_107, kl_108, kl_109, kl_110, kl_111, kl_112, kl_113, kl_114, kl_115, kl_120, kl_124, kl_126, kl_130, kl_255, kl_720, kl_2048, kl_10000, kl_12345, kl_252645135, kl_858993459, kl_1103515245, kl_1431655765, kl_1640531535, kl_2000000000, y1, r4]
          try rfl
      | with_reducible apply wp_sv
        · (try simp (disch := omega) only [bi, Int.add_zero, Int.zero_add, true_or, or_true, true_and, and_true, not_false_eq_true, not_true_eq_false, if_true, if_false, if_pos, if_neg, ki_add, ki_sub, ki_mul, ki_neg, ki_lt, ki_le, ki_eq, ki_cl, ki_div, ki_ite, ck5, kl_0, kl_1, kl_2, kl_3, kl_4, kl_5, kl_6, kl_7, kl_8, kl_9, kl_10, kl_11, kl_12, kl_13, kl_14, kl_16, kl_20, kl_21, kl_24, kl_29, kl_30, kl_31, kl_33, kl_35, kl_37, kl_38, kl_39, kl_40, kl_41, kl_42, kl_43, kl_44, kl_45, kl_46, kl_47, kl_48, kl_49, kl_50, kl_51, kl_52, kl_53, kl_54, kl_55, kl_56, kl_57, kl_58, kl_59, kl_60, kl_61, kl_62, kl_63, kl_64, kl_70, kl_80, kl_81, kl_97, kl_98, kl_99, kl_100, kl_101, kl_102, kl_103, kl_104, kl_105, kl_106, kl_107, kl_108, kl_109, kl_110, kl_111, kl_112, kl_113, kl_114, kl_115, kl_120, kl_124, kl_126, kl_130, kl_255, kl_720, kl_2048, kl_10000, kl_12345, kl_252645135, kl_858993459, kl_1103515245, kl_1431655765, kl_1640531535, kl_2000000000, y1, r4])
          rfl
      | with_reducible apply wp_so
    all_goals try (simp (disch := omega) only [bi, if_pos, if_neg, Int.add_zero])
    all_goals rfl
  have s2 : ∀ n v : Int, 0 ≤ n → n < 9 → 0 ≤ v → v < 900 → f_X12_meanBeside_7 (ki c) S (ki n) (ki v) (ki 2) = some (.inl (S, ki (n + bi (¬ byS η (c / 5 - 1) (c % 5))), ki (v + (if ¬ byS η (c / 5 - 1) (c % 5) then η 4 (c - 5) else 0)), ki 3)) := by
    intro n v n1 n2 v1 v2
    unfold f_X12_meanBeside_7 f_X12_meanBeside_43
    apply wp_eq
    repeat' first
      | with_reducible apply wp_bd
        · (try simp (disch := omega) only [bi, Int.add_zero, Int.zero_add, true_or, or_true, true_and, and_true, not_false_eq_true, not_true_eq_false, if_true, if_false, if_pos, if_neg, ki_add, ki_sub, ki_mul, ki_neg, ki_lt, ki_le, ki_eq, ki_cl, ki_div, ki_ite, ck5, kl_0, kl_1, kl_2, kl_3, kl_4, kl_5, kl_6, kl_7, kl_8, kl_9, kl_10, kl_11, kl_12, kl_13, kl_14, kl_16, kl_20, kl_21, kl_24, kl_29, kl_30, kl_31, kl_33, kl_35, kl_37, kl_38, kl_39, kl_40, kl_41, kl_42, kl_43, kl_44, kl_45, kl_46, kl_47, kl_48, kl_49, kl_50, kl_51, kl_52, kl_53, kl_54, kl_55, kl_56, kl_57, kl_58, kl_59, kl_60, kl_61, kl_62, kl_63, kl_64, kl_70, kl_80, kl_81, kl_97, kl_98, kl_99, kl_100, kl_101, kl_102, kl_103, kl_104, kl_105, kl_106, kl_107, kl_108, kl_109, kl_110, kl_111, kl_112, kl_113, kl_114, kl_115, kl_120, kl_124, kl_126, kl_130, kl_255, kl_720, kl_2048, kl_10000, kl_12345, kl_252645135, kl_858993459, kl_1103515245, kl_1431655765, kl_1640531535, kl_2000000000, y2, r4])
          rfl
      | with_reducible apply wp_in
        · (try simp (disch := omega) only [bi, Int.add_zero, Int.zero_add, true_or, or_true, true_and, and_true, not_false_eq_true, not_true_eq_false, if_true, if_false, if_pos, if_neg, ki_add, ki_sub, ki_mul, ki_neg, ki_lt, ki_le, ki_eq, ki_cl, ki_div, ki_ite, ck5, kl_0, kl_1, kl_2, kl_3, kl_4, kl_5, kl_6, kl_7, kl_8, kl_9, kl_10, kl_11, kl_12, kl_13, kl_14, kl_16, kl_20, kl_21, kl_24, kl_29, kl_30, kl_31, kl_33, kl_35, kl_37, kl_38, kl_39, kl_40, kl_41, kl_42, kl_43, kl_44, kl_45, kl_46, kl_47, kl_48, kl_49, kl_50, kl_51, kl_52, kl_53, kl_54, kl_55, kl_56, kl_57, kl_58, kl_59, kl_60, kl_61, kl_62, kl_63, kl_64, kl_70, kl_80, kl_81, kl_97, kl_98, kl_99, kl_100, kl_101, kl_102, kl_103, kl_104, kl_105, kl_106, kl_107, kl_108, kl_109, kl_110, kl_111, kl_112, kl_113, kl_114, kl_115, kl_120, kl_124, kl_126, kl_130, kl_255, kl_720, kl_2048, kl_10000, kl_12345, kl_252645135, kl_858993459, kl_1103515245, kl_1431655765, kl_1640531535, kl_2000000000, y2, r4])
          rfl
        · decide
        · omega
        · omega
      | with_reducible apply wp_gd
        · (try simp (disch := omega) only [bi, Int.add_zero, Int.zero_add, true_or, or_true, true_and, and_true, not_false_eq_true, not_true_eq_false, if_true, if_false, if_pos, if_neg, ki_add, ki_sub, ki_mul, ki_neg, ki_lt, ki_le, ki_eq, ki_cl, ki_div, ki_ite, ck5, kl_0, kl_1, kl_2, kl_3, kl_4, kl_5, kl_6, kl_7, kl_8, kl_9, kl_10, kl_11, kl_12, kl_13, kl_14, kl_16, kl_20, kl_21, kl_24, kl_29, kl_30, kl_31, kl_33, kl_35, kl_37, kl_38, kl_39, kl_40, kl_41, kl_42, kl_43, kl_44, kl_45, kl_46, kl_47, kl_48, kl_49, kl_50, kl_51, kl_52, kl_53, kl_54, kl_55, kl_56, kl_57, kl_58, kl_59, kl_60, kl_61, kl_62, kl_63, kl_64, kl_70, kl_80, kl_81, kl_97, kl_98, kl_99, kl_100, kl_101, kl_102, kl_103, kl_104, kl_105, kl_106, kl_107, kl_108, kl_109, kl_110, kl_111, kl_112, kl_113, kl_114, kl_115, kl_120, kl_124, kl_126, kl_130, kl_255, kl_720, kl_2048, kl_10000, kl_12345, kl_252645135, kl_858993459, kl_1103515245, kl_1431655765, kl_1640531535, kl_2000000000, y2, r4])
          rfl
        · first | exact True.intro | omega
      | with_reducible apply wp_is
        · (try simp (disch := omega) only [bi, Int.add_zero, Int.zero_add, true_or, or_true, true_and, and_true, not_false_eq_true, not_true_eq_false, if_true, if_false, if_pos, if_neg, ki_add, ki_sub, ki_mul, ki_neg, ki_lt, ki_le, ki_eq, ki_cl, ki_div, ki_ite, ck5, kl_0, kl_1, kl_2, kl_3, kl_4, kl_5, kl_6, kl_7, kl_8, kl_9, kl_10, kl_11, kl_12, kl_13, kl_14, kl_16, kl_20, kl_21, kl_24, kl_29, kl_30, kl_31, kl_33, kl_35, kl_37, kl_38, kl_39, kl_40, kl_41, kl_42, kl_43, kl_44, kl_45, kl_46, kl_47, kl_48, kl_49, kl_50, kl_51, kl_52, kl_53, kl_54, kl_55, kl_56, kl_57, kl_58, kl_59, kl_60, kl_61, kl_62, kl_63, kl_64, kl_70, kl_80, kl_81, kl_97, kl_98, kl_99, kl_100, kl_101, kl_102, kl_103, kl_104, kl_105, kl_106, kl_107, kl_108, kl_109, kl_110, kl_111, kl_112, kl_113, kl_114, kl_115, kl_120, kl_124, kl_126, kl_130, kl_255, kl_720, kl_2048, kl_10000, kl_12345, kl_252645135, kl_858993459, kl_1103515245, kl_1431655765, kl_1640531535, kl_2000000000, y2, r4])
          rfl
        all_goals intro _
        all_goals try (exfalso; first | (rename_i q; exact q trivial) | (rename_i q; exact q) | omega)
      | with_reducible apply wp_mr
      | with_reducible apply wp_b
        · simp (disch := omega) only [Int.add_zero, Int.zero_add, true_or, or_true, true_and, and_true, not_false_eq_true, not_true_eq_false, if_true, if_false, if_pos, if_neg, ki_add, ki_sub, ki_mul, ki_neg, ki_lt, ki_le, ki_eq, ki_cl, ki_div, ki_ite, ck5, kl_0, kl_1, kl_2, kl_3, kl_4, kl_5, kl_6, kl_7, kl_8, kl_9, kl_10, kl_11, kl_12, kl_13, kl_14, kl_16, kl_20, kl_21, kl_24, kl_29, kl_30, kl_31, kl_33, kl_35, kl_37, kl_38, kl_39, kl_40, kl_41, kl_42, kl_43, kl_44, kl_45, kl_46, kl_47, kl_48, kl_49, kl_50, kl_51, kl_52, kl_53, kl_54, kl_55, kl_56, kl_57, kl_58, kl_59, kl_60, kl_61, kl_62, kl_63, kl_64, kl_70, kl_80, kl_81, kl_97, kl_98, kl_99, kl_100, kl_101, kl_102, kl_103, kl_104, kl_105, kl_106, kl_107, kl_108, kl_109, kl_110, kl_111, kl_112, kl_113, kl_114, kl_115, kl_120, kl_124, kl_126, kl_130, kl_255, kl_720, kl_2048, kl_10000, kl_12345, kl_252645135, kl_858993459, kl_1103515245, kl_1431655765, kl_1640531535, kl_2000000000, y2, r4]
          rfl
        all_goals intro _
        all_goals try (exfalso; first | (rename_i q; exact q trivial) | (rename_i q; exact q) | omega)
      | with_reducible apply wp_oe
        · simp (disch := omega) only [Int.add_zero, Int.zero_add, true_or, or_true, true_and, and_true, not_false_eq_true, not_true_eq_false, if_true, if_false, if_pos, if_neg, ki_add, ki_sub, ki_mul, ki_neg, ki_lt, ki_le, ki_eq, ki_cl, ki_div, ki_ite, ck5, kl_0, kl_1, kl_2, kl_3, kl_4, kl_5, kl_6, kl_7, kl_8, kl_9, kl_10, kl_11, kl_12, kl_13, kl_14, kl_16, kl_20, kl_21, kl_24, kl_29, kl_30, kl_31, kl_33, kl_35, kl_37, kl_38, kl_39, kl_40, kl_41, kl_42, kl_43, kl_44, kl_45, kl_46, kl_47, kl_48, kl_49, kl_50, kl_51, kl_52, kl_53, kl_54, kl_55, kl_56, kl_57, kl_58, kl_59, kl_60, kl_61, kl_62, kl_63, kl_64, kl_70, kl_80, kl_81, kl_97, kl_98, kl_99, kl_100, kl_101, kl_102, kl_103, kl_104, kl_105, kl_106, kl_107, kl_108, kl_109, kl_110, kl_111, kl_112, kl_113, kl_114, kl_115, kl_120, kl_124, kl_126, kl_130, kl_255, kl_720, kl_2048, kl_10000, kl_12345, kl_252645135, kl_858993459, kl_1103515245, kl_1431655765, kl_1640531535, kl_2000000000, y2, r4]
          try rfl
      | with_reducible apply wp_sv
        · (try simp (disch := omega) only [bi, Int.add_zero, Int.zero_add, true_or, or_true, true_and, and_true, not_false_eq_true, not_true_eq_false, if_true, if_false, if_pos, if_neg, ki_add, ki_sub, ki_mul, ki_neg, ki_lt, ki_le, ki_eq, ki_cl, ki_div, ki_ite, ck5, kl_0, kl_1, kl_2, kl_3, kl_4, kl_5, kl_6, kl_7, kl_8, kl_9, kl_10, kl_11, kl_12, kl_13, kl_14, kl_16, kl_20, kl_21, kl_24, kl_29, kl_30, kl_31, kl_33, kl_35, kl_37, kl_38, kl_39, kl_40, kl_41, kl_42, kl_43, kl_44, kl_45, kl_46, kl_47, kl_48, kl_49, kl_50, kl_51, kl_52, kl_53, kl_54, kl_55, kl_56, kl_57, kl_58, kl_59, kl_60, kl_61, kl_62, kl_63, kl_64, kl_70, kl_80, kl_81, kl_97, kl_98, kl_99, kl_100, kl_101, kl_102, kl_103, kl_104, kl_105, kl_106, kl_107, kl_108, kl_109, kl_110, kl_111, kl_112, kl_113, kl_114, kl_115, kl_120, kl_124, kl_126, kl_130, kl_255, kl_720, kl_2048, kl_10000, kl_12345, kl_252645135, kl_858993459, kl_1103515245, kl_1431655765, kl_1640531535, kl_2000000000, y2, r4])
          rfl
      | with_reducible apply wp_so
    all_goals try (simp (disch := omega) only [bi, if_pos, if_neg, Int.add_zero])
    all_goals rfl
  have s3 : ∀ n v : Int, 0 ≤ n → n < 9 → 0 ≤ v → v < 900 → f_X12_meanBeside_7 (ki c) S (ki n) (ki v) (ki 3) = some (.inl (S, ki (n + bi (¬ byS η (c / 5 + 1) (c % 5))), ki (v + (if ¬ byS η (c / 5 + 1) (c % 5) then η 4 (c + 5) else 0)), ki 4)) := by
    intro n v n1 n2 v1 v2
    unfold f_X12_meanBeside_7 f_X12_meanBeside_43
    apply wp_eq
    repeat' first
      | with_reducible apply wp_bd
        · (try simp (disch := omega) only [bi, Int.add_zero, Int.zero_add, true_or, or_true, true_and, and_true, not_false_eq_true, not_true_eq_false, if_true, if_false, if_pos, if_neg, ki_add, ki_sub, ki_mul, ki_neg, ki_lt, ki_le, ki_eq, ki_cl, ki_div, ki_ite, ck5, kl_0, kl_1, kl_2, kl_3, kl_4, kl_5, kl_6, kl_7, kl_8, kl_9, kl_10, kl_11, kl_12, kl_13, kl_14, kl_16, kl_20, kl_21, kl_24, kl_29, kl_30, kl_31, kl_33, kl_35, kl_37, kl_38, kl_39, kl_40, kl_41, kl_42, kl_43, kl_44, kl_45, kl_46, kl_47, kl_48, kl_49, kl_50, kl_51, kl_52, kl_53, kl_54, kl_55, kl_56, kl_57, kl_58, kl_59, kl_60, kl_61, kl_62, kl_63, kl_64, kl_70, kl_80, kl_81, kl_97, kl_98, kl_99, kl_100, kl_101, kl_102, kl_103, kl_104, kl_105, kl_106, kl_107, kl_108, kl_109, kl_110, kl_111, kl_112, kl_113, kl_114, kl_115, kl_120, kl_124, kl_126, kl_130, kl_255, kl_720, kl_2048, kl_10000, kl_12345, kl_252645135, kl_858993459, kl_1103515245, kl_1431655765, kl_1640531535, kl_2000000000, y3, r4])
          rfl
      | with_reducible apply wp_in
        · (try simp (disch := omega) only [bi, Int.add_zero, Int.zero_add, true_or, or_true, true_and, and_true, not_false_eq_true, not_true_eq_false, if_true, if_false, if_pos, if_neg, ki_add, ki_sub, ki_mul, ki_neg, ki_lt, ki_le, ki_eq, ki_cl, ki_div, ki_ite, ck5, kl_0, kl_1, kl_2, kl_3, kl_4, kl_5, kl_6, kl_7, kl_8, kl_9, kl_10, kl_11, kl_12, kl_13, kl_14, kl_16, kl_20, kl_21, kl_24, kl_29, kl_30, kl_31, kl_33, kl_35, kl_37, kl_38, kl_39, kl_40, kl_41, kl_42, kl_43, kl_44, kl_45, kl_46, kl_47, kl_48, kl_49, kl_50, kl_51, kl_52, kl_53, kl_54, kl_55, kl_56, kl_57, kl_58, kl_59, kl_60, kl_61, kl_62, kl_63, kl_64, kl_70, kl_80, kl_81, kl_97, kl_98, kl_99, kl_100, kl_101, kl_102, kl_103, kl_104, kl_105, kl_106, kl_107, kl_108, kl_109, kl_110, kl_111, kl_112, kl_113, kl_114, kl_115, kl_120, kl_124, kl_126, kl_130, kl_255, kl_720, kl_2048, kl_10000, kl_12345, kl_252645135, kl_858993459, kl_1103515245, kl_1431655765, kl_1640531535, kl_2000000000, y3, r4])
          rfl
        · decide
        · omega
        · omega
      | with_reducible apply wp_gd
        · (try simp (disch := omega) only [bi, Int.add_zero, Int.zero_add, true_or, or_true, true_and, and_true, not_false_eq_true, not_true_eq_false, if_true, if_false, if_pos, if_neg, ki_add, ki_sub, ki_mul, ki_neg, ki_lt, ki_le, ki_eq, ki_cl, ki_div, ki_ite, ck5, kl_0, kl_1, kl_2, kl_3, kl_4, kl_5, kl_6, kl_7, kl_8, kl_9, kl_10, kl_11, kl_12, kl_13, kl_14, kl_16, kl_20, kl_21, kl_24, kl_29, kl_30, kl_31, kl_33, kl_35, kl_37, kl_38, kl_39, kl_40, kl_41, kl_42, kl_43, kl_44, kl_45, kl_46, kl_47, kl_48, kl_49, kl_50, kl_51, kl_52, kl_53, kl_54, kl_55, kl_56, kl_57, kl_58, kl_59, kl_60, kl_61, kl_62, kl_63, kl_64, kl_70, kl_80, kl_81, kl_97, kl_98, kl_99, kl_100, kl_101, kl_102, kl_103, kl_104, kl_105, kl_106, kl_107, kl_108, kl_109, kl_110, kl_111, kl_112, kl_113, kl_114, kl_115, kl_120, kl_124, kl_126, kl_130, kl_255, kl_720, kl_2048, kl_10000, kl_12345, kl_252645135, kl_858993459, kl_1103515245, kl_1431655765, kl_1640531535, kl_2000000000, y3, r4])
          rfl
        · first | exact True.intro | omega
      | with_reducible apply wp_is
        · (try simp (disch := omega) only [bi, Int.add_zero, Int.zero_add, true_or, or_true, true_and, and_true, not_false_eq_true, not_true_eq_false, if_true, if_false, if_pos, if_neg, ki_add, ki_sub, ki_mul, ki_neg, ki_lt, ki_le, ki_eq, ki_cl, ki_div, ki_ite, ck5, kl_0, kl_1, kl_2, kl_3, kl_4, kl_5, kl_6, kl_7, kl_8, kl_9, kl_10, kl_11, kl_12, kl_13, kl_14, kl_16, kl_20, kl_21, kl_24, kl_29, kl_30, kl_31, kl_33, kl_35, kl_37, kl_38, kl_39, kl_40, kl_41, kl_42, kl_43, kl_44, kl_45, kl_46, kl_47, kl_48, kl_49, kl_50, kl_51, kl_52, kl_53, kl_54, kl_55, kl_56, kl_57, kl_58, kl_59, kl_60, kl_61, kl_62, kl_63, kl_64, kl_70, kl_80, kl_81, kl_97, kl_98, kl_99, kl_100, kl_101, kl_102, kl_103, kl_104, kl_105, kl_106, kl_107, kl_108, kl_109, kl_110, kl_111, kl_112, kl_113, kl_114, kl_115, kl_120, kl_124, kl_126, kl_130, kl_255, kl_720, kl_2048, kl_10000, kl_12345, kl_252645135, kl_858993459, kl_1103515245, kl_1431655765, kl_1640531535, kl_2000000000, y3, r4])
          rfl
        all_goals intro _
        all_goals try (exfalso; first | (rename_i q; exact q trivial) | (rename_i q; exact q) | omega)
      | with_reducible apply wp_mr
      | with_reducible apply wp_b
        · simp (disch := omega) only [Int.add_zero, Int.zero_add, true_or, or_true, true_and, and_true, not_false_eq_true, not_true_eq_false, if_true, if_false, if_pos, if_neg, ki_add, ki_sub, ki_mul, ki_neg, ki_lt, ki_le, ki_eq, ki_cl, ki_div, ki_ite, ck5, kl_0, kl_1, kl_2, kl_3, kl_4, kl_5, kl_6, kl_7, kl_8, kl_9, kl_10, kl_11, kl_12, kl_13, kl_14, kl_16, kl_20, kl_21, kl_24, kl_29, kl_30, kl_31, kl_33, kl_35, kl_37, kl_38, kl_39, kl_40, kl_41, kl_42, kl_43, kl_44, kl_45, kl_46, kl_47, kl_48, kl_49, kl_50, kl_51, kl_52, kl_53, kl_54, kl_55, kl_56, kl_57, kl_58, kl_59, kl_60, kl_61, kl_62, kl_63, kl_64, kl_70, kl_80, kl_81, kl_97, kl_98, kl_99, kl_100, kl_101, kl_102, kl_103, kl_104, kl_105, kl_106, kl_107, kl_108, kl_109, kl_110, kl_111, kl_112, kl_113, kl_114, kl_115, kl_120, kl_124, kl_126, kl_130, kl_255, kl_720, kl_2048, kl_10000, kl_12345, kl_252645135, kl_858993459, kl_1103515245, kl_1431655765, kl_1640531535, kl_2000000000, y3, r4]
          rfl
        all_goals intro _
        all_goals try (exfalso; first | (rename_i q; exact q trivial) | (rename_i q; exact q) | omega)
      | with_reducible apply wp_oe
        · simp (disch := omega) only [Int.add_zero, Int.zero_add, true_or, or_true, true_and, and_true, not_false_eq_true, not_true_eq_false, if_true, if_false, if_pos, if_neg, ki_add, ki_sub, ki_mul, ki_neg, ki_lt, ki_le, ki_eq, ki_cl, ki_div, ki_ite, ck5, kl_0, kl_1, kl_2, kl_3, kl_4, kl_5, kl_6, kl_7, kl_8, kl_9, kl_10, kl_11, kl_12, kl_13, kl_14, kl_16, kl_20, kl_21, kl_24, kl_29, kl_30, kl_31, kl_33, kl_35, kl_37, kl_38, kl_39, kl_40, kl_41, kl_42, kl_43, kl_44, kl_45, kl_46, kl_47, kl_48, kl_49, kl_50, kl_51, kl_52, kl_53, kl_54, kl_55, kl_56, kl_57, kl_58, kl_59, kl_60, kl_61, kl_62, kl_63, kl_64, kl_70, kl_80, kl_81, kl_97, kl_98, kl_99, kl_100, kl_101, kl_102, kl_103, kl_104, kl_105, kl_106, kl_107, kl_108, kl_109, kl_110, kl_111, kl_112, kl_113, kl_114, kl_115, kl_120, kl_124, kl_126, kl_130, kl_255, kl_720, kl_2048, kl_10000, kl_12345, kl_252645135, kl_858993459, kl_1103515245, kl_1431655765, kl_1640531535, kl_2000000000, y3, r4]
          try rfl
      | with_reducible apply wp_sv
        · (try simp (disch := omega) only [bi, Int.add_zero, Int.zero_add, true_or, or_true, true_and, and_true, not_false_eq_true, not_true_eq_false, if_true, if_false, if_pos, if_neg, ki_add, ki_sub, ki_mul, ki_neg, ki_lt, ki_le, ki_eq, ki_cl, ki_div, ki_ite, ck5, kl_0, kl_1, kl_2, kl_3, kl_4, kl_5, kl_6, kl_7, kl_8, kl_9, kl_10, kl_11, kl_12, kl_13, kl_14, kl_16, kl_20, kl_21, kl_24, kl_29, kl_30, kl_31, kl_33, kl_35, kl_37, kl_38, kl_39, kl_40, kl_41, kl_42, kl_43, kl_44, kl_45, kl_46, kl_47, kl_48, kl_49, kl_50, kl_51, kl_52, kl_53, kl_54, kl_55, kl_56, kl_57, kl_58, kl_59, kl_60, kl_61, kl_62, kl_63, kl_64, kl_70, kl_80, kl_81, kl_97, kl_98, kl_99, kl_100, kl_101, kl_102, kl_103, kl_104, kl_105, kl_106, kl_107, kl_108, kl_109, kl_110, kl_111, kl_112, kl_113, kl_114, kl_115, kl_120, kl_124, kl_126, kl_130, kl_255, kl_720, kl_2048, kl_10000, kl_12345, kl_252645135, kl_858993459, kl_1103515245, kl_1431655765, kl_1640531535, kl_2000000000, y3, r4])
          rfl
      | with_reducible apply wp_so
    all_goals try (simp (disch := omega) only [bi, if_pos, if_neg, Int.add_zero])
    all_goals rfl
  have s4 : ∀ n v : Int, 0 ≤ n → n < 5 → 0 ≤ v → v < 1000 → f_X12_meanBeside_7 (ki c) S (ki n) (ki v) (ki 4) = some (.inr (S, ki (mnS v n))) := by
    intro n v n1 n2 v1 v2
    unfold f_X12_meanBeside_7 f_X12_meanBeside_49 mnS
    apply wp_eq
    repeat' first
      | with_reducible apply wp_bd
        · (try simp (disch := omega) only [bi, Int.add_zero, Int.zero_add, true_or, or_true, true_and, and_true, not_false_eq_true, not_true_eq_false, if_true, if_false, if_pos, if_neg, ki_add, ki_sub, ki_mul, ki_neg, ki_lt, ki_le, ki_eq, ki_cl, ki_div, ki_ite, ck5, kl_0, kl_1, kl_2, kl_3, kl_4, kl_5, kl_6, kl_7, kl_8, kl_9, kl_10, kl_11, kl_12, kl_13, kl_14, kl_16, kl_20, kl_21, kl_24, kl_29, kl_30, kl_31, kl_33, kl_35, kl_37, kl_38, kl_39, kl_40, kl_41, kl_42, kl_43, kl_44, kl_45, kl_46, kl_47, kl_48, kl_49, kl_50, kl_51, kl_52, kl_53, kl_54, kl_55, kl_56, kl_57, kl_58, kl_59, kl_60, kl_61, kl_62, kl_63, kl_64, kl_70, kl_80, kl_81, kl_97, kl_98, kl_99, kl_100, kl_101, kl_102, kl_103, kl_104, kl_105, kl_106, kl_107, kl_108, kl_109, kl_110, kl_111, kl_112, kl_113, kl_114, kl_115, kl_120, kl_124, kl_126, kl_130, kl_255, kl_720, kl_2048, kl_10000, kl_12345, kl_252645135, kl_858993459, kl_1103515245, kl_1431655765, kl_1640531535, kl_2000000000])
          rfl
      | with_reducible apply wp_in
        · (try simp (disch := omega) only [bi, Int.add_zero, Int.zero_add, true_or, or_true, true_and, and_true, not_false_eq_true, not_true_eq_false, if_true, if_false, if_pos, if_neg, ki_add, ki_sub, ki_mul, ki_neg, ki_lt, ki_le, ki_eq, ki_cl, ki_div, ki_ite, ck5, kl_0, kl_1, kl_2, kl_3, kl_4, kl_5, kl_6, kl_7, kl_8, kl_9, kl_10, kl_11, kl_12, kl_13, kl_14, kl_16, kl_20, kl_21, kl_24, kl_29, kl_30, kl_31, kl_33, kl_35, kl_37, kl_38, kl_39, kl_40, kl_41, kl_42, kl_43, kl_44, kl_45, kl_46, kl_47, kl_48, kl_49, kl_50, kl_51, kl_52, kl_53, kl_54, kl_55, kl_56, kl_57, kl_58, kl_59, kl_60, kl_61, kl_62, kl_63, kl_64, kl_70, kl_80, kl_81, kl_97, kl_98, kl_99, kl_100, kl_101, kl_102, kl_103, kl_104, kl_105, kl_106, kl_107, kl_108, kl_109, kl_110, kl_111, kl_112, kl_113, kl_114, kl_115, kl_120, kl_124, kl_126, kl_130, kl_255, kl_720, kl_2048, kl_10000, kl_12345, kl_252645135, kl_858993459, kl_1103515245, kl_1431655765, kl_1640531535, kl_2000000000])
          rfl
        · decide
        · omega
        · omega
      | with_reducible apply wp_gd
        · (try simp (disch := omega) only [bi, Int.add_zero, Int.zero_add, true_or, or_true, true_and, and_true, not_false_eq_true, not_true_eq_false, if_true, if_false, if_pos, if_neg, ki_add, ki_sub, ki_mul, ki_neg, ki_lt, ki_le, ki_eq, ki_cl, ki_div, ki_ite, ck5, kl_0, kl_1, kl_2, kl_3, kl_4, kl_5, kl_6, kl_7, kl_8, kl_9, kl_10, kl_11, kl_12, kl_13, kl_14, kl_16, kl_20, kl_21, kl_24, kl_29, kl_30, kl_31, kl_33, kl_35, kl_37, kl_38, kl_39, kl_40, kl_41, kl_42, kl_43, kl_44, kl_45, kl_46, kl_47, kl_48, kl_49, kl_50, kl_51, kl_52, kl_53, kl_54, kl_55, kl_56, kl_57, kl_58, kl_59, kl_60, kl_61, kl_62, kl_63, kl_64, kl_70, kl_80, kl_81, kl_97, kl_98, kl_99, kl_100, kl_101, kl_102, kl_103, kl_104, kl_105, kl_106, kl_107, kl_108, kl_109, kl_110, kl_111, kl_112, kl_113, kl_114, kl_115, kl_120, kl_124, kl_126, kl_130, kl_255, kl_720, kl_2048, kl_10000, kl_12345, kl_252645135, kl_858993459, kl_1103515245, kl_1431655765, kl_1640531535, kl_2000000000])
          rfl
        · first | exact True.intro | omega
      | with_reducible apply wp_is
        · (try simp (disch := omega) only [bi, Int.add_zero, Int.zero_add, true_or, or_true, true_and, and_true, not_false_eq_true, not_true_eq_false, if_true, if_false, if_pos, if_neg, ki_add, ki_sub, ki_mul, ki_neg, ki_lt, ki_le, ki_eq, ki_cl, ki_div, ki_ite, ck5, kl_0, kl_1, kl_2, kl_3, kl_4, kl_5, kl_6, kl_7, kl_8, kl_9, kl_10, kl_11, kl_12, kl_13, kl_14, kl_16, kl_20, kl_21, kl_24, kl_29, kl_30, kl_31, kl_33, kl_35, kl_37, kl_38, kl_39, kl_40, kl_41, kl_42, kl_43, kl_44, kl_45, kl_46, kl_47, kl_48, kl_49, kl_50, kl_51, kl_52, kl_53, kl_54, kl_55, kl_56, kl_57, kl_58, kl_59, kl_60, kl_61, kl_62, kl_63, kl_64, kl_70, kl_80, kl_81, kl_97, kl_98, kl_99, kl_100, kl_101, kl_102, kl_103, kl_104, kl_105, kl_106, kl_107, kl_108, kl_109, kl_110, kl_111, kl_112, kl_113, kl_114, kl_115, kl_120, kl_124, kl_126, kl_130, kl_255, kl_720, kl_2048, kl_10000, kl_12345, kl_252645135, kl_858993459, kl_1103515245, kl_1431655765, kl_1640531535, kl_2000000000])
          rfl
        all_goals intro _
        all_goals try (exfalso; first | (rename_i q; exact q trivial) | (rename_i q; exact q) | omega)
      | with_reducible apply wp_mr
      | with_reducible apply wp_b
        · simp (disch := omega) only [Int.add_zero, Int.zero_add, true_or, or_true, true_and, and_true, not_false_eq_true, not_true_eq_false, if_true, if_false, if_pos, if_neg, ki_add, ki_sub, ki_mul, ki_neg, ki_lt, ki_le, ki_eq, ki_cl, ki_div, ki_ite, ck5, kl_0, kl_1, kl_2, kl_3, kl_4, kl_5, kl_6, kl_7, kl_8, kl_9, kl_10, kl_11, kl_12, kl_13, kl_14, kl_16, kl_20, kl_21, kl_24, kl_29, kl_30, kl_31, kl_33, kl_35, kl_37, kl_38, kl_39, kl_40, kl_41, kl_42, kl_43, kl_44, kl_45, kl_46, kl_47, kl_48, kl_49, kl_50, kl_51, kl_52, kl_53, kl_54, kl_55, kl_56, kl_57, kl_58, kl_59, kl_60, kl_61, kl_62, kl_63, kl_64, kl_70, kl_80, kl_81, kl_97, kl_98, kl_99, kl_100, kl_101, kl_102, kl_103, kl_104, kl_105, kl_106, kl_107, kl_108, kl_109, kl_110, kl_111, kl_112, kl_113, kl_114, kl_115, kl_120, kl_124, kl_126, kl_130, kl_255, kl_720, kl_2048, kl_10000, kl_12345, kl_252645135, kl_858993459, kl_1103515245, kl_1431655765, kl_1640531535, kl_2000000000]
          rfl
        all_goals intro _
        all_goals try (exfalso; first | (rename_i q; exact q trivial) | (rename_i q; exact q) | omega)
      | with_reducible apply wp_oe
        · simp (disch := omega) only [Int.add_zero, Int.zero_add, true_or, or_true, true_and, and_true, not_false_eq_true, not_true_eq_false, if_true, if_false, if_pos, if_neg, ki_add, ki_sub, ki_mul, ki_neg, ki_lt, ki_le, ki_eq, ki_cl, ki_div, ki_ite, ck5, kl_0, kl_1, kl_2, kl_3, kl_4, kl_5, kl_6, kl_7, kl_8, kl_9, kl_10, kl_11, kl_12, kl_13, kl_14, kl_16, kl_20, kl_21, kl_24, kl_29, kl_30, kl_31, kl_33, kl_35, kl_37, kl_38, kl_39, kl_40, kl_41, kl_42, kl_43, kl_44, kl_45, kl_46, kl_47, kl_48, kl_49, kl_50, kl_51, kl_52, kl_53, kl_54, kl_55, kl_56, kl_57, kl_58, kl_59, kl_60, kl_61, kl_62, kl_63, kl_64, kl_70, kl_80, kl_81, kl_97, kl_98, kl_99, kl_100, kl_101, kl_102, kl_103, kl_104, kl_105, kl_106, kl_107, kl_108, kl_109, kl_110, kl_111, kl_112, kl_113, kl_114, kl_115, kl_120, kl_124, kl_126, kl_130, kl_255, kl_720, kl_2048, kl_10000, kl_12345, kl_252645135, kl_858993459, kl_1103515245, kl_1431655765, kl_1640531535, kl_2000000000]
          try rfl
      | with_reducible apply wp_sv
        · (try simp (disch := omega) only [bi, Int.add_zero, Int.zero_add, true_or, or_true, true_and, and_true, not_false_eq_true, not_true_eq_false, if_true, if_false, if_pos, if_neg, ki_add, ki_sub, ki_mul, ki_neg, ki_lt, ki_le, ki_eq, ki_cl, ki_div, ki_ite, ck5, kl_0, kl_1, kl_2, kl_3, kl_4, kl_5, kl_6, kl_7, kl_8, kl_9, kl_10, kl_11, kl_12, kl_13, kl_14, kl_16, kl_20, kl_21, kl_24, kl_29, kl_30, kl_31, kl_33, kl_35, kl_37, kl_38, kl_39, kl_40, kl_41, kl_42, kl_43, kl_44, kl_45, kl_46, kl_47, kl_48, kl_49, kl_50, kl_51, kl_52, kl_53, kl_54, kl_55, kl_56, kl_57, kl_58, kl_59, kl_60, kl_61, kl_62, kl_63, kl_64, kl_70, kl_80, kl_81, kl_97, kl_98, kl_99, kl_100, kl_101, kl_102, kl_103, kl_104, kl_105, kl_106, kl_107, kl_108, kl_109, kl_110, kl_111, kl_112, kl_113, kl_114, kl_115, kl_120, kl_124, kl_126, kl_130, kl_255, kl_720, kl_2048, kl_10000, kl_12345, kl_252645135, kl_858993459, kl_1103515245, kl_1431655765, kl_1640531535, kl_2000000000])
          rfl
      | with_reducible apply wp_so
    all_goals simp (disch := omega) only [if_pos, if_neg]
    all_goals rfl
  unfold f_X12_meanBeside f_X12_meanBeside_0 meanS
  have i0 := bi_le (0 < c % 5)
  have i1 := bi_le (¬ byS η (c / 5) (c % 5 + 1))
  have i2 := bi_le (¬ byS η (c / 5 - 1) (c % 5))
  have i3 := bi_le (¬ byS η (c / 5 + 1) (c % 5))
  have j0 : 0 ≤ (if 0 < c % 5 then η 4 (c - 1) else 0) ∧ (if 0 < c % 5 then η 4 (c - 1) else 0) ≤ 99 := by split <;> omega
  have j1 : 0 ≤ (if ¬ byS η (c / 5) (c % 5 + 1) then η 4 (c + 1) else 0) ∧ (if ¬ byS η (c / 5) (c % 5 + 1) then η 4 (c + 1) else 0) ≤ 99 := by split <;> omega
  have j2 : 0 ≤ (if ¬ byS η (c / 5 - 1) (c % 5) then η 4 (c - 5) else 0) ∧ (if ¬ byS η (c / 5 - 1) (c % 5) then η 4 (c - 5) else 0) ≤ 99 := by split <;> omega
  have j3 : 0 ≤ (if ¬ byS η (c / 5 + 1) (c % 5) then η 4 (c + 5) else 0) ∧ (if ¬ byS η (c / 5 + 1) (c % 5) then η 4 (c + 5) else 0) ≤ 99 := by split <;> omega
  unfold sumS cntS
  generalize (if 0 < c % 5 then η 4 (c - 1) else 0) = v1 at *
  generalize (if ¬ byS η (c / 5) (c % 5 + 1) then η 4 (c + 1) else 0) = v0 at *
  generalize (if ¬ byS η (c / 5 - 1) (c % 5) then η 4 (c - 5) else 0) = v2 at *
  generalize (if ¬ byS η (c / 5 + 1) (c % 5) then η 4 (c + 5) else 0) = v3 at *
  generalize bi (0 < c % 5) = n1 at *
  generalize bi (¬ byS η (c / 5) (c % 5 + 1)) = n0 at *
  generalize bi (¬ byS η (c / 5 - 1) (c % 5)) = n2 at *
  generalize bi (¬ byS η (c / 5 + 1) (c % 5)) = n3 at *
  rw [show n1 + n0 + n2 + n3 = 0 + n0 + n1 + n2 + n3 by omega, show v1 + v0 + v2 + v3 = 0 + v0 + v1 + v2 + v3 by omega, kl_0]
  exact xlp_g _ (s0 _ _ (by omega) (by omega) (by omega) (by omega)) (xlp_g _ (s1 _ _ (by omega) (by omega) (by omega) (by omega)) (xlp_g _ (s2 _ _ (by omega) (by omega) (by omega) (by omega)) (xlp_g _ (s3 _ _ (by omega) (by omega) (by omega) (by omega)) (xlp_e (s4 _ _ (by omega) (by omega) (by omega) (by omega))))))
