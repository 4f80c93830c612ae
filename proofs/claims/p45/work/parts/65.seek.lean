/-! part 65: first, sell -/
theorem days_1 (gn : (Int → Int) → Int) (η : Hy) : ∀ n, daysN gn n η 1 = η 1 := by
  intro n
  induction n with
  | zero => rfl
  | succ n ih => exact ih
theorem days_g (gn : (Int → Int) → Int) (η : Hy) : ∀ n, daysN gn n η 0 10 = η 0 10 := by
  intro n
  induction n with
  | zero => rfl
  | succ n ih => exact ih
def fiS (gn : (Int → Int) → Int) (η : Hy) (p : Hy → Int) (t : Int) : Nat → Nat → Int
  | 0, _ => -2
  | n + 1, k => if p (daysN gn k η) < t then fiS gn η p t n (k + 1) else k
def pcl (c : Int) (ζ : Hy) : Int := if c < 0 then hhS ζ else ζ 4 c
theorem x_days1 {η : Hy} {gn : (Int → Int) → Int} {S S0 : xSt} {n : Nat} (hw : wf η) (h : hx 36 (daysN gn n η) S) (hl : lawX gn S) (hf : fr S0 S qX) : wp (f_X4_passDay 36 S) (fun r => hx 36 (daysN gn (n + 1) η) r.1 ∧ lawX gn r.1 ∧ fr S0 r.1 qX ∧ r.1.1 86 = S.1 86) :=
  wp_mo (x_day (wf_days hw n) (by omega) h hl) (fun _ hr => ⟨hr.1, hr.2.1, fr_tr hf (fr_w hr.2.2 (fun _ hk => qX_D hk)), hr.2.2.2 86 (by unfold pD; omega)⟩)
theorem nsc (k : Nat) : ((k + 1 : Nat) : Int) = (k : Int) + 1 := by omega
theorem x_first {η : Hy} {gn : (Int → Int) → Int} {S : xSt} {c t : Int} (hw : wf η) (h : hx 16 η S) (hl : lawX gn S) (c0 : -1 ≤ c) (c1 : c < 30) (t0 : -2 ≤ t) (t1 : t ≤ 100) :
    wp (f_X10_firstDay S (ki c) (ki t)) (fun r => r.2 = ki (fiS gn η (pcl c) t 41 0) ∧ fr S r.1 qX ∧ lawX gn r.1) := by
  unfold f_X10_firstDay f_X10_firstDay_0
  refine wp_ob (x_take (o := 36) h (by omega)) (fun u a hp => ?_)
  obtain ⟨hh, hf⟩ := hp
  dsimp only at hh hf
  refine wp_lp (fun m s => ∃ k : Nat, s.2 = ki k ∧ m + k = 41 ∧ hx 36 (daysN gn k η) s.1 ∧ lawX gn s.1 ∧ fr S s.1 qX ∧ fiS gn η (pcl c) t m k = fiS gn η (pcl c) t 41 0) 41 ?_ ?_ (by omega)
  · intro m s hI
    obtain ⟨S1, x⟩ := s
    obtain ⟨k, hx1, k1, hh1, hl1, hf1, e⟩ := hI
    dsimp only at hx1 hh1 hl1 hf1
    subst hx1
    show wp (f_X10_firstDay_13 (ki c) (ki t) S1 (ki k)) _
    have hwk := wf_days (gn := gn) hw k
    have y := x_hh hh1 hwk
    have yb := hhS_b hwk
    have bb := hwk.2.2.2.1 c
    unfold f_X10_firstDay_13 f_X10_firstDay_42
    cases m with
    | zero =>
      repeat' first
        | with_reducible apply wp_bd
          · (try simp (disch := omega) only [bi, Int.add_zero, Int.zero_add, true_or, or_true, true_and, and_true, not_false_eq_true, not_true_eq_false, if_true, if_false, if_pos, if_neg, ki_add, ki_sub, ki_mul, ki_neg, ki_lt, ki_le, ki_eq, ki_cl, ki_div, ki_ite, ck5, kl_0, kl_1, kl_2, kl_3, kl_4, kl_5, kl_6, kl_7, kl_8, kl_9, kl_10, kl_11, kl_12, kl_13, kl_14, kl_16, kl_20, kl_21, kl_30, kl_31, kl_32, kl_33, kl_35, kl_37, kl_38, kl_39, kl_40, kl_41, kl_42, kl_43, kl_45, kl_47, kl_48, kl_50, kl_57, kl_59, kl_60, kl_61, kl_62, kl_63, kl_64, kl_97, kl_98, kl_99, kl_100, kl_101, kl_102, kl_103, kl_104, kl_105, kl_106, kl_107, kl_108, kl_109, kl_110, kl_111, kl_112, kl_113, kl_114, kl_115, kl_120, kl_124, kl_126, kl_127, kl_255, kl_720, kl_2048, kl_252645135, kl_858993459, kl_1431655765, kl_1640531535, kl_2000000000])
            rfl
        | with_reducible apply wp_in
          · (try simp (disch := omega) only [bi, Int.add_zero, Int.zero_add, true_or, or_true, true_and, and_true, not_false_eq_true, not_true_eq_false, if_true, if_false, if_pos, if_neg, ki_add, ki_sub, ki_mul, ki_neg, ki_lt, ki_le, ki_eq, ki_cl, ki_div, ki_ite, ck5, kl_0, kl_1, kl_2, kl_3, kl_4, kl_5, kl_6, kl_7, kl_8, kl_9, kl_10, kl_11, kl_12, kl_13, kl_14, kl_16, kl_20, kl_21, kl_30, kl_31, kl_32, kl_33, kl_35, kl_37, kl_38, kl_39, kl_40, kl_41, kl_42, kl_43, kl_45, kl_47, kl_48, kl_50, kl_57, kl_59, kl_60, kl_61, kl_62, kl_63, kl_64, kl_97, kl_98, kl_99, kl_100, kl_101, kl_102, kl_103, kl_104, kl_105, kl_106, kl_107, kl_108, kl_109, kl_110, kl_111, kl_112, kl_113, kl_114, kl_115, kl_120, kl_124, kl_126, kl_127, kl_255, kl_720, kl_2048, kl_252645135, kl_858993459, kl_1431655765, kl_1640531535, kl_2000000000])
            rfl
          · decide
          · omega
          · omega
        | with_reducible apply wp_gd
          · (try simp (disch := omega) only [bi, Int.add_zero, Int.zero_add, true_or, or_true, true_and, and_true, not_false_eq_true, not_true_eq_false, if_true, if_false, if_pos, if_neg, ki_add, ki_sub, ki_mul, ki_neg, ki_lt, ki_le, ki_eq, ki_cl, ki_div, ki_ite, ck5, kl_0, kl_1, kl_2, kl_3, kl_4, kl_5, kl_6, kl_7, kl_8, kl_9, kl_10, kl_11, kl_12, kl_13, kl_14, kl_16, kl_20, kl_21, kl_30, kl_31, kl_32, kl_33, kl_35, kl_37, kl_38, kl_39, kl_40, kl_41, kl_42, kl_43, kl_45, kl_47, kl_48, kl_50, kl_57, kl_59, kl_60, kl_61, kl_62, kl_63, kl_64, kl_97, kl_98, kl_99, kl_100, kl_101, kl_102, kl_103, kl_104, kl_105, kl_106, kl_107, kl_108, kl_109, kl_110, kl_111, kl_112, kl_113, kl_114, kl_115, kl_120, kl_124, kl_126, kl_127, kl_255, kl_720, kl_2048, kl_252645135, kl_858993459, kl_1431655765, kl_1640531535, kl_2000000000])
            rfl
          · first | exact True.intro | omega | assumption
        | with_reducible apply wp_is
          · (try simp (disch := omega) only [bi, Int.add_zero, Int.zero_add, true_or, or_true, true_and, and_true, not_false_eq_true, not_true_eq_false, if_true, if_false, if_pos, if_neg, ki_add, ki_sub, ki_mul, ki_neg, ki_lt, ki_le, ki_eq, ki_cl, ki_div, ki_ite, ck5, kl_0, kl_1, kl_2, kl_3, kl_4, kl_5, kl_6, kl_7, kl_8, kl_9, kl_10, kl_11, kl_12, kl_13, kl_14, kl_16, kl_20, kl_21, kl_30, kl_31, kl_32, kl_33, kl_35, kl_37, kl_38, kl_39, kl_40, kl_41, kl_42, kl_43, kl_45, kl_47, kl_48, kl_50, kl_57, kl_59, kl_60, kl_61, kl_62, kl_63, kl_64, kl_97, kl_98, kl_99, kl_100, kl_101, kl_102, kl_103, kl_104, kl_105, kl_106, kl_107, kl_108, kl_109, kl_110, kl_111, kl_112, kl_113, kl_114, kl_115, kl_120, kl_124, kl_126, kl_127, kl_255, kl_720, kl_2048, kl_252645135, kl_858993459, kl_1431655765, kl_1640531535, kl_2000000000])
            rfl
          all_goals intro _
          all_goals try (exfalso; first | (rename_i q; exact q trivial) | (rename_i q; exact q) | omega)
        | with_reducible apply wp_mr
        | with_reducible apply wp_b
          · simp (disch := omega) only [Int.add_zero, Int.zero_add, true_or, or_true, true_and, and_true, not_false_eq_true, not_true_eq_false, if_true, if_false, if_pos, if_neg, ki_add, ki_sub, ki_mul, ki_neg, ki_lt, ki_le, ki_eq, ki_cl, ki_div, ki_ite, ck5, kl_0, kl_1, kl_2, kl_3, kl_4, kl_5, kl_6, kl_7, kl_8, kl_9, kl_10, kl_11, kl_12, kl_13, kl_14, kl_16, kl_20, kl_21, kl_30, kl_31, kl_32, kl_33, kl_35, kl_37, kl_38, kl_39, kl_40, kl_41, kl_42, kl_43, kl_45, kl_47, kl_48, kl_50, kl_57, kl_59, kl_60, kl_61, kl_62, kl_63, kl_64, kl_97, kl_98, kl_99, kl_100, kl_101, kl_102, kl_103, kl_104, kl_105, kl_106, kl_107, kl_108, kl_109, kl_110, kl_111, kl_112, kl_113, kl_114, kl_115, kl_120, kl_124, kl_126, kl_127, kl_255, kl_720, kl_2048, kl_252645135, kl_858993459, kl_1431655765, kl_1640531535, kl_2000000000]
            rfl
          all_goals intro _
          all_goals try (exfalso; first | (rename_i q; exact q trivial) | (rename_i q; exact q) | omega)
        | with_reducible apply wp_oe
          · simp (disch := omega) only [Int.add_zero, Int.zero_add, true_or, or_true, true_and, and_true, not_false_eq_true, not_true_eq_false, if_true, if_false, if_pos, if_neg, ki_add, ki_sub, ki_mul, ki_neg, ki_lt, ki_le, ki_eq, ki_cl, ki_div, ki_ite, ck5, kl_0, kl_1, kl_2, kl_3, kl_4, kl_5, kl_6, kl_7, kl_8, kl_9, kl_10, kl_11, kl_12, kl_13, kl_14, kl_16, kl_20, kl_21, kl_30, kl_31, kl_32, kl_33, kl_35, kl_37, kl_38, kl_39, kl_40, kl_41, kl_42, kl_43, kl_45, kl_47, kl_48, kl_50, kl_57, kl_59, kl_60, kl_61, kl_62, kl_63, kl_64, kl_97, kl_98, kl_99, kl_100, kl_101, kl_102, kl_103, kl_104, kl_105, kl_106, kl_107, kl_108, kl_109, kl_110, kl_111, kl_112, kl_113, kl_114, kl_115, kl_120, kl_124, kl_126, kl_127, kl_255, kl_720, kl_2048, kl_252645135, kl_858993459, kl_1431655765, kl_1640531535, kl_2000000000]
            try rfl
        | with_reducible apply wp_sv
          · (try simp (disch := omega) only [bi, Int.add_zero, Int.zero_add, true_or, or_true, true_and, and_true, not_false_eq_true, not_true_eq_false, if_true, if_false, if_pos, if_neg, ki_add, ki_sub, ki_mul, ki_neg, ki_lt, ki_le, ki_eq, ki_cl, ki_div, ki_ite, ck5, kl_0, kl_1, kl_2, kl_3, kl_4, kl_5, kl_6, kl_7, kl_8, kl_9, kl_10, kl_11, kl_12, kl_13, kl_14, kl_16, kl_20, kl_21, kl_30, kl_31, kl_32, kl_33, kl_35, kl_37, kl_38, kl_39, kl_40, kl_41, kl_42, kl_43, kl_45, kl_47, kl_48, kl_50, kl_57, kl_59, kl_60, kl_61, kl_62, kl_63, kl_64, kl_97, kl_98, kl_99, kl_100, kl_101, kl_102, kl_103, kl_104, kl_105, kl_106, kl_107, kl_108, kl_109, kl_110, kl_111, kl_112, kl_113, kl_114, kl_115, kl_120, kl_124, kl_126, kl_127, kl_255, kl_720, kl_2048, kl_252645135, kl_858993459, kl_1431655765, kl_1640531535, kl_2000000000])
            rfl
        | with_reducible apply wp_so
      exact qr ⟨by rw [← e]; rfl, hf1, hl1⟩
    | succ m =>
      have em : fiS gn η (pcl c) t (m + 1) k = if pcl c (daysN gn k η) < t then fiS gn η (pcl c) t m (k + 1) else (k : Int) := rfl
      rw [em] at e
      by_cases hc : c < 0
      · have ep : pcl c (daysN gn k η) = hhS (daysN gn k η) := by unfold pcl; rw [if_pos hc]
        rw [ep] at e
        repeat' first
          | with_reducible apply wp_bd
            · (try simp (disch := omega) only [bi, Int.add_zero, Int.zero_add, true_or, or_true, true_and, and_true, not_false_eq_true, not_true_eq_false, if_true, if_false, if_pos, if_neg, ki_add, ki_sub, ki_mul, ki_neg, ki_lt, ki_le, ki_eq, ki_cl, ki_div, ki_ite, ck5, kl_0, kl_1, kl_2, kl_3, kl_4, kl_5, kl_6, kl_7, kl_8, kl_9, kl_10, kl_11, kl_12, kl_13, kl_14, kl_16, kl_20, kl_21, kl_30, kl_31, kl_32, kl_33, kl_35, kl_37, kl_38, kl_39, kl_40, kl_41, kl_42, kl_43, kl_45, kl_47, kl_48, kl_50, kl_57, kl_59, kl_60, kl_61, kl_62, kl_63, kl_64, kl_97, kl_98, kl_99, kl_100, kl_101, kl_102, kl_103, kl_104, kl_105, kl_106, kl_107, kl_108, kl_109, kl_110, kl_111, kl_112, kl_113, kl_114, kl_115, kl_120, kl_124, kl_126, kl_127, kl_255, kl_720, kl_2048, kl_252645135, kl_858993459, kl_1431655765, kl_1640531535, kl_2000000000, y])
              rfl
          | with_reducible apply wp_in
            · (try simp (disch := omega) only [bi, Int.add_zero, Int.zero_add, true_or, or_true, true_and, and_true, not_false_eq_true, not_true_eq_false, if_true, if_false, if_pos, if_neg, ki_add, ki_sub, ki_mul, ki_neg, ki_lt, ki_le, ki_eq, ki_cl, ki_div, ki_ite, ck5, kl_0, kl_1, kl_2, kl_3, kl_4, kl_5, kl_6, kl_7, kl_8, kl_9, kl_10, kl_11, kl_12, kl_13, kl_14, kl_16, kl_20, kl_21, kl_30, kl_31, kl_32, kl_33, kl_35, kl_37, kl_38, kl_39, kl_40, kl_41, kl_42, kl_43, kl_45, kl_47, kl_48, kl_50, kl_57, kl_59, kl_60, kl_61, kl_62, kl_63, kl_64, kl_97, kl_98, kl_99, kl_100, kl_101, kl_102, kl_103, kl_104, kl_105, kl_106, kl_107, kl_108, kl_109, kl_110, kl_111, kl_112, kl_113, kl_114, kl_115, kl_120, kl_124, kl_126, kl_127, kl_255, kl_720, kl_2048, kl_252645135, kl_858993459, kl_1431655765, kl_1640531535, kl_2000000000, y])
              rfl
            · decide
            · omega
            · omega
          | with_reducible apply wp_gd
            · (try simp (disch := omega) only [bi, Int.add_zero, Int.zero_add, true_or, or_true, true_and, and_true, not_false_eq_true, not_true_eq_false, if_true, if_false, if_pos, if_neg, ki_add, ki_sub, ki_mul, ki_neg, ki_lt, ki_le, ki_eq, ki_cl, ki_div, ki_ite, ck5, kl_0, kl_1, kl_2, kl_3, kl_4, kl_5, kl_6, kl_7, kl_8, kl_9, kl_10, kl_11, kl_12, kl_13, kl_14, kl_16, kl_20, kl_21, kl_30, kl_31, kl_32, kl_33, kl_35, kl_37, kl_38, kl_39, kl_40, kl_41, kl_42, kl_43, kl_45, kl_47, kl_48, kl_50, kl_57, kl_59, kl_60, kl_61, kl_62, kl_63, kl_64, kl_97, kl_98, kl_99, kl_100, kl_101, kl_102, kl_103, kl_104, kl_105, kl_106, kl_107, kl_108, kl_109, kl_110, kl_111, kl_112, kl_113, kl_114, kl_115, kl_120, kl_124, kl_126, kl_127, kl_255, kl_720, kl_2048, kl_252645135, kl_858993459, kl_1431655765, kl_1640531535, kl_2000000000, y])
              rfl
            · first | exact True.intro | omega | assumption
          | with_reducible apply wp_is
            · (try simp (disch := omega) only [bi, Int.add_zero, Int.zero_add, true_or, or_true, true_and, and_true, not_false_eq_true, not_true_eq_false, if_true, if_false, if_pos, if_neg, ki_add, ki_sub, ki_mul, ki_neg, ki_lt, ki_le, ki_eq, ki_cl, ki_div, ki_ite, ck5, kl_0, kl_1, kl_2, kl_3, kl_4, kl_5, kl_6, kl_7, kl_8, kl_9, kl_10, kl_11, kl_12, kl_13, kl_14, kl_16, kl_20, kl_21, kl_30, kl_31, kl_32, kl_33, kl_35, kl_37, kl_38, kl_39, kl_40, kl_41, kl_42, kl_43, kl_45, kl_47, kl_48, kl_50, kl_57, kl_59, kl_60, kl_61, kl_62, kl_63, kl_64, kl_97, kl_98, kl_99, kl_100, kl_101, kl_102, kl_103, kl_104, kl_105, kl_106, kl_107, kl_108, kl_109, kl_110, kl_111, kl_112, kl_113, kl_114, kl_115, kl_120, kl_124, kl_126, kl_127, kl_255, kl_720, kl_2048, kl_252645135, kl_858993459, kl_1431655765, kl_1640531535, kl_2000000000, y])
              rfl
            all_goals intro _
            all_goals try (exfalso; first | (rename_i q; exact q trivial) | (rename_i q; exact q) | omega)
          | with_reducible apply wp_mr
          | with_reducible apply wp_b
            · simp (disch := omega) only [Int.add_zero, Int.zero_add, true_or, or_true, true_and, and_true, not_false_eq_true, not_true_eq_false, if_true, if_false, if_pos, if_neg, ki_add, ki_sub, ki_mul, ki_neg, ki_lt, ki_le, ki_eq, ki_cl, ki_div, ki_ite, ck5, kl_0, kl_1, kl_2, kl_3, kl_4, kl_5, kl_6, kl_7, kl_8, kl_9, kl_10, kl_11, kl_12, kl_13, kl_14, kl_16, kl_20, kl_21, kl_30, kl_31, kl_32, kl_33, kl_35, kl_37, kl_38, kl_39, kl_40, kl_41, kl_42, kl_43, kl_45, kl_47, kl_48, kl_50, kl_57, kl_59, kl_60, kl_61, kl_62, kl_63, kl_64, kl_97, kl_98, kl_99, kl_100, kl_101, kl_102, kl_103, kl_104, kl_105, kl_106, kl_107, kl_108, kl_109, kl_110, kl_111, kl_112, kl_113, kl_114, kl_115, kl_120, kl_124, kl_126, kl_127, kl_255, kl_720, kl_2048, kl_252645135, kl_858993459, kl_1431655765, kl_1640531535, kl_2000000000, y]
              rfl
            all_goals intro _
            all_goals try (exfalso; first | (rename_i q; exact q trivial) | (rename_i q; exact q) | omega)
          | with_reducible apply wp_oe
            · simp (disch := omega) only [Int.add_zero, Int.zero_add, true_or, or_true, true_and, and_true, not_false_eq_true, not_true_eq_false, if_true, if_false, if_pos, if_neg, ki_add, ki_sub, ki_mul, ki_neg, ki_lt, ki_le, ki_eq, ki_cl, ki_div, ki_ite, ck5, kl_0, kl_1, kl_2, kl_3, kl_4, kl_5, kl_6, kl_7, kl_8, kl_9, kl_10, kl_11, kl_12, kl_13, kl_14, kl_16, kl_20, kl_21, kl_30, kl_31, kl_32, kl_33, kl_35, kl_37, kl_38, kl_39, kl_40, kl_41, kl_42, kl_43, kl_45, kl_47, kl_48, kl_50, kl_57, kl_59, kl_60, kl_61, kl_62, kl_63, kl_64, kl_97, kl_98, kl_99, kl_100, kl_101, kl_102, kl_103, kl_104, kl_105, kl_106, kl_107, kl_108, kl_109, kl_110, kl_111, kl_112, kl_113, kl_114, kl_115, kl_120, kl_124, kl_126, kl_127, kl_255, kl_720, kl_2048, kl_252645135, kl_858993459, kl_1431655765, kl_1640531535, kl_2000000000, y]
              try rfl
          | with_reducible apply wp_sv
            · (try simp (disch := omega) only [bi, Int.add_zero, Int.zero_add, true_or, or_true, true_and, and_true, not_false_eq_true, not_true_eq_false, if_true, if_false, if_pos, if_neg, ki_add, ki_sub, ki_mul, ki_neg, ki_lt, ki_le, ki_eq, ki_cl, ki_div, ki_ite, ck5, kl_0, kl_1, kl_2, kl_3, kl_4, kl_5, kl_6, kl_7, kl_8, kl_9, kl_10, kl_11, kl_12, kl_13, kl_14, kl_16, kl_20, kl_21, kl_30, kl_31, kl_32, kl_33, kl_35, kl_37, kl_38, kl_39, kl_40, kl_41, kl_42, kl_43, kl_45, kl_47, kl_48, kl_50, kl_57, kl_59, kl_60, kl_61, kl_62, kl_63, kl_64, kl_97, kl_98, kl_99, kl_100, kl_101, kl_102, kl_103, kl_104, kl_105, kl_106, kl_107, kl_108, kl_109, kl_110, kl_111, kl_112, kl_113, kl_114, kl_115, kl_120, kl_124, kl_126, kl_127, kl_255, kl_720, kl_2048, kl_252645135, kl_858993459, kl_1431655765, kl_1640531535, kl_2000000000, y])
              rfl
          | with_reducible apply wp_so
        · rw [if_pos (by omega)] at e
          refine wp_ob (x_days1 hw hh1 hl1 hf1) (fun u2 a2 hp => ?_)
          repeat' first
            | with_reducible apply wp_bd
              · (try simp (disch := omega) only [bi, Int.add_zero, Int.zero_add, true_or, or_true, true_and, and_true, not_false_eq_true, not_true_eq_false, if_true, if_false, if_pos, if_neg, ki_add, ki_sub, ki_mul, ki_neg, ki_lt, ki_le, ki_eq, ki_cl, ki_div, ki_ite, ck5, kl_0, kl_1, kl_2, kl_3, kl_4, kl_5, kl_6, kl_7, kl_8, kl_9, kl_10, kl_11, kl_12, kl_13, kl_14, kl_16, kl_20, kl_21, kl_30, kl_31, kl_32, kl_33, kl_35, kl_37, kl_38, kl_39, kl_40, kl_41, kl_42, kl_43, kl_45, kl_47, kl_48, kl_50, kl_57, kl_59, kl_60, kl_61, kl_62, kl_63, kl_64, kl_97, kl_98, kl_99, kl_100, kl_101, kl_102, kl_103, kl_104, kl_105, kl_106, kl_107, kl_108, kl_109, kl_110, kl_111, kl_112, kl_113, kl_114, kl_115, kl_120, kl_124, kl_126, kl_127, kl_255, kl_720, kl_2048, kl_252645135, kl_858993459, kl_1431655765, kl_1640531535, kl_2000000000])
                rfl
            | with_reducible apply wp_in
              · (try simp (disch := omega) only [bi, Int.add_zero, Int.zero_add, true_or, or_true, true_and, and_true, not_false_eq_true, not_true_eq_false, if_true, if_false, if_pos, if_neg, ki_add, ki_sub, ki_mul, ki_neg, ki_lt, ki_le, ki_eq, ki_cl, ki_div, ki_ite, ck5, kl_0, kl_1, kl_2, kl_3, kl_4, kl_5, kl_6, kl_7, kl_8, kl_9, kl_10, kl_11, kl_12, kl_13, kl_14, kl_16, kl_20, kl_21, kl_30, kl_31, kl_32, kl_33, kl_35, kl_37, kl_38, kl_39, kl_40, kl_41, kl_42, kl_43, kl_45, kl_47, kl_48, kl_50, kl_57, kl_59, kl_60, kl_61, kl_62, kl_63, kl_64, kl_97, kl_98, kl_99, kl_100, kl_101, kl_102, kl_103, kl_104, kl_105, kl_106, kl_107, kl_108, kl_109, kl_110, kl_111, kl_112, kl_113, kl_114, kl_115, kl_120, kl_124, kl_126, kl_127, kl_255, kl_720, kl_2048, kl_252645135, kl_858993459, kl_1431655765, kl_1640531535, kl_2000000000])
                rfl
              · decide
              · omega
              · omega
            | with_reducible apply wp_gd
              · (try simp (disch := omega) only [bi, Int.add_zero, Int.zero_add, true_or, or_true, true_and, and_true, not_false_eq_true, not_true_eq_false, if_true, if_false, if_pos, if_neg, ki_add, ki_sub, ki_mul, ki_neg, ki_lt, ki_le, ki_eq, ki_cl, ki_div, ki_ite, ck5, kl_0, kl_1, kl_2, kl_3, kl_4, kl_5, kl_6, kl_7, kl_8, kl_9, kl_10, kl_11, kl_12, kl_13, kl_14, kl_16, kl_20, kl_21, kl_30, kl_31, kl_32, kl_33, kl_35, kl_37, kl_38, kl_39, kl_40, kl_41, kl_42, kl_43, kl_45, kl_47, kl_48, kl_50, kl_57, kl_59, kl_60, kl_61, kl_62, kl_63, kl_64, kl_97, kl_98, kl_99, kl_100, kl_101, kl_102, kl_103, kl_104, kl_105, kl_106, kl_107, kl_108, kl_109, kl_110, kl_111, kl_112, kl_113, kl_114, kl_115, kl_120, kl_124, kl_126, kl_127, kl_255, kl_720, kl_2048, kl_252645135, kl_858993459, kl_1431655765, kl_1640531535, kl_2000000000])
                rfl
              · first | exact True.intro | omega | assumption
            | with_reducible apply wp_is
              · (try simp (disch := omega) only [bi, Int.add_zero, Int.zero_add, true_or, or_true, true_and, and_true, not_false_eq_true, not_true_eq_false, if_true, if_false, if_pos, if_neg, ki_add, ki_sub, ki_mul, ki_neg, ki_lt, ki_le, ki_eq, ki_cl, ki_div, ki_ite, ck5, kl_0, kl_1, kl_2, kl_3, kl_4, kl_5, kl_6, kl_7, kl_8, kl_9, kl_10, kl_11, kl_12, kl_13, kl_14, kl_16, kl_20, kl_21, kl_30, kl_31, kl_32, kl_33, kl_35, kl_37, kl_38, kl_39, kl_40, kl_41, kl_42, kl_43, kl_45, kl_47, kl_48, kl_50, kl_57, kl_59, kl_60, kl_61, kl_62, kl_63, kl_64, kl_97, kl_98, kl_99, kl_100, kl_101, kl_102, kl_103, kl_104, kl_105, kl_106, kl_107, kl_108, kl_109, kl_110, kl_111, kl_112, kl_113, kl_114, kl_115, kl_120, kl_124, kl_126, kl_127, kl_255, kl_720, kl_2048, kl_252645135, kl_858993459, kl_1431655765, kl_1640531535, kl_2000000000])
                rfl
              all_goals intro _
              all_goals try (exfalso; first | (rename_i q; exact q trivial) | (rename_i q; exact q) | omega)
            | with_reducible apply wp_mr
            | with_reducible apply wp_b
              · simp (disch := omega) only [Int.add_zero, Int.zero_add, true_or, or_true, true_and, and_true, not_false_eq_true, not_true_eq_false, if_true, if_false, if_pos, if_neg, ki_add, ki_sub, ki_mul, ki_neg, ki_lt, ki_le, ki_eq, ki_cl, ki_div, ki_ite, ck5, kl_0, kl_1, kl_2, kl_3, kl_4, kl_5, kl_6, kl_7, kl_8, kl_9, kl_10, kl_11, kl_12, kl_13, kl_14, kl_16, kl_20, kl_21, kl_30, kl_31, kl_32, kl_33, kl_35, kl_37, kl_38, kl_39, kl_40, kl_41, kl_42, kl_43, kl_45, kl_47, kl_48, kl_50, kl_57, kl_59, kl_60, kl_61, kl_62, kl_63, kl_64, kl_97, kl_98, kl_99, kl_100, kl_101, kl_102, kl_103, kl_104, kl_105, kl_106, kl_107, kl_108, kl_109, kl_110, kl_111, kl_112, kl_113, kl_114, kl_115, kl_120, kl_124, kl_126, kl_127, kl_255, kl_720, kl_2048, kl_252645135, kl_858993459, kl_1431655765, kl_1640531535, kl_2000000000]
                rfl
              all_goals intro _
              all_goals try (exfalso; first | (rename_i q; exact q trivial) | (rename_i q; exact q) | omega)
            | with_reducible apply wp_oe
              · simp (disch := omega) only [Int.add_zero, Int.zero_add, true_or, or_true, true_and, and_true, not_false_eq_true, not_true_eq_false, if_true, if_false, if_pos, if_neg, ki_add, ki_sub, ki_mul, ki_neg, ki_lt, ki_le, ki_eq, ki_cl, ki_div, ki_ite, ck5, kl_0, kl_1, kl_2, kl_3, kl_4, kl_5, kl_6, kl_7, kl_8, kl_9, kl_10, kl_11, kl_12, kl_13, kl_14, kl_16, kl_20, kl_21, kl_30, kl_31, kl_32, kl_33, kl_35, kl_37, kl_38, kl_39, kl_40, kl_41, kl_42, kl_43, kl_45, kl_47, kl_48, kl_50, kl_57, kl_59, kl_60, kl_61, kl_62, kl_63, kl_64, kl_97, kl_98, kl_99, kl_100, kl_101, kl_102, kl_103, kl_104, kl_105, kl_106, kl_107, kl_108, kl_109, kl_110, kl_111, kl_112, kl_113, kl_114, kl_115, kl_120, kl_124, kl_126, kl_127, kl_255, kl_720, kl_2048, kl_252645135, kl_858993459, kl_1431655765, kl_1640531535, kl_2000000000]
                try rfl
            | with_reducible apply wp_sv
              · (try simp (disch := omega) only [bi, Int.add_zero, Int.zero_add, true_or, or_true, true_and, and_true, not_false_eq_true, not_true_eq_false, if_true, if_false, if_pos, if_neg, ki_add, ki_sub, ki_mul, ki_neg, ki_lt, ki_le, ki_eq, ki_cl, ki_div, ki_ite, ck5, kl_0, kl_1, kl_2, kl_3, kl_4, kl_5, kl_6, kl_7, kl_8, kl_9, kl_10, kl_11, kl_12, kl_13, kl_14, kl_16, kl_20, kl_21, kl_30, kl_31, kl_32, kl_33, kl_35, kl_37, kl_38, kl_39, kl_40, kl_41, kl_42, kl_43, kl_45, kl_47, kl_48, kl_50, kl_57, kl_59, kl_60, kl_61, kl_62, kl_63, kl_64, kl_97, kl_98, kl_99, kl_100, kl_101, kl_102, kl_103, kl_104, kl_105, kl_106, kl_107, kl_108, kl_109, kl_110, kl_111, kl_112, kl_113, kl_114, kl_115, kl_120, kl_124, kl_126, kl_127, kl_255, kl_720, kl_2048, kl_252645135, kl_858993459, kl_1431655765, kl_1640531535, kl_2000000000])
                rfl
            | with_reducible apply wp_so
          exact ql ⟨m, by omega, k + 1, by rw [nsc], by omega, hp.1, hp.2.1, hp.2.2.1, e⟩
        · rw [if_neg (by omega)] at e
          exact qr ⟨congrArg ki e, hf1, hl1⟩
      · have ep : pcl c (daysN gn k η) = daysN gn k η 4 c := by unfold pcl; rw [if_neg hc]
        have r4 : S1.1 40 c.toNat = ki (daysN gn k η 4 c) := hh1.2.2.2.1 c (by omega) c1
        rw [ep] at e
        repeat' first
          | with_reducible apply wp_bd
            · (try simp (disch := omega) only [bi, Int.add_zero, Int.zero_add, true_or, or_true, true_and, and_true, not_false_eq_true, not_true_eq_false, if_true, if_false, if_pos, if_neg, ki_add, ki_sub, ki_mul, ki_neg, ki_lt, ki_le, ki_eq, ki_cl, ki_div, ki_ite, ck5, kl_0, kl_1, kl_2, kl_3, kl_4, kl_5, kl_6, kl_7, kl_8, kl_9, kl_10, kl_11, kl_12, kl_13, kl_14, kl_16, kl_20, kl_21, kl_30, kl_31, kl_32, kl_33, kl_35, kl_37, kl_38, kl_39, kl_40, kl_41, kl_42, kl_43, kl_45, kl_47, kl_48, kl_50, kl_57, kl_59, kl_60, kl_61, kl_62, kl_63, kl_64, kl_97, kl_98, kl_99, kl_100, kl_101, kl_102, kl_103, kl_104, kl_105, kl_106, kl_107, kl_108, kl_109, kl_110, kl_111, kl_112, kl_113, kl_114, kl_115, kl_120, kl_124, kl_126, kl_127, kl_255, kl_720, kl_2048, kl_252645135, kl_858993459, kl_1431655765, kl_1640531535, kl_2000000000, r4, Nat.reduceAdd])
              rfl
          | with_reducible apply wp_in
            · (try simp (disch := omega) only [bi, Int.add_zero, Int.zero_add, true_or, or_true, true_and, and_true, not_false_eq_true, not_true_eq_false, if_true, if_false, if_pos, if_neg, ki_add, ki_sub, ki_mul, ki_neg, ki_lt, ki_le, ki_eq, ki_cl, ki_div, ki_ite, ck5, kl_0, kl_1, kl_2, kl_3, kl_4, kl_5, kl_6, kl_7, kl_8, kl_9, kl_10, kl_11, kl_12, kl_13, kl_14, kl_16, kl_20, kl_21, kl_30, kl_31, kl_32, kl_33, kl_35, kl_37, kl_38, kl_39, kl_40, kl_41, kl_42, kl_43, kl_45, kl_47, kl_48, kl_50, kl_57, kl_59, kl_60, kl_61, kl_62, kl_63, kl_64, kl_97, kl_98, kl_99, kl_100, kl_101, kl_102, kl_103, kl_104, kl_105, kl_106, kl_107, kl_108, kl_109, kl_110, kl_111, kl_112, kl_113, kl_114, kl_115, kl_120, kl_124, kl_126, kl_127, kl_255, kl_720, kl_2048, kl_252645135, kl_858993459, kl_1431655765, kl_1640531535, kl_2000000000, r4, Nat.reduceAdd])
              rfl
            · decide
            · omega
            · omega
          | with_reducible apply wp_gd
            · (try simp (disch := omega) only [bi, Int.add_zero, Int.zero_add, true_or, or_true, true_and, and_true, not_false_eq_true, not_true_eq_false, if_true, if_false, if_pos, if_neg, ki_add, ki_sub, ki_mul, ki_neg, ki_lt, ki_le, ki_eq, ki_cl, ki_div, ki_ite, ck5, kl_0, kl_1, kl_2, kl_3, kl_4, kl_5, kl_6, kl_7, kl_8, kl_9, kl_10, kl_11, kl_12, kl_13, kl_14, kl_16, kl_20, kl_21, kl_30, kl_31, kl_32, kl_33, kl_35, kl_37, kl_38, kl_39, kl_40, kl_41, kl_42, kl_43, kl_45, kl_47, kl_48, kl_50, kl_57, kl_59, kl_60, kl_61, kl_62, kl_63, kl_64, kl_97, kl_98, kl_99, kl_100, kl_101, kl_102, kl_103, kl_104, kl_105, kl_106, kl_107, kl_108, kl_109, kl_110, kl_111, kl_112, kl_113, kl_114, kl_115, kl_120, kl_124, kl_126, kl_127, kl_255, kl_720, kl_2048, kl_252645135, kl_858993459, kl_1431655765, kl_1640531535, kl_2000000000, r4, Nat.reduceAdd])
              rfl
            · first | exact True.intro | omega | assumption
          | with_reducible apply wp_is
            · (try simp (disch := omega) only [bi, Int.add_zero, Int.zero_add, true_or, or_true, true_and, and_true, not_false_eq_true, not_true_eq_false, if_true, if_false, if_pos, if_neg, ki_add, ki_sub, ki_mul, ki_neg, ki_lt, ki_le, ki_eq, ki_cl, ki_div, ki_ite, ck5, kl_0, kl_1, kl_2, kl_3, kl_4, kl_5, kl_6, kl_7, kl_8, kl_9, kl_10, kl_11, kl_12, kl_13, kl_14, kl_16, kl_20, kl_21, kl_30, kl_31, kl_32, kl_33, kl_35, kl_37, kl_38, kl_39, kl_40, kl_41, kl_42, kl_43, kl_45, kl_47, kl_48, kl_50, kl_57, kl_59, kl_60, kl_61, kl_62, kl_63, kl_64, kl_97, kl_98, kl_99, kl_100, kl_101, kl_102, kl_103, kl_104, kl_105, kl_106, kl_107, kl_108, kl_109, kl_110, kl_111, kl_112, kl_113, kl_114, kl_115, kl_120, kl_124, kl_126, kl_127, kl_255, kl_720, kl_2048, kl_252645135, kl_858993459, kl_1431655765, kl_1640531535, kl_2000000000, r4, Nat.reduceAdd])
              rfl
            all_goals intro _
            all_goals try (exfalso; first | (rename_i q; exact q trivial) | (rename_i q; exact q) | omega)
          | with_reducible apply wp_mr
          | with_reducible apply wp_b
            · simp (disch := omega) only [Int.add_zero, Int.zero_add, true_or, or_true, true_and, and_true, not_false_eq_true, not_true_eq_false, if_true, if_false, if_pos, if_neg, ki_add, ki_sub, ki_mul, ki_neg, ki_lt, ki_le, ki_eq, ki_cl, ki_div, ki_ite, ck5, kl_0, kl_1, kl_2, kl_3, kl_4, kl_5, kl_6, kl_7, kl_8, kl_9, kl_10, kl_11, kl_12, kl_13, kl_14, kl_16, kl_20, kl_21, kl_30, kl_31, kl_32, kl_33, kl_35, kl_37, kl_38, kl_39, kl_40, kl_41, kl_42, kl_43, kl_45, kl_47, kl_48, kl_50, kl_57, kl_59, kl_60, kl_61, kl_62, kl_63, kl_64, kl_97, kl_98, kl_99, kl_100, kl_101, kl_102, kl_103, kl_104, kl_105, kl_106, kl_107, kl_108, kl_109, kl_110, kl_111, kl_112, kl_113, kl_114, kl_115, kl_120, kl_124, kl_126, kl_127, kl_255, kl_720, kl_2048, kl_252645135, kl_858993459, kl_1431655765, kl_1640531535, kl_2000000000, r4, Nat.reduceAdd]
              rfl
            all_goals intro _
            all_goals try (exfalso; first | (rename_i q; exact q trivial) | (rename_i q; exact q) | omega)
          | with_reducible apply wp_oe
            · simp (disch := omega) only [Int.add_zero, Int.zero_add, true_or, or_true, true_and, and_true, not_false_eq_true, not_true_eq_false, if_true, if_false, if_pos, if_neg, ki_add, ki_sub, ki_mul, ki_neg, ki_lt, ki_le, ki_eq, ki_cl, ki_div, ki_ite, ck5, kl_0, kl_1, kl_2, kl_3, kl_4, kl_5, kl_6, kl_7, kl_8, kl_9, kl_10, kl_11, kl_12, kl_13, kl_14, kl_16, kl_20, kl_21, kl_30, kl_31, kl_32, kl_33, kl_35, kl_37, kl_38, kl_39, kl_40, kl_41, kl_42, kl_43, kl_45, kl_47, kl_48, kl_50, kl_57, kl_59, kl_60, kl_61, kl_62, kl_63, kl_64, kl_97, kl_98, kl_99, kl_100, kl_101, kl_102, kl_103, kl_104, kl_105, kl_106, kl_107, kl_108, kl_109, kl_110, kl_111, kl_112, kl_113, kl_114, kl_115, kl_120, kl_124, kl_126, kl_127, kl_255, kl_720, kl_2048, kl_252645135, kl_858993459, kl_1431655765, kl_1640531535, kl_2000000000, r4, Nat.reduceAdd]
              try rfl
          | with_reducible apply wp_sv
            · (try simp (disch := omega) only [bi, Int.add_zero, Int.zero_add, true_or, or_true, true_and, and_true, not_false_eq_true, not_true_eq_false, if_true, if_false, if_pos, if_neg, ki_add, ki_sub, ki_mul, ki_neg, ki_lt, ki_le, ki_eq, ki_cl, ki_div, ki_ite, ck5, kl_0, kl_1, kl_2, kl_3, kl_4, kl_5, kl_6, kl_7, kl_8, kl_9, kl_10, kl_11, kl_12, kl_13, kl_14, kl_16, kl_20, kl_21, kl_30, kl_31, kl_32, kl_33, kl_35, kl_37, kl_38, kl_39, kl_40, kl_41, kl_42, kl_43, kl_45, kl_47, kl_48, kl_50, kl_57, kl_59, kl_60, kl_61, kl_62, kl_63, kl_64, kl_97, kl_98, kl_99, kl_100, kl_101, kl_102, kl_103, kl_104, kl_105, kl_106, kl_107, kl_108, kl_109, kl_110, kl_111, kl_112, kl_113, kl_114, kl_115, kl_120, kl_124, kl_126, kl_127, kl_255, kl_720, kl_2048, kl_252645135, kl_858993459, kl_1431655765, kl_1640531535, kl_2000000000, r4, Nat.reduceAdd])
              rfl
          | with_reducible apply wp_so
        · rw [if_pos (by omega)] at e
          refine wp_ob (x_days1 hw hh1 hl1 hf1) (fun u2 a2 hp => ?_)
          repeat' first
            | with_reducible apply wp_bd
              · (try simp (disch := omega) only [bi, Int.add_zero, Int.zero_add, true_or, or_true, true_and, and_true, not_false_eq_true, not_true_eq_false, if_true, if_false, if_pos, if_neg, ki_add, ki_sub, ki_mul, ki_neg, ki_lt, ki_le, ki_eq, ki_cl, ki_div, ki_ite, ck5, kl_0, kl_1, kl_2, kl_3, kl_4, kl_5, kl_6, kl_7, kl_8, kl_9, kl_10, kl_11, kl_12, kl_13, kl_14, kl_16, kl_20, kl_21, kl_30, kl_31, kl_32, kl_33, kl_35, kl_37, kl_38, kl_39, kl_40, kl_41, kl_42, kl_43, kl_45, kl_47, kl_48, kl_50, kl_57, kl_59, kl_60, kl_61, kl_62, kl_63, kl_64, kl_97, kl_98, kl_99, kl_100, kl_101, kl_102, kl_103, kl_104, kl_105, kl_106, kl_107, kl_108, kl_109, kl_110, kl_111, kl_112, kl_113, kl_114, kl_115, kl_120, kl_124, kl_126, kl_127, kl_255, kl_720, kl_2048, kl_252645135, kl_858993459, kl_1431655765, kl_1640531535, kl_2000000000])
                rfl
            | with_reducible apply wp_in
              · (try simp (disch := omega) only [bi, Int.add_zero, Int.zero_add, true_or, or_true, true_and, and_true, not_false_eq_true, not_true_eq_false, if_true, if_false, if_pos, if_neg, ki_add, ki_sub, ki_mul, ki_neg, ki_lt, ki_le, ki_eq, ki_cl, ki_div, ki_ite, ck5, kl_0, kl_1, kl_2, kl_3, kl_4, kl_5, kl_6, kl_7, kl_8, kl_9, kl_10, kl_11, kl_12, kl_13, kl_14, kl_16, kl_20, kl_21, kl_30, kl_31, kl_32, kl_33, kl_35, kl_37, kl_38, kl_39, kl_40, kl_41, kl_42, kl_43, kl_45, kl_47, kl_48, kl_50, kl_57, kl_59, kl_60, kl_61, kl_62, kl_63, kl_64, kl_97, kl_98, kl_99, kl_100, kl_101, kl_102, kl_103, kl_104, kl_105, kl_106, kl_107, kl_108, kl_109, kl_110, kl_111, kl_112, kl_113, kl_114, kl_115, kl_120, kl_124, kl_126, kl_127, kl_255, kl_720, kl_2048, kl_252645135, kl_858993459, kl_1431655765, kl_1640531535, kl_2000000000])
                rfl
              · decide
              · omega
              · omega
            | with_reducible apply wp_gd
              · (try simp (disch := omega) only [bi, Int.add_zero, Int.zero_add, true_or, or_true, true_and, and_true, not_false_eq_true, not_true_eq_false, if_true, if_false, if_pos, if_neg, ki_add, ki_sub, ki_mul, ki_neg, ki_lt, ki_le, ki_eq, ki_cl, ki_div, ki_ite, ck5, kl_0, kl_1, kl_2, kl_3, kl_4, kl_5, kl_6, kl_7, kl_8, kl_9, kl_10, kl_11, kl_12, kl_13, kl_14, kl_16, kl_20, kl_21, kl_30, kl_31, kl_32, kl_33, kl_35, kl_37, kl_38, kl_39, kl_40, kl_41, kl_42, kl_43, kl_45, kl_47, kl_48, kl_50, kl_57, kl_59, kl_60, kl_61, kl_62, kl_63, kl_64, kl_97, kl_98, kl_99, kl_100, kl_101, kl_102, kl_103, kl_104, kl_105, kl_106, kl_107, kl_108, kl_109, kl_110, kl_111, kl_112, kl_113, kl_114, kl_115, kl_120, kl_124, kl_126, kl_127, kl_255, kl_720, kl_2048, kl_252645135, kl_858993459, kl_1431655765, kl_1640531535, kl_2000000000])
                rfl
              · first | exact True.intro | omega | assumption
            | with_reducible apply wp_is
              · (try simp (disch := omega) only [bi, Int.add_zero, Int.zero_add, true_or, or_true, true_and, and_true, not_false_eq_true, not_true_eq_false, if_true, if_false, if_pos, if_neg, ki_add, ki_sub, ki_mul, ki_neg, ki_lt, ki_le, ki_eq, ki_cl, ki_div, ki_ite, ck5, kl_0, kl_1, kl_2, kl_3, kl_4, kl_5, kl_6, kl_7, kl_8, kl_9, kl_10, kl_11, kl_12, kl_13, kl_14, kl_16, kl_20, kl_21, kl_30, kl_31, kl_32, kl_33, kl_35, kl_37, kl_38, kl_39, kl_40, kl_41, kl_42, kl_43, kl_45, kl_47, kl_48, kl_50, kl_57, kl_59, kl_60, kl_61, kl_62, kl_63, kl_64, kl_97, kl_98, kl_99, kl_100, kl_101, kl_102, kl_103, kl_104, kl_105, kl_106, kl_107, kl_108, kl_109, kl_110, kl_111, kl_112, kl_113, kl_114, kl_115, kl_120, kl_124, kl_126, kl_127, kl_255, kl_720, kl_2048, kl_252645135, kl_858993459, kl_1431655765, kl_1640531535, kl_2000000000])
                rfl
              all_goals intro _
              all_goals try (exfalso; first | (rename_i q; exact q trivial) | (rename_i q; exact q) | omega)
            | with_reducible apply wp_mr
            | with_reducible apply wp_b
              · simp (disch := omega) only [Int.add_zero, Int.zero_add, true_or, or_true, true_and, and_true, not_false_eq_true, not_true_eq_false, if_true, if_false, if_pos, if_neg, ki_add, ki_sub, ki_mul, ki_neg, ki_lt, ki_le, ki_eq, ki_cl, ki_div, ki_ite, ck5, kl_0, kl_1, kl_2, kl_3, kl_4, kl_5, kl_6, kl_7, kl_8, kl_9, kl_10, kl_11, kl_12, kl_13, kl_14, kl_16, kl_20, kl_21, kl_30, kl_31, kl_32, kl_33, kl_35, kl_37, kl_38, kl_39, kl_40, kl_41, kl_42, kl_43, kl_45, kl_47, kl_48, kl_50, kl_57, kl_59, kl_60, kl_61, kl_62, kl_63, kl_64, kl_97, kl_98, kl_99, kl_100, kl_101, kl_102, kl_103, kl_104, kl_105, kl_106, kl_107, kl_108, kl_109, kl_110, kl_111, kl_112, kl_113, kl_114, kl_115, kl_120, kl_124, kl_126, kl_127, kl_255, kl_720, kl_2048, kl_252645135, kl_858993459, kl_1431655765, kl_1640531535, kl_2000000000]
                rfl
              all_goals intro _
              all_goals try (exfalso; first | (rename_i q; exact q trivial) | (rename_i q; exact q) | omega)
            | with_reducible apply wp_oe
              · simp (disch := omega) only [Int.add_zero, Int.zero_add, true_or, or_true, true_and, and_true, not_false_eq_true, not_true_eq_false, if_true, if_false, if_pos, if_neg, ki_add, ki_sub, ki_mul, ki_neg, ki_lt, ki_le, ki_eq, ki_cl, ki_div, ki_ite, ck5, kl_0, kl_1, kl_2, kl_3, kl_4, kl_5, kl_6, kl_7, kl_8, kl_9, kl_10, kl_11, kl_12, kl_13, kl_14, kl_16, kl_20, kl_21, kl_30, kl_31, kl_32, kl_33, kl_35, kl_37, kl_38, kl_39, kl_40, kl_41, kl_42, kl_43, kl_45, kl_47, kl_48, kl_50, kl_57, kl_59, kl_60, kl_61, kl_62, kl_63, kl_64, kl_97, kl_98, kl_99, kl_100, kl_101, kl_102, kl_103, kl_104, kl_105, kl_106, kl_107, kl_108, kl_109, kl_110, kl_111, kl_112, kl_113, kl_114, kl_115, kl_120, kl_124, kl_126, kl_127, kl_255, kl_720, kl_2048, kl_252645135, kl_858993459, kl_1431655765, kl_1640531535, kl_2000000000]
                try rfl
            | with_reducible apply wp_sv
              · (try simp (disch := omega) only [bi, Int.add_zero, Int.zero_add, true_or, or_true, true_and, and_true, not_false_eq_true, not_true_eq_false, if_true, if_false, if_pos, if_neg, ki_add, ki_sub, ki_mul, ki_neg, ki_lt, ki_le, ki_eq, ki_cl, ki_div, ki_ite, ck5, kl_0, kl_1, kl_2, kl_3, kl_4, kl_5, kl_6, kl_7, kl_8, kl_9, kl_10, kl_11, kl_12, kl_13, kl_14, kl_16, kl_20, kl_21, kl_30, kl_31, kl_32, kl_33, kl_35, kl_37, kl_38, kl_39, kl_40, kl_41, kl_42, kl_43, kl_45, kl_47, kl_48, kl_50, kl_57, kl_59, kl_60, kl_61, kl_62, kl_63, kl_64, kl_97, kl_98, kl_99, kl_100, kl_101, kl_102, kl_103, kl_104, kl_105, kl_106, kl_107, kl_108, kl_109, kl_110, kl_111, kl_112, kl_113, kl_114, kl_115, kl_120, kl_124, kl_126, kl_127, kl_255, kl_720, kl_2048, kl_252645135, kl_858993459, kl_1431655765, kl_1640531535, kl_2000000000])
                rfl
            | with_reducible apply wp_so
          exact ql ⟨m, by omega, k + 1, by rw [nsc], by omega, hp.1, hp.2.1, hp.2.2.1, e⟩
        · rw [if_neg (by omega)] at e
          exact qr ⟨congrArg ki e, hf1, hl1⟩
  · exact ⟨0, kl_0, by omega, hh, lawX_f hl hf (fun k hk => by unfold pH at hk; omega), fr_w hf (fun k hk => qX_H hk), rfl⟩
def slS (gn : (Int → Int) → Int) (η : Hy) (c : Int) : Nat → Nat → Int → Int → Int × Int
  | 0, _, b, m => (b, m)
  | n + 1, k, b, m => if m < valS (daysN gn k η) - c * k then slS gn η c n (k + 1) k (valS (daysN gn k η) - c * k) else slS gn η c n (k + 1) b m
