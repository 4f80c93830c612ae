/-! part 94: byTurns in the class: a node, the search -/
theorem gH_ {P : Nat → Nat → Prop} {o : Nat} {η : Hy} {S S' : xSt} (h : hx o η S) (e : eq_ P S S') (p : ∀ k j, P k j → k < o ∨ o + 8 < k) : hx o η S' := by
  have X : ∀ k j, o ≤ k → k ≤ o + 8 → S'.1 k j = S.1 k j := fun k j h1 h2 => e k j (fun q => by have := p k j q; omega)
  obtain ⟨q1, q2, q3, q4, q5, q6, q7, q8, q9, q10⟩ := h
  exact ⟨vw_s q1 (fun j => X _ j (by omega) (by omega)), vw_s q2 (fun j => X _ j (by omega) (by omega)), vw_s q3 (fun j => X _ j (by omega) (by omega)), vw_s q4 (fun j => X _ j (by omega) (by omega)), vw_s q5 (fun j => X _ j (by omega) (by omega)), vw_s q6 (fun j => X _ j (by omega) (by omega)), vw_s q7 (fun j => X _ j (by omega) (by omega)), vw_s q8 (fun j => X _ j (by omega) (by omega)), by rw [X _ _ (by omega) (by omega)]; exact q9, by rw [X _ _ (by omega) (by omega)]; exact q10⟩
theorem qV_o {k k' j : Nat} (hk : k < 3) (h : qV k k' j) : k' < 46 + 10 * k ∨ 46 + 10 * k + 8 < k' := by
  unfold qV pV at h
  omega
theorem qV_n {k : Nat} (hk : k < 3) : ¬ qV k 93 2 ∧ ¬ qV k 93 3 := by
  unfold qV pV
  omega
def kdV (gn : (Int → Int) → Int) (n r k : Nat) (η : Hy) (c : Nat) : Int := bst gn n r (k + 1) (deS k c η)
theorem kdV_e (gn : (Int → Int) → Int) (n r k : Nat) (η : Hy) (c : Nat) : bst gn n r (k + 1) (deS k c η) = kdV gn n r k η c := rfl
theorem bst_s (gn : (Int → Int) → Int) (n r k : Nat) (η : Hy) : bst gn n (r + 1) k η = foT (kdV gn n r k η) k (bst gn n r (k + 1) η) 6 := rfl
/-- what is known at the root -/
def rtI (f : Nat → Int) (v0 : Int) (k : Nat) (a b x6 x7 : Int) (j : Nat) (w : Int32) : Prop := k = 0 → a = -1 → b = 100 → 0 ≤ v0 → (∀ c : Nat, 0 ≤ f c) → x6 = -1 ∧ x7 = mjV f 0 v0 j ∧ (j = 0 ∨ w = ki (bdT f v0 j))
def loI (gn : (Int → Int) → Int) (f : Nat → Int) (v0 : Int) (k : Nat) (a b : Int) (S : xSt) (m : Nat) (q : xSt × Int32 × Int32 × Int32) : Prop := ∃ (j : Nat) (x6 x7 : Int), q.2.1 = ki x6 ∧ q.2.2.1 = ki x7 ∧ q.2.2.2 = ki j ∧ j + m = 7 ∧ winI k a b (mjV f k v0 j) x6 x7 ∧ lawX gn q.1 ∧ eq_ (qV k) S q.1 ∧ q.1.2 = S.2 ∧ rtI f v0 k a b x6 x7 j (q.1.1 93 5)
def rtQ (f : Nat → Int) (v0 : Int) (k : Nat) (a b : Int) (w : Int32) : Prop := k = 0 → a = -1 → b = 100 → 0 ≤ v0 → (∀ c : Nat, 0 ≤ f c) → w = ki (bdT f v0 7)
def loQ (gn : (Int → Int) → Int) (f : Nat → Int) (v0 : Int) (k : Nat) (a b : Int) (S : xSt) (q : xSt × Int32) : Prop := (∃ R : Int, q.2 = ki R ∧ -2 ≤ R ∧ R ≤ 100 ∧ okAB a b (foT f k v0 6) R ∧ lawX gn q.1 ∧ eq_ (pV k) S q.1 ∧ q.1.2 = S.2) ∧ rtQ f v0 k a b (q.1.1 93 5)
/-- the end of the loop -/
theorem x_lend {gn : (Int → Int) → Int} {f : Nat → Int} {v0 : Int} {S S1 : xSt} {k : Nat} {a b x5 x6 x7 : Int} {g : xSt → Int32 → Int32 → Int32 → Option (xSt × Int32)} (h5 : x5 = if k % 2 = 1 then 0 else 1) (ab : a < b) (hw : winI k a b (foT f k v0 6) x6 x7) (hl : lawX gn S1) (hf : eq_ (qV k) S S1) (h2 : S1.2 = S.2) (hr : rtQ f v0 k a b (S1.1 93 5)) : wp (f_X3_outcome_231 g (ki x5) (ki x6) (ki x7) S1) (loQ gn f v0 k a b S) := by
  have he := win_end ab hw
  unfold f_X3_outcome_231
  by_cases hk : k % 2 = 1
  · rw [if_pos hk] at h5 he
    subst h5
    obtain ⟨_, _, b1, b2⟩ := hw.1 hk
    repeat' first
      | with_reducible apply wp_bd
        · (try simp (disch := omega) only [bi, Int.add_zero, Int.zero_add, true_or, or_true, true_and, and_true, not_false_eq_true, not_true_eq_false, if_true, if_false, if_pos, if_neg, ki_add, ki_sub, ki_mul, ki_neg, ki_lt, ki_le, ki_eq, ki_cl, ki_div, ki_ite, ck5, kl_0, kl_1, kl_2, kl_3, kl_4, kl_5, kl_6, kl_7, kl_8, kl_9, kl_10, kl_11, kl_12, kl_13, kl_14, kl_16, kl_20, kl_21, kl_30, kl_31, kl_32, kl_33, kl_35, kl_37, kl_38, kl_39, kl_40, kl_41, kl_42, kl_43, kl_45, kl_47, kl_48, kl_50, kl_57, kl_59, kl_60, kl_61, kl_62, kl_63, kl_64, kl_97, kl_98, kl_99, kl_100, kl_101, kl_102, kl_103, kl_104, kl_105, kl_106, kl_107, kl_108, kl_109, kl_110, kl_111, kl_112, kl_113, kl_114, kl_115, kl_120, kl_124, kl_126, kl_127, kl_255, kl_720, kl_2048, kl_252645135, kl_858993459, kl_1431655765, kl_1640531535, kl_2000000000])
          rfl
      | with_reducible apply wp_in
        · (try simp (disch := omega) only [bi, Int.add_zero, Int.zero_add, true_or, or_true, true_and, and_true, not_false_eq_true, not_true_eq_false, if_true, if_false, if_pos, if_neg, ki_add, ki_sub, ki_mul, ki_neg, ki_lt, ki_le, ki_eq, ki_cl, ki_div, ki_ite, ck5, kl_0, kl_1, kl_2, kl_3, kl_4, kl_5, kl_6, kl_7, kl_8, kl_9, kl_10, kl_11, kl_12, kl_13, kl_14, kl_16, kl_20, kl_21, kl_30, kl_31, kl_32, kl_33, kl_35, kl_37, kl_38, kl_39, kl_40, kl_41, kl_42, kl_43, kl_45, kl_47, kl_48, kl_50, kl_57, kl_59, kl_60, kl_61, kl_62, kl_63, kl_64, kl_97, kl_98, kl_99, kl_100, kl_101, kl_102, kl_103, kl_104, kl_105, kl_106, kl_107, kl_108, kl_109, kl_110, kl_111, kl_112, kl_113, kl_114, kl_115, kl_120, kl_124, kl_126, kl_127, kl_255, kl_720, kl_2048, kl_252645135, kl_858993459, kl_1431655765, kl_1640531535, kl_2000000000])
          rfl
        · decide
        · omega
        · omega
      | with_reducible apply wp_gd
        · (try simp (disch := omega) only [bi, Int.add_zero, Int.zero_add, true_or, or_true, true_and, and_true, not_false_eq_true, not_true_eq_false, if_true, if_false, if_pos, if_neg, ki_add, ki_sub, ki_mul, ki_neg, ki_lt, ki_le, ki_eq, ki_cl, ki_div, ki_ite, ck5, kl_0, kl_1, kl_2, kl_3, kl_4, kl_5, kl_6, kl_7, kl_8, kl_9, kl_10, kl_11, kl_12, kl_13, kl_14, kl_16, kl_20, kl_21, kl_30, kl_31, kl_32, kl_33, kl_35, kl_37, kl_38, kl_39, kl_40, kl_41, kl_42, kl_43, kl_45, kl_47, kl_48, kl_50, kl_57, kl_59, kl_60, kl_61, kl_62, kl_63, kl_64, kl_97, kl_98, kl_99, kl_100, kl_101, kl_102, kl_103, kl_104, kl_105, kl_106, kl_107, kl_108, kl_109, kl_110, kl_111, kl_112, kl_113, kl_114, kl_115, kl_120, kl_124, kl_126, kl_127, kl_255, kl_720, kl_2048, kl_252645135, kl_858993459, kl_1431655765, kl_1640531535, kl_2000000000])
          rfl
        · first | exact True.intro | omega | assumption
      | with_reducible apply wp_is
        · (try simp (disch := omega) only [bi, Int.add_zero, Int.zero_add, true_or, or_true, true_and, and_true, not_false_eq_true, not_true_eq_false, if_true, if_false, if_pos, if_neg, ki_add, ki_sub, ki_mul, ki_neg, ki_lt, ki_le, ki_eq, ki_cl, ki_div, ki_ite, ck5, kl_0, kl_1, kl_2, kl_3, kl_4, kl_5, kl_6, kl_7, kl_8, kl_9, kl_10, kl_11, kl_12, kl_13, kl_14, kl_16, kl_20, kl_21, kl_30, kl_31, kl_32, kl_33, kl_35, kl_37, kl_38, kl_39, kl_40, kl_41, kl_42, kl_43, kl_45, kl_47, kl_48, kl_50, kl_57, kl_59, kl_60, kl_61, kl_62, kl_63, kl_64, kl_97, kl_98, kl_99, kl_100, kl_101, kl_102, kl_103, kl_104, kl_105, kl_106, kl_107, kl_108, kl_109, kl_110, kl_111, kl_112, kl_113, kl_114, kl_115, kl_120, kl_124, kl_126, kl_127, kl_255, kl_720, kl_2048, kl_252645135, kl_858993459, kl_1431655765, kl_1640531535, kl_2000000000])
          rfl
        all_goals intro _
        all_goals try (exfalso; first | (rename_i q; exact q trivial) | (rename_i q; exact q) | omega)
      | with_reducible apply wp_mr
      | with_reducible apply wp_b
        · simp (disch := omega) only [Int.add_zero, Int.zero_add, true_or, or_true, true_and, and_true, not_false_eq_true, not_true_eq_false, if_true, if_false, if_pos, if_neg, ki_add, ki_sub, ki_mul, ki_neg, ki_lt, ki_le, ki_eq, ki_cl, ki_div, ki_ite, ck5, kl_0, kl_1, kl_2, kl_3, kl_4, kl_5, kl_6, kl_7, kl_8, kl_9, kl_10, kl_11, kl_12, kl_13, kl_14, kl_16, kl_20, kl_21, kl_30, kl_31, kl_32, kl_33, kl_35, kl_37, kl_38, kl_39, kl_40, kl_41, kl_42, kl_43, kl_45, kl_47, kl_48, kl_50, kl_57, kl_59, kl_60, kl_61, kl_62, kl_63, kl_64, kl_97, kl_98, kl_99, kl_100, kl_101, kl_102, kl_103, kl_104, kl_105, kl_106, kl_107, kl_108, kl_109, kl_110, kl_111, kl_112, kl_113, kl_114, kl_115, kl_120, kl_124, kl_126, kl_127, kl_255, kl_720, kl_2048, kl_252645135, kl_858993459, kl_1431655765, kl_1640531535, kl_2000000000]
          rfl
        all_goals intro _
        all_goals try (exfalso; first | (rename_i q; exact q trivial) | (rename_i q; exact q) | omega)
      | with_reducible apply wp_oe
        · simp (disch := omega) only [Int.add_zero, Int.zero_add, true_or, or_true, true_and, and_true, not_false_eq_true, not_true_eq_false, if_true, if_false, if_pos, if_neg, ki_add, ki_sub, ki_mul, ki_neg, ki_lt, ki_le, ki_eq, ki_cl, ki_div, ki_ite, ck5, kl_0, kl_1, kl_2, kl_3, kl_4, kl_5, kl_6, kl_7, kl_8, kl_9, kl_10, kl_11, kl_12, kl_13, kl_14, kl_16, kl_20, kl_21, kl_30, kl_31, kl_32, kl_33, kl_35, kl_37, kl_38, kl_39, kl_40, kl_41, kl_42, kl_43, kl_45, kl_47, kl_48, kl_50, kl_57, kl_59, kl_60, kl_61, kl_62, kl_63, kl_64, kl_97, kl_98, kl_99, kl_100, kl_101, kl_102, kl_103, kl_104, kl_105, kl_106, kl_107, kl_108, kl_109, kl_110, kl_111, kl_112, kl_113, kl_114, kl_115, kl_120, kl_124, kl_126, kl_127, kl_255, kl_720, kl_2048, kl_252645135, kl_858993459, kl_1431655765, kl_1640531535, kl_2000000000]
          try rfl
      | with_reducible apply wp_sv
        · (try simp (disch := omega) only [bi, Int.add_zero, Int.zero_add, true_or, or_true, true_and, and_true, not_false_eq_true, not_true_eq_false, if_true, if_false, if_pos, if_neg, ki_add, ki_sub, ki_mul, ki_neg, ki_lt, ki_le, ki_eq, ki_cl, ki_div, ki_ite, ck5, kl_0, kl_1, kl_2, kl_3, kl_4, kl_5, kl_6, kl_7, kl_8, kl_9, kl_10, kl_11, kl_12, kl_13, kl_14, kl_16, kl_20, kl_21, kl_30, kl_31, kl_32, kl_33, kl_35, kl_37, kl_38, kl_39, kl_40, kl_41, kl_42, kl_43, kl_45, kl_47, kl_48, kl_50, kl_57, kl_59, kl_60, kl_61, kl_62, kl_63, kl_64, kl_97, kl_98, kl_99, kl_100, kl_101, kl_102, kl_103, kl_104, kl_105, kl_106, kl_107, kl_108, kl_109, kl_110, kl_111, kl_112, kl_113, kl_114, kl_115, kl_120, kl_124, kl_126, kl_127, kl_255, kl_720, kl_2048, kl_252645135, kl_858993459, kl_1431655765, kl_1640531535, kl_2000000000])
          rfl
      | with_reducible apply wp_so
    exact ⟨⟨x6, rfl, by omega, b2, he, hl, fun k' j hq => hf k' j (fun q => hq (qV_pV q)), h2⟩, hr⟩
  · rw [if_neg hk] at h5 he
    subst h5
    obtain ⟨_, _, b1, b2⟩ := hw.2 hk
    repeat' first
      | with_reducible apply wp_bd
        · (try simp (disch := omega) only [bi, Int.add_zero, Int.zero_add, true_or, or_true, true_and, and_true, not_false_eq_true, not_true_eq_false, if_true, if_false, if_pos, if_neg, ki_add, ki_sub, ki_mul, ki_neg, ki_lt, ki_le, ki_eq, ki_cl, ki_div, ki_ite, ck5, kl_0, kl_1, kl_2, kl_3, kl_4, kl_5, kl_6, kl_7, kl_8, kl_9, kl_10, kl_11, kl_12, kl_13, kl_14, kl_16, kl_20, kl_21, kl_30, kl_31, kl_32, kl_33, kl_35, kl_37, kl_38, kl_39, kl_40, kl_41, kl_42, kl_43, kl_45, kl_47, kl_48, kl_50, kl_57, kl_59, kl_60, kl_61, kl_62, kl_63, kl_64, kl_97, kl_98, kl_99, kl_100, kl_101, kl_102, kl_103, kl_104, kl_105, kl_106, kl_107, kl_108, kl_109, kl_110, kl_111, kl_112, kl_113, kl_114, kl_115, kl_120, kl_124, kl_126, kl_127, kl_255, kl_720, kl_2048, kl_252645135, kl_858993459, kl_1431655765, kl_1640531535, kl_2000000000])
          rfl
      | with_reducible apply wp_in
        · (try simp (disch := omega) only [bi, Int.add_zero, Int.zero_add, true_or, or_true, true_and, and_true, not_false_eq_true, not_true_eq_false, if_true, if_false, if_pos, if_neg, ki_add, ki_sub, ki_mul, ki_neg, ki_lt, ki_le, ki_eq, ki_cl, ki_div, ki_ite, ck5, kl_0, kl_1, kl_2, kl_3, kl_4, kl_5, kl_6, kl_7, kl_8, kl_9, kl_10, kl_11, kl_12, kl_13, kl_14, kl_16, kl_20, kl_21, kl_30, kl_31, kl_32, kl_33, kl_35, kl_37, kl_38, kl_39, kl_40, kl_41, kl_42, kl_43, kl_45, kl_47, kl_48, kl_50, kl_57, kl_59, kl_60, kl_61, kl_62, kl_63, kl_64, kl_97, kl_98, kl_99, kl_100, kl_101, kl_102, kl_103, kl_104, kl_105, kl_106, kl_107, kl_108, kl_109, kl_110, kl_111, kl_112, kl_113, kl_114, kl_115, kl_120, kl_124, kl_126, kl_127, kl_255, kl_720, kl_2048, kl_252645135, kl_858993459, kl_1431655765, kl_1640531535, kl_2000000000])
          rfl
        · decide
        · omega
        · omega
      | with_reducible apply wp_gd
        · (try simp (disch := omega) only [bi, Int.add_zero, Int.zero_add, true_or, or_true, true_and, and_true, not_false_eq_true, not_true_eq_false, if_true, if_false, if_pos, if_neg, ki_add, ki_sub, ki_mul, ki_neg, ki_lt, ki_le, ki_eq, ki_cl, ki_div, ki_ite, ck5, kl_0, kl_1, kl_2, kl_3, kl_4, kl_5, kl_6, kl_7, kl_8, kl_9, kl_10, kl_11, kl_12, kl_13, kl_14, kl_16, kl_20, kl_21, kl_30, kl_31, kl_32, kl_33, kl_35, kl_37, kl_38, kl_39, kl_40, kl_41, kl_42, kl_43, kl_45, kl_47, kl_48, kl_50, kl_57, kl_59, kl_60, kl_61, kl_62, kl_63, kl_64, kl_97, kl_98, kl_99, kl_100, kl_101, kl_102, kl_103, kl_104, kl_105, kl_106, kl_107, kl_108, kl_109, kl_110, kl_111, kl_112, kl_113, kl_114, kl_115, kl_120, kl_124, kl_126, kl_127, kl_255, kl_720, kl_2048, kl_252645135, kl_858993459, kl_1431655765, kl_1640531535, kl_2000000000])
          rfl
        · first | exact True.intro | omega | assumption
      | with_reducible apply wp_is
        · (try simp (disch := omega) only [bi, Int.add_zero, Int.zero_add, true_or, or_true, true_and, and_true, not_false_eq_true, not_true_eq_false, if_true, if_false, if_pos, if_neg, ki_add, ki_sub, ki_mul, ki_neg, ki_lt, ki_le, ki_eq, ki_cl, ki_div, ki_ite, ck5, kl_0, kl_1, kl_2, kl_3, kl_4, kl_5, kl_6, kl_7, kl_8, kl_9, kl_10, kl_11, kl_12, kl_13, kl_14, kl_16, kl_20, kl_21, kl_30, kl_31, kl_32, kl_33, kl_35, kl_37, kl_38, kl_39, kl_40, kl_41, kl_42, kl_43, kl_45, kl_47, kl_48, kl_50, kl_57, kl_59, kl_60, kl_61, kl_62, kl_63, kl_64, kl_97, kl_98, kl_99, kl_100, kl_101, kl_102, kl_103, kl_104, kl_105, kl_106, kl_107, kl_108, kl_109, kl_110, kl_111, kl_112, kl_113, kl_114, kl_115, kl_120, kl_124, kl_126, kl_127, kl_255, kl_720, kl_2048, kl_252645135, kl_858993459, kl_1431655765, kl_1640531535, kl_2000000000])
          rfl
        all_goals intro _
        all_goals try (exfalso; first | (rename_i q; exact q trivial) | (rename_i q; exact q) | omega)
      | with_reducible apply wp_mr
      | with_reducible apply wp_b
        · simp (disch := omega) only [Int.add_zero, Int.zero_add, true_or, or_true, true_and, and_true, not_false_eq_true, not_true_eq_false, if_true, if_false, if_pos, if_neg, ki_add, ki_sub, ki_mul, ki_neg, ki_lt, ki_le, ki_eq, ki_cl, ki_div, ki_ite, ck5, kl_0, kl_1, kl_2, kl_3, kl_4, kl_5, kl_6, kl_7, kl_8, kl_9, kl_10, kl_11, kl_12, kl_13, kl_14, kl_16, kl_20, kl_21, kl_30, kl_31, kl_32, kl_33, kl_35, kl_37, kl_38, kl_39, kl_40, kl_41, kl_42, kl_43, kl_45, kl_47, kl_48, kl_50, kl_57, kl_59, kl_60, kl_61, kl_62, kl_63, kl_64, kl_97, kl_98, kl_99, kl_100, kl_101, kl_102, kl_103, kl_104, kl_105, kl_106, kl_107, kl_108, kl_109, kl_110, kl_111, kl_112, kl_113, kl_114, kl_115, kl_120, kl_124, kl_126, kl_127, kl_255, kl_720, kl_2048, kl_252645135, kl_858993459, kl_1431655765, kl_1640531535, kl_2000000000]
          rfl
        all_goals intro _
        all_goals try (exfalso; first | (rename_i q; exact q trivial) | (rename_i q; exact q) | omega)
      | with_reducible apply wp_oe
        · simp (disch := omega) only [Int.add_zero, Int.zero_add, true_or, or_true, true_and, and_true, not_false_eq_true, not_true_eq_false, if_true, if_false, if_pos, if_neg, ki_add, ki_sub, ki_mul, ki_neg, ki_lt, ki_le, ki_eq, ki_cl, ki_div, ki_ite, ck5, kl_0, kl_1, kl_2, kl_3, kl_4, kl_5, kl_6, kl_7, kl_8, kl_9, kl_10, kl_11, kl_12, kl_13, kl_14, kl_16, kl_20, kl_21, kl_30, kl_31, kl_32, kl_33, kl_35, kl_37, kl_38, kl_39, kl_40, kl_41, kl_42, kl_43, kl_45, kl_47, kl_48, kl_50, kl_57, kl_59, kl_60, kl_61, kl_62, kl_63, kl_64, kl_97, kl_98, kl_99, kl_100, kl_101, kl_102, kl_103, kl_104, kl_105, kl_106, kl_107, kl_108, kl_109, kl_110, kl_111, kl_112, kl_113, kl_114, kl_115, kl_120, kl_124, kl_126, kl_127, kl_255, kl_720, kl_2048, kl_252645135, kl_858993459, kl_1431655765, kl_1640531535, kl_2000000000]
          try rfl
      | with_reducible apply wp_sv
        · (try simp (disch := omega) only [bi, Int.add_zero, Int.zero_add, true_or, or_true, true_and, and_true, not_false_eq_true, not_true_eq_false, if_true, if_false, if_pos, if_neg, ki_add, ki_sub, ki_mul, ki_neg, ki_lt, ki_le, ki_eq, ki_cl, ki_div, ki_ite, ck5, kl_0, kl_1, kl_2, kl_3, kl_4, kl_5, kl_6, kl_7, kl_8, kl_9, kl_10, kl_11, kl_12, kl_13, kl_14, kl_16, kl_20, kl_21, kl_30, kl_31, kl_32, kl_33, kl_35, kl_37, kl_38, kl_39, kl_40, kl_41, kl_42, kl_43, kl_45, kl_47, kl_48, kl_50, kl_57, kl_59, kl_60, kl_61, kl_62, kl_63, kl_64, kl_97, kl_98, kl_99, kl_100, kl_101, kl_102, kl_103, kl_104, kl_105, kl_106, kl_107, kl_108, kl_109, kl_110, kl_111, kl_112, kl_113, kl_114, kl_115, kl_120, kl_124, kl_126, kl_127, kl_255, kl_720, kl_2048, kl_252645135, kl_858993459, kl_1431655765, kl_1640531535, kl_2000000000])
          rfl
      | with_reducible apply wp_so
    exact ⟨⟨x7, rfl, b1, b2, he, hl, fun k' j hq => hf k' j (fun q => hq (qV_pV q)), h2⟩, hr⟩
theorem rt_nx {f : Nat → Int} {v0 : Int} {k j : Nat} {a b x5 x6 x7 R c : Int} {w w' : Int32} (h5 : x5 = if k % 2 = 1 then 0 else 1) (v1 : -2 ≤ v0) (v2 : v0 ≤ 99) (hr : rtI f v0 k a b x6 x7 j w)
    (hd : bdT f v0 (j + 1) = if mjV f 0 v0 j ≤ bjV f v0 j then bdT f v0 j else c) (hj0 : ¬ j = 0 ∨ ¬ mjV f 0 v0 j ≤ bjV f v0 j)
    (ho : okAB x6 x7 (bjV f v0 j) R) (h9 : k = 0 → w' = if x7 ≤ R then w else ki c) :
    rtI f v0 k a b (if x5 = 0 then (if R ≤ x6 then x6 else R) else x6) (if x5 = 0 then x7 else (if x7 ≤ R then x7 else R)) (j + 1) w' := by
  intro k0 ea eb p0 p1
  obtain ⟨r1, r2, r3⟩ := hr k0 ea eb p0 p1
  have h9' := h9 k0
  subst k0
  have e5 : x5 = 1 := h5
  have hst := mjV_st (f := f) (k := 0) v1 v2 j
  rw [pick_0 (by decide)] at hst
  have hB : 0 ≤ bjV f v0 j := by
    cases j with
    | zero => rw [bjV_0]; exact p0
    | succ j => rw [bjV_1]; exact p1 j
  rw [r1, r2] at ho
  have hle := rt_le hB ho
  have hv := rt_v hB ho
  clear hr h9 h5
  rw [if_neg (by rw [e5]; decide), if_neg (by rw [e5]; decide)]
  refine ⟨r1, ?_, Or.inr ?_⟩
  · rw [hst, r2]; exact hv
  · rw [h9', r2, hd]
    by_cases e : mjV f 0 v0 j ≤ bjV f v0 j
    · rw [if_pos (hle.2 e), if_pos e]
      rcases r3 with r3 | r3
      · rcases hj0 with q | q
        · exact absurd r3 q
        · exact absurd e q
      · exact r3
    · rw [if_neg (fun q => e (hle.1 q)), if_neg e]
theorem wi_nx {f : Nat → Int} {v0 : Int} {k j : Nat} {a b x5 x6 x7 R : Int} (h5 : x5 = if k % 2 = 1 then 0 else 1) (v1 : -2 ≤ v0) (v2 : v0 ≤ 99) (ab : a < b) (hx : x6 < x7) (hw : winI k a b (mjV f k v0 j) x6 x7) (R0 : -2 ≤ R) (R1 : R ≤ 100) (ho : okAB x6 x7 (bjV f v0 j) R) :
    winI k a b (mjV f k v0 (j + 1)) (if x5 = 0 then (if R ≤ x6 then x6 else R) else x6) (if x5 = 0 then x7 else (if x7 ≤ R then x7 else R)) := by
  rw [mjV_st v1 v2 j]
  by_cases hk : k % 2 = 1
  · rw [if_pos hk] at h5
    rw [if_pos h5, if_pos h5]
    exact win_s1 hk ab hw hx R0 R1 ho
  · rw [if_neg hk] at h5
    rw [if_neg (by rw [h5]; decide), if_neg (by rw [h5]; decide)]
    exact win_s0 hk ab hw hx R0 R1 ho
theorem nc_1n (j : Nat) : ki ((j : Int) + 1) = ki ((j + 1 : Nat) : Int) := by rw [Int.natCast_add]; rfl
/-- one deed is done: the next round -/
theorem lo_next {gn : (Int → Int) → Int} {f : Nat → Int} {v0 : Int} {S S1 S' : xSt} {k j m : Nat} {a b x5 x6 x7 R c : Int} (h5 : x5 = if k % 2 = 1 then 0 else 1) (v1 : -2 ≤ v0) (v2 : v0 ≤ 99) (ab : a < b) (jm : j + (m + 1) = 7) (hx : x6 < x7) (hw : winI k a b (mjV f k v0 j) x6 x7) (hf : eq_ (qV k) S S1) (h2 : S1.2 = S.2) (hr : rtI f v0 k a b x6 x7 j (S1.1 93 5))
    (hd : bdT f v0 (j + 1) = if mjV f 0 v0 j ≤ bjV f v0 j then bdT f v0 j else c) (hj0 : ¬ j = 0 ∨ ¬ mjV f 0 v0 j ≤ bjV f v0 j)
    (R0 : -2 ≤ R) (R1 : R ≤ 100) (ho : okAB x6 x7 (bjV f v0 j) R) (hl : lawX gn S') (hf' : eq_ (qV k) S1 S') (h2' : S'.2 = S1.2) (h9 : k = 0 → S'.1 93 5 = if x7 ≤ R then S1.1 93 5 else ki c) :
    loI gn f v0 k a b S m (S', ki (if x5 = 0 then (if R ≤ x6 then x6 else R) else x6), ki (if x5 = 0 then x7 else (if x7 ≤ R then x7 else R)), ki ((j : Int) + 1)) :=
  ⟨j + 1, if x5 = 0 then (if R ≤ x6 then x6 else R) else x6, if x5 = 0 then x7 else (if x7 ≤ R then x7 else R), rfl, rfl, nc_1n j, by clear hw hr hd hj0 ho h9; omega, wi_nx h5 v1 v2 ab hx hw R0 R1 ho, hl, eq_tr hf hf', h2'.trans h2, rt_nx h5 v1 v2 hr hd hj0 ho h9⟩
/-- a column without cells: the next round -/
theorem lo_skip {gn : (Int → Int) → Int} {f : Nat → Int} {v0 : Int} {S S1 : xSt} {k j m : Nat} {a b x6 x7 : Int} (jm : j + 1 + (m + 1) = 7) (e : f j = v0) (hw : winI k a b (mjV f k v0 (j + 1)) x6 x7) (hl : lawX gn S1) (hf : eq_ (qV k) S S1) (h2 : S1.2 = S.2) (hr : rtI f v0 k a b x6 x7 (j + 1) (S1.1 93 5)) :
    loI gn f v0 k a b S m (S1, ki x6, ki x7, ki (((j + 1 : Nat) : Int) + 1)) := by
  have hs : ∀ i, mjV f i v0 (j + 2) = mjV f i v0 (j + 1) := fun i => by
    rw [mjV_1, mjV_1]; exact fo_skip e
  refine ⟨j + 2, x6, x7, rfl, rfl, nc_1n (j + 1), by clear hw hr; omega, by rw [hs]; exact hw, hl, hf, h2, ?_⟩
  intro k0 ea eb p0 p1
  obtain ⟨r1, r2, r3⟩ := hr k0 ea eb p0 p1
  refine ⟨r1, r2.trans (hs 0).symm, Or.inr ?_⟩
  rcases r3 with r3 | r3
  · exact absurd r3 (Nat.succ_ne_zero j)
  · rw [bdT_s, e, if_pos (fo_l0 j)]
    exact r3
