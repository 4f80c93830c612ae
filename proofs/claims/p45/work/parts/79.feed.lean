/-! part 79: feed, image, back; frames by cell and place -/
def eq_ (P : Nat → Nat → Prop) (S S' : xSt) : Prop := ∀ k j, ¬ P k j → S'.1 k j = S.1 k j
theorem eq_rf (P : Nat → Nat → Prop) (S : xSt) : eq_ P S S := fun _ _ _ => rfl
theorem eq_tr {P : Nat → Nat → Prop} {S S' S'' : xSt} (h : eq_ P S S') (h' : eq_ P S' S'') : eq_ P S S'' := fun k j q => (h' k j q).trans (h k j q)
theorem eq_i {P : Nat → Nat → Prop} {S : xSt} {k j : Nat} {v : Int32} (h : P k j) : eq_ P S (xsi S k j v) := fun k' j' q => by rw [xsi_r, if_neg (fun e => q (by rw [e.1, e.2]; exact h))]
theorem eq_f {P : Nat → Nat → Prop} {S S' : xSt} {Q : Nat → Prop} (h : fr S S' Q) (hp : ∀ k j, Q k → P k j) : eq_ P S S' := fun k j q => by rw [h.2 k (fun hk => q (hp k j hk))]
theorem gA {PX PM : Nat → Nat → Prop} {SX SM SX' SM' : xSt} (h : rA SX SM) (ex : eq_ PX SX SX') (em : eq_ PM SM SM') (px : ∀ k j, PX k j → k ≠ 103 ∧ (k ≠ 101 ∨ j ≠ 3)) (pm : ∀ k j, PM k j → k ≠ 36 ∧ (k ≠ 0 ∨ j ≠ 55)) : rA SX' SM' := by
  obtain ⟨n, n0, n1, e1, e2, h⟩ := h
  refine ⟨n, n0, n1, by rw [ex 101 _ (fun q => by have := px _ _ q; omega)]; exact e1, by rw [em 0 55 (fun q => by have := pm _ _ q; omega)]; exact e2, fun z z0 z1 z2 => ?_⟩
  rw [ex 103 _ (fun q => (px _ _ q).1 rfl), em 36 _ (fun q => (pm _ _ q).1 rfl)]; exact h z z0 z1 z2
set_option maxHeartbeats 4000000 in
theorem x_ts {o o1 : Nat} {η : Hy} {S : xSt} (h : hx o1 η S) (hd : o + 8 < o1 ∨ o1 + 8 < o) : wp (f_X4_takeStack o o1 S) (fun r => (vw r.1 (o + 1) 6 (η 1) ∧ vw r.1 (o + 3) 30 (η 3) ∧ vw r.1 (o + 4) 30 (η 4) ∧ vw r.1 (o + 5) 30 (η 5) ∧ vw r.1 (o + 6) 30 (η 6) ∧ vw r.1 (o + 7) 30 (η 7) ∧ vw r.1 (o + 8) 6 (η 8) ∧ r.1.1 o 11 = ki (η 0 11)) ∧ r.1.1 (o + 2) = S.1 (o + 2) ∧ r.1.1 o 10 = S.1 o 10 ∧ fr S r.1 (pH o)) := by
  obtain ⟨h1, h2, h3, h4, h5, h6, h7, h8, h9, h10⟩ := h
  unfold f_X4_takeStack f_X4_takeStack_0
  repeat' first
    | with_reducible apply wp_bd
      · (try simp (disch := omega) only [bi, Int.add_zero, Int.zero_add, true_or, or_true, true_and, and_true, not_false_eq_true, not_true_eq_false, if_true, if_false, if_pos, if_neg, ki_add, ki_sub, ki_mul, ki_neg, ki_lt, ki_le, ki_eq, ki_cl, ki_div, ki_ite, ck5, kl_0, kl_1, kl_2, kl_3, kl_4, kl_5, kl_6, kl_7, kl_8, kl_9, kl_10, kl_11, kl_12, kl_13, kl_14, kl_16, kl_20, kl_21, kl_30, kl_31, kl_32, kl_33, kl_35, kl_37, kl_38, kl_39, kl_40, kl_41, kl_42, kl_43, kl_45, kl_47, kl_48, kl_50, kl_57, kl_59, kl_60, kl_61, kl_62, kl_63, kl_64, kl_97, kl_98, kl_99, kl_100, kl_101, kl_102, kl_103, kl_104, kl_105, kl_106, kl_107, kl_108, kl_109, kl_110, kl_111, kl_112, kl_113, kl_114, kl_115, kl_120, kl_124, kl_126, kl_127, kl_255, kl_720, kl_2048, kl_252645135, kl_858993459, kl_1431655765, kl_1640531535, kl_2000000000])
        rfl
    | with_reducible apply wp_in
      · (try simp (disch := omega) only [bi, Int.add_zero, Int.zero_add, true_or, or_true, true_and, and_true, not_false_eq_true, not_true_eq_false, if_true, if_false, if_pos, if_neg, ki_add, ki_sub, ki_mul, ki_neg, ki_lt, ki_le, ki_eq, ki_cl, ki_div, ki_ite, ck5, kl_0, kl_1, kl_2, kl_3, kl_4, kl_5, kl_6, kl_7, kl_8, kl_9, kl_10, kl_11, kl_12, kl_13, kl_14, kl_16, kl_20, kl_21, kl_30, kl_31, kl_32, kl_33, kl_35, kl_37, kl_38, kl_39, kl_40, kl_41, kl_42, kl_43, kl_45, kl_47, kl_48, kl_50, kl_57, kl_59, kl_60, kl_61, kl_62, kl_63, kl_64, kl_97, kl_98, kl_99, kl_100, kl_101, kl_102, kl_103, kl_104, kl_105, kl_106, kl_107, kl_108, kl_109, kl_110, kl_111, kl_112, kl_113, kl_114, kl_115, kl_120, kl_124, kl_126, kl_127, kl_255, kl_720, kl_2048, kl_252645135, kl_858993459, kl_1431655765, kl_1640531535, kl_2000000000])
        rfl
      · decide
      · omega
      · omega
    | with_reducible apply wp_gd
      · (try simp (disch := omega) only [bi, Int.add_zero, Int.zero_add, true_or, or_true, true_and, and_true, not_false_eq_true, not_true_eq_false, if_true, if_false, if_pos, if_neg, ki_add, ki_sub, ki_mul, ki_neg, ki_lt, ki_le, ki_eq, ki_cl, ki_div, ki_ite, ck5, kl_0, kl_1, kl_2, kl_3, kl_4, kl_5, kl_6, kl_7, kl_8, kl_9, kl_10, kl_11, kl_12, kl_13, kl_14, kl_16, kl_20, kl_21, kl_30, kl_31, kl_32, kl_33, kl_35, kl_37, kl_38, kl_39, kl_40, kl_41, kl_42, kl_43, kl_45, kl_47, kl_48, kl_50, kl_57, kl_59, kl_60, kl_61, kl_62, kl_63, kl_64, kl_97, kl_98, kl_99, kl_100, kl_101, kl_102, kl_103, kl_104, kl_105, kl_106, kl_107, kl_108, kl_109, kl_110, kl_111, kl_112, kl_113, kl_114, kl_115, kl_120, kl_124, kl_126, kl_127, kl_255, kl_720, kl_2048, kl_252645135, kl_858993459, kl_1431655765, kl_1640531535, kl_2000000000])
        rfl
      · first | exact True.intro | omega | assumption
    | with_reducible apply wp_is
      · (try simp (disch := omega) only [bi, Int.add_zero, Int.zero_add, true_or, or_true, true_and, and_true, not_false_eq_true, not_true_eq_false, if_true, if_false, if_pos, if_neg, ki_add, ki_sub, ki_mul, ki_neg, ki_lt, ki_le, ki_eq, ki_cl, ki_div, ki_ite, ck5, kl_0, kl_1, kl_2, kl_3, kl_4, kl_5, kl_6, kl_7, kl_8, kl_9, kl_10, kl_11, kl_12, kl_13, kl_14, kl_16, kl_20, kl_21, kl_30, kl_31, kl_32, kl_33, kl_35, kl_37, kl_38, kl_39, kl_40, kl_41, kl_42, kl_43, kl_45, kl_47, kl_48, kl_50, kl_57, kl_59, kl_60, kl_61, kl_62, kl_63, kl_64, kl_97, kl_98, kl_99, kl_100, kl_101, kl_102, kl_103, kl_104, kl_105, kl_106, kl_107, kl_108, kl_109, kl_110, kl_111, kl_112, kl_113, kl_114, kl_115, kl_120, kl_124, kl_126, kl_127, kl_255, kl_720, kl_2048, kl_252645135, kl_858993459, kl_1431655765, kl_1640531535, kl_2000000000])
        rfl
      all_goals intro _
      all_goals try (exfalso; first | (rename_i q; exact q trivial) | (rename_i q; exact q) | omega)
    | with_reducible apply wp_mr
    | with_reducible apply wp_b
      · simp (disch := omega) only [Int.add_zero, Int.zero_add, true_or, or_true, true_and, and_true, not_false_eq_true, not_true_eq_false, if_true, if_false, if_pos, if_neg, ki_add, ki_sub, ki_mul, ki_neg, ki_lt, ki_le, ki_eq, ki_cl, ki_div, ki_ite, ck5, kl_0, kl_1, kl_2, kl_3, kl_4, kl_5, kl_6, kl_7, kl_8, kl_9, kl_10, kl_11, kl_12, kl_13, kl_14, kl_16, kl_20, kl_21, kl_30, kl_31, kl_32, kl_33, kl_35, kl_37, kl_38, kl_39, kl_40, kl_41, kl_42, kl_43, kl_45, kl_47, kl_48, kl_50, kl_57, kl_59, kl_60, kl_61, kl_62, kl_63, kl_64, kl_97, kl_98, kl_99, kl_100, kl_101, kl_102, kl_103, kl_104, kl_105, kl_106, kl_107, kl_108, kl_109, kl_110, kl_111, kl_112, kl_113, kl_114, kl_115, kl_120, kl_124, kl_126, kl_127, kl_255, kl_720, kl_2048, kl_252645135, kl_858993459, kl_1431655765, kl_1640531535, kl_2000000000]
        rfl
      all_goals intro _
      all_goals try (exfalso; first | (rename_i q; exact q trivial) | (rename_i q; exact q) | omega)
    | with_reducible apply wp_oe
      · simp (disch := omega) only [Int.add_zero, Int.zero_add, true_or, or_true, true_and, and_true, not_false_eq_true, not_true_eq_false, if_true, if_false, if_pos, if_neg, ki_add, ki_sub, ki_mul, ki_neg, ki_lt, ki_le, ki_eq, ki_cl, ki_div, ki_ite, ck5, kl_0, kl_1, kl_2, kl_3, kl_4, kl_5, kl_6, kl_7, kl_8, kl_9, kl_10, kl_11, kl_12, kl_13, kl_14, kl_16, kl_20, kl_21, kl_30, kl_31, kl_32, kl_33, kl_35, kl_37, kl_38, kl_39, kl_40, kl_41, kl_42, kl_43, kl_45, kl_47, kl_48, kl_50, kl_57, kl_59, kl_60, kl_61, kl_62, kl_63, kl_64, kl_97, kl_98, kl_99, kl_100, kl_101, kl_102, kl_103, kl_104, kl_105, kl_106, kl_107, kl_108, kl_109, kl_110, kl_111, kl_112, kl_113, kl_114, kl_115, kl_120, kl_124, kl_126, kl_127, kl_255, kl_720, kl_2048, kl_252645135, kl_858993459, kl_1431655765, kl_1640531535, kl_2000000000]
        try rfl
    | with_reducible apply wp_sv
      · (try simp (disch := omega) only [bi, Int.add_zero, Int.zero_add, true_or, or_true, true_and, and_true, not_false_eq_true, not_true_eq_false, if_true, if_false, if_pos, if_neg, ki_add, ki_sub, ki_mul, ki_neg, ki_lt, ki_le, ki_eq, ki_cl, ki_div, ki_ite, ck5, kl_0, kl_1, kl_2, kl_3, kl_4, kl_5, kl_6, kl_7, kl_8, kl_9, kl_10, kl_11, kl_12, kl_13, kl_14, kl_16, kl_20, kl_21, kl_30, kl_31, kl_32, kl_33, kl_35, kl_37, kl_38, kl_39, kl_40, kl_41, kl_42, kl_43, kl_45, kl_47, kl_48, kl_50, kl_57, kl_59, kl_60, kl_61, kl_62, kl_63, kl_64, kl_97, kl_98, kl_99, kl_100, kl_101, kl_102, kl_103, kl_104, kl_105, kl_106, kl_107, kl_108, kl_109, kl_110, kl_111, kl_112, kl_113, kl_114, kl_115, kl_120, kl_124, kl_126, kl_127, kl_255, kl_720, kl_2048, kl_252645135, kl_858993459, kl_1431655765, kl_1640531535, kl_2000000000])
        rfl
    | with_reducible apply wp_so
  obtain ⟨S1, e1⟩ : ∃ x, xcpi S (o1 + 1) 0 (o + 1) 0 6 = x := ⟨_, rfl⟩
  obtain ⟨S2, e2⟩ : ∃ x, xcpi S1 (o1 + 3) 0 (o + 3) 0 30 = x := ⟨_, rfl⟩
  obtain ⟨S3, e3⟩ : ∃ x, xcpi S2 (o1 + 4) 0 (o + 4) 0 30 = x := ⟨_, rfl⟩
  obtain ⟨S4, e4⟩ : ∃ x, xcpi S3 (o1 + 5) 0 (o + 5) 0 30 = x := ⟨_, rfl⟩
  obtain ⟨S5, e5⟩ : ∃ x, xcpi S4 (o1 + 6) 0 (o + 6) 0 30 = x := ⟨_, rfl⟩
  obtain ⟨S6, e6⟩ : ∃ x, xcpi S5 (o1 + 7) 0 (o + 7) 0 30 = x := ⟨_, rfl⟩
  obtain ⟨S7, e7⟩ : ∃ x, xcpi S6 (o1 + 8) 0 (o + 8) 0 6 = x := ⟨_, rfl⟩
  have f1 : fr S S1 (fun k => k = o + 1) := by rw [← e1]; exact fr_cp rfl
  have f2 : fr S1 S2 (fun k => k = o + 3) := by rw [← e2]; exact fr_cp rfl
  have f3 : fr S2 S3 (fun k => k = o + 4) := by rw [← e3]; exact fr_cp rfl
  have f4 : fr S3 S4 (fun k => k = o + 5) := by rw [← e4]; exact fr_cp rfl
  have f5 : fr S4 S5 (fun k => k = o + 6) := by rw [← e5]; exact fr_cp rfl
  have f6 : fr S5 S6 (fun k => k = o + 7) := by rw [← e6]; exact fr_cp rfl
  have f7 : fr S6 S7 (fun k => k = o + 8) := by rw [← e7]; exact fr_cp rfl
  have k1 : vw S1 (o + 1) 6 (η 1) := by rw [← e1]; exact vw_cp h1 6 (by omega)
  have k3 : vw S2 (o + 3) 30 (η 3) := by rw [← e2]; exact vw_cp (vw_f h3 f1 (by omega)) 30 (by omega)
  have k4 : vw S3 (o + 4) 30 (η 4) := by rw [← e3]; exact vw_cp (vw_f (vw_f h4 f1 (by omega)) f2 (by omega)) 30 (by omega)
  have k5 : vw S4 (o + 5) 30 (η 5) := by rw [← e4]; exact vw_cp (vw_f (vw_f (vw_f h5 f1 (by omega)) f2 (by omega)) f3 (by omega)) 30 (by omega)
  have k6 : vw S5 (o + 6) 30 (η 6) := by rw [← e5]; exact vw_cp (vw_f (vw_f (vw_f (vw_f h6 f1 (by omega)) f2 (by omega)) f3 (by omega)) f4 (by omega)) 30 (by omega)
  have k7 : vw S6 (o + 7) 30 (η 7) := by rw [← e6]; exact vw_cp (vw_f (vw_f (vw_f (vw_f (vw_f h7 f1 (by omega)) f2 (by omega)) f3 (by omega)) f4 (by omega)) f5 (by omega)) 30 (by omega)
  have k8 : vw S7 (o + 8) 6 (η 8) := by rw [← e7]; exact vw_cp (vw_f (vw_f (vw_f (vw_f (vw_f (vw_f h8 f1 (by omega)) f2 (by omega)) f3 (by omega)) f4 (by omega)) f5 (by omega)) f6 (by omega)) 6 (by omega)
  have fo : fr S S7 (fun k => o + 1 ≤ k ∧ k ≤ o + 8 ∧ k ≠ o + 2) := fr_tr (fr_tr (fr_tr (fr_tr (fr_tr (fr_tr (fr_w f1 (fun k hk => by omega)) (fr_w f2 (fun k hk => by omega))) (fr_w f3 (fun k hk => by omega))) (fr_w f4 (fun k hk => by omega))) (fr_w f5 (fun k hk => by omega))) (fr_w f6 (fun k hk => by omega))) (fr_w f7 (fun k hk => by omega))
  have r11 : S7.1 o1 11 = ki (η 0 11) := by rw [fo.2 o1 (by omega)]; exact h10
  have hT : ∀ v, fr S (xsi S7 o 11 v) (pH o) := fun v => fr_tr (fr_w fo (fun k hk => by unfold pH; omega)) (fr_si (by unfold pH; omega))
  have goal : ∀ v, v = ki (η 0 11) → (vw (xsi S7 o 11 v) (o + 1) 6 (η 1) ∧ vw (xsi S7 o 11 v) (o + 3) 30 (η 3) ∧ vw (xsi S7 o 11 v) (o + 4) 30 (η 4) ∧ vw (xsi S7 o 11 v) (o + 5) 30 (η 5) ∧ vw (xsi S7 o 11 v) (o + 6) 30 (η 6) ∧ vw (xsi S7 o 11 v) (o + 7) 30 (η 7) ∧ vw (xsi S7 o 11 v) (o + 8) 6 (η 8) ∧ (xsi S7 o 11 v).1 o 11 = ki (η 0 11)) ∧ (xsi S7 o 11 v).1 (o + 2) = S.1 (o + 2) ∧ (xsi S7 o 11 v).1 o 10 = S.1 o 10 ∧ fr S (xsi S7 o 11 v) (pH o) := by
    intro v hv
    refine ⟨⟨?_, ?_, ?_, ?_, ?_, ?_, ?_, ?_⟩, ?_, ?_, hT _⟩
    · exact vw_ne (vw_f (vw_f (vw_f (vw_f (vw_f (vw_f k1 f2 (by omega)) f3 (by omega)) f4 (by omega)) f5 (by omega)) f6 (by omega)) f7 (by omega)) (by omega)
    · exact vw_ne (vw_f (vw_f (vw_f (vw_f (vw_f k3 f3 (by omega)) f4 (by omega)) f5 (by omega)) f6 (by omega)) f7 (by omega)) (by omega)
    · exact vw_ne (vw_f (vw_f (vw_f (vw_f k4 f4 (by omega)) f5 (by omega)) f6 (by omega)) f7 (by omega)) (by omega)
    · exact vw_ne (vw_f (vw_f (vw_f k5 f5 (by omega)) f6 (by omega)) f7 (by omega)) (by omega)
    · exact vw_ne (vw_f (vw_f k6 f6 (by omega)) f7 (by omega)) (by omega)
    · exact vw_ne (vw_f k7 f7 (by omega)) (by omega)
    · exact vw_ne k8 (by omega)
    · rw [xsi_r, if_pos ⟨rfl, rfl⟩, hv]
    · funext j; rw [xsi_r, if_neg (by omega), fo.2 (o + 2) (by omega)]
    · rw [xsi_r, if_neg (by omega), fo.2 o (by omega)]
  subst e1 e2 e3 e4 e5 e6 e7
  exact goal _ r11
