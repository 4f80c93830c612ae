/-! part 95: byTurns: the class's answer; both alike -/
theorem ce_0 (η : Hy) : cellsS η = η 1 0 + η 1 1 + η 1 2 + η 1 3 + η 1 4 + η 1 5 := by
  show ((((((0 : Int) + η 1 0) + η 1 1) + η 1 2) + η 1 3) + η 1 4) + η 1 5 = _
  rw [Int.zero_add]
theorem nc_0 {η : Hy} (h : ∀ j : Int, 0 ≤ j → j < 6 → η 1 j ≤ 0) : ncS η := by
  intro c c0 c1 q
  have h1 := h (c / 5) (by omega) (by omega)
  have h2 : 0 ≤ c % 5 := by omega
  have h3 := Int.lt_of_lt_of_le q h1
  omega
theorem nc_1 {η : Hy} (h : ncS η) {j : Int} (j0 : 0 ≤ j) (j1 : j < 6) : η 1 j ≤ 0 := by
  have q := h (5 * j) (by omega) (by omega)
  rw [show 5 * j % 5 = 0 by omega, show 5 * j / 5 = j by omega] at q
  omega
theorem ce_nc {η : Hy} (hw : wf η) : cellsS η ≤ 0 ↔ ncS η := by
  have b0 := hw.1 0
  have b1 := hw.1 1
  have b2 := hw.1 2
  have b3 := hw.1 3
  have b4 := hw.1 4
  have b5 := hw.1 5
  rw [ce_0]
  refine ⟨fun h => nc_0 (fun j j0 j1 => ?_), fun h => ?_⟩
  · have hj : j = 0 ∨ j = 1 ∨ j = 2 ∨ j = 3 ∨ j = 4 ∨ j = 5 := by omega
    rcases hj with rfl | rfl | rfl | rfl | rfl | rfl <;> omega
  · have c0 := nc_1 h (j := 0) (by omega) (by omega)
    have c1 := nc_1 h (j := 1) (by omega) (by omega)
    have c2 := nc_1 h (j := 2) (by omega) (by omega)
    have c3 := nc_1 h (j := 3) (by omega) (by omega)
    have c4 := nc_1 h (j := 4) (by omega) (by omega)
    have c5 := nc_1 h (j := 5) (by omega) (by omega)
    omega
theorem de_1 (k : Nat) (c : Int) (η : Hy) : deS k c η 1 = η 1 := by
  unfold deS
  by_cases h : c = 6
  · rw [if_pos h]
  · rw [if_neg h]
    by_cases h2 : k % 2 = 1
    · rw [if_pos h2]
      unfold wetS
      by_cases h3 : η 1 c ≤ 0
      · rw [if_pos h3]
      · rw [if_neg h3]; rfl
    · rw [if_neg h2]; rfl
theorem fo_c {f : Nat → Int} {k : Nat} {v : Int} (hf : ∀ c, f c = v) : ∀ j, foT f k v j = v
  | 0 => rfl
  | j + 1 => by rw [fo_skip (hf j)]; exact fo_c hf j
theorem bst_nc {gn : (Int → Int) → Int} {n : Nat} : ∀ (r k : Nat) (η : Hy), ncS η → bst gn n r k η = -2
  | 0, _, η, h => hh_nc ((nc_e (days_1 gn η n)).mpr h)
  | r + 1, k, η, h => by
    show foT (fun c => bst gn n r (k + 1) (deS k c η)) k (bst gn n r (k + 1) η) 6 = -2
    rw [bst_nc r (k + 1) η h]
    exact fo_c (fun c => bst_nc r (k + 1) _ ((nc_e (de_1 k c η)).mpr h)) 6
theorem bst_nn {gn : (Int → Int) → Int} {n : Nat} : ∀ (r k : Nat) (η : Hy), wf η → ¬ ncS η → 0 ≤ bst gn n r k η
  | 0, _, η, hw, h => (hh_nn (wf_days hw n) (fun q => h ((nc_e (days_1 gn η n)).mp q))).1
  | r + 1, k, η, hw, h => fo_n (bst_nn r (k + 1) η hw h) (fun c => bst_nn r (k + 1) _ (wf_de hw) (fun q => h ((nc_e (de_1 k c η)).mp q))) 6
theorem fr_qV {S S' : xSt} (h2 : S'.2 = S.2) (h : eq_ (pV 0) S S') : fr S S' qX := by
  refine ⟨h2, fun k hk => funext fun j => h k j (fun q => hk ?_)⟩
  unfold pV at q
  unfold qX
  omega
theorem x_play {η : Hy} {gn : (Int → Int) → Int} {S : xSt} {N n : Nat} (hN : N + 1 ≤ 3) (hn : n ≤ 9) (hw : wf η) (h : hx 16 η S) (hl : lawX gn S) : wp (f_X3_play S (ki ((N + 1 : Nat) : Int)) (ki n)) (fun q => q.1.1 93 4 = ki (btA gn N n η 0) ∧ q.1.1 93 5 = ki (btA gn N n η 1) ∧ fr S q.1 qX ∧ lawX gn q.1) := by
  obtain ⟨S2, e2⟩ : ∃ y, xsi (xsi S 93 4 (ki (-2))) 93 5 (ki (-2)) = y := ⟨_, rfl⟩
  have f2 : fr S S2 (fun k => k = 93) := by rw [← e2]; exact fr_tr (fr_si rfl) (fr_si rfl)
  have h2 : hx 16 η S2 := hx_f h f2 (fun k hk => by omega)
  have l2 : lawX gn S2 := lawX_f hl f2 (fun k hk => by omega)
  have y := x_cells h2 hw
  have cb := cellsS_b hw
  have r4 : S2.1 93 4 = ki (-2) := by rw [← e2, xsi_r, if_neg (by omega), xsi_r, if_pos ⟨rfl, rfl⟩]
  have r5 : S2.1 93 5 = ki (-2) := by rw [← e2, xsi_r, if_pos ⟨rfl, rfl⟩]
  have hc0 := ce_nc hw
  have hmin : (if ki ((N + 1 : Nat) : Int) < (3 : Int32) then ki ((N + 1 : Nat) : Int) else (3 : Int32)) = ki ((N + 1 : Nat) : Int) := by
    have e3 : (3 : Int32) = ki 3 := rfl
    by_cases e : ki ((N + 1 : Nat) : Int) < (3 : Int32)
    · rw [if_pos e]
    · rw [if_neg e]
      rw [e3, ki_lt (by omega) (by omega) (by omega) (by omega)] at e
      rw [e3]
      congr 1
      omega
  unfold f_X3_play f_X3_play_0
  rw [hmin]
  by_cases hc : cellsS η ≤ 0
  · have hnc := hc0.1 hc
    have eb := bst_nc (gn := gn) (n := n) (N + 1) 0 η hnc
    have a0 : btA gn N n η 0 = -2 := by unfold btA; rw [if_pos rfl]; exact eb
    have a1 : btA gn N n η 1 = -2 := by unfold btA; rw [if_neg (by omega), eb, if_neg (by omega)]
    repeat' first
      | with_reducible apply wp_bd
        · (try simp (disch := omega) only [bi, Int.add_zero, Int.zero_add, true_or, or_true, true_and, and_true, not_false_eq_true, not_true_eq_false, if_true, if_false, if_pos, if_neg, ki_add, ki_sub, ki_mul, ki_neg, ki_lt, ki_le, ki_eq, ki_cl, ki_div, ki_ite, ck5, kl_0, kl_1, kl_2, kl_3, kl_4, kl_5, kl_6, kl_7, kl_8, kl_9, kl_10, kl_11, kl_12, kl_13, kl_14, kl_16, kl_20, kl_21, kl_30, kl_31, kl_32, kl_33, kl_35, kl_37, kl_38, kl_39, kl_40, kl_41, kl_42, kl_43, kl_45, kl_47, kl_48, kl_50, kl_57, kl_59, kl_60, kl_61, kl_62, kl_63, kl_64, kl_97, kl_98, kl_99, kl_100, kl_101, kl_102, kl_103, kl_104, kl_105, kl_106, kl_107, kl_108, kl_109, kl_110, kl_111, kl_112, kl_113, kl_114, kl_115, kl_120, kl_124, kl_126, kl_127, kl_255, kl_720, kl_2048, kl_252645135, kl_858993459, kl_1431655765, kl_1640531535, kl_2000000000, e2, y])
          rfl
      | with_reducible apply wp_in
        · (try simp (disch := omega) only [bi, Int.add_zero, Int.zero_add, true_or, or_true, true_and, and_true, not_false_eq_true, not_true_eq_false, if_true, if_false, if_pos, if_neg, ki_add, ki_sub, ki_mul, ki_neg, ki_lt, ki_le, ki_eq, ki_cl, ki_div, ki_ite, ck5, kl_0, kl_1, kl_2, kl_3, kl_4, kl_5, kl_6, kl_7, kl_8, kl_9, kl_10, kl_11, kl_12, kl_13, kl_14, kl_16, kl_20, kl_21, kl_30, kl_31, kl_32, kl_33, kl_35, kl_37, kl_38, kl_39, kl_40, kl_41, kl_42, kl_43, kl_45, kl_47, kl_48, kl_50, kl_57, kl_59, kl_60, kl_61, kl_62, kl_63, kl_64, kl_97, kl_98, kl_99, kl_100, kl_101, kl_102, kl_103, kl_104, kl_105, kl_106, kl_107, kl_108, kl_109, kl_110, kl_111, kl_112, kl_113, kl_114, kl_115, kl_120, kl_124, kl_126, kl_127, kl_255, kl_720, kl_2048, kl_252645135, kl_858993459, kl_1431655765, kl_1640531535, kl_2000000000, e2, y])
          rfl
        · decide
        · omega
        · omega
      | with_reducible apply wp_gd
        · (try simp (disch := omega) only [bi, Int.add_zero, Int.zero_add, true_or, or_true, true_and, and_true, not_false_eq_true, not_true_eq_false, if_true, if_false, if_pos, if_neg, ki_add, ki_sub, ki_mul, ki_neg, ki_lt, ki_le, ki_eq, ki_cl, ki_div, ki_ite, ck5, kl_0, kl_1, kl_2, kl_3, kl_4, kl_5, kl_6, kl_7, kl_8, kl_9, kl_10, kl_11, kl_12, kl_13, kl_14, kl_16, kl_20, kl_21, kl_30, kl_31, kl_32, kl_33, kl_35, kl_37, kl_38, kl_39, kl_40, kl_41, kl_42, kl_43, kl_45, kl_47, kl_48, kl_50, kl_57, kl_59, kl_60, kl_61, kl_62, kl_63, kl_64, kl_97, kl_98, kl_99, kl_100, kl_101, kl_102, kl_103, kl_104, kl_105, kl_106, kl_107, kl_108, kl_109, kl_110, kl_111, kl_112, kl_113, kl_114, kl_115, kl_120, kl_124, kl_126, kl_127, kl_255, kl_720, kl_2048, kl_252645135, kl_858993459, kl_1431655765, kl_1640531535, kl_2000000000, e2, y])
          rfl
        · first | exact True.intro | omega | assumption
      | with_reducible apply wp_is
        · (try simp (disch := omega) only [bi, Int.add_zero, Int.zero_add, true_or, or_true, true_and, and_true, not_false_eq_true, not_true_eq_false, if_true, if_false, if_pos, if_neg, ki_add, ki_sub, ki_mul, ki_neg, ki_lt, ki_le, ki_eq, ki_cl, ki_div, ki_ite, ck5, kl_0, kl_1, kl_2, kl_3, kl_4, kl_5, kl_6, kl_7, kl_8, kl_9, kl_10, kl_11, kl_12, kl_13, kl_14, kl_16, kl_20, kl_21, kl_30, kl_31, kl_32, kl_33, kl_35, kl_37, kl_38, kl_39, kl_40, kl_41, kl_42, kl_43, kl_45, kl_47, kl_48, kl_50, kl_57, kl_59, kl_60, kl_61, kl_62, kl_63, kl_64, kl_97, kl_98, kl_99, kl_100, kl_101, kl_102, kl_103, kl_104, kl_105, kl_106, kl_107, kl_108, kl_109, kl_110, kl_111, kl_112, kl_113, kl_114, kl_115, kl_120, kl_124, kl_126, kl_127, kl_255, kl_720, kl_2048, kl_252645135, kl_858993459, kl_1431655765, kl_1640531535, kl_2000000000, e2, y])
          rfl
        all_goals intro _
        all_goals try (exfalso; first | (rename_i q; exact q trivial) | (rename_i q; exact q) | omega)
      | with_reducible apply wp_mr
      | with_reducible apply wp_b
        · simp (disch := omega) only [Int.add_zero, Int.zero_add, true_or, or_true, true_and, and_true, not_false_eq_true, not_true_eq_false, if_true, if_false, if_pos, if_neg, ki_add, ki_sub, ki_mul, ki_neg, ki_lt, ki_le, ki_eq, ki_cl, ki_div, ki_ite, ck5, kl_0, kl_1, kl_2, kl_3, kl_4, kl_5, kl_6, kl_7, kl_8, kl_9, kl_10, kl_11, kl_12, kl_13, kl_14, kl_16, kl_20, kl_21, kl_30, kl_31, kl_32, kl_33, kl_35, kl_37, kl_38, kl_39, kl_40, kl_41, kl_42, kl_43, kl_45, kl_47, kl_48, kl_50, kl_57, kl_59, kl_60, kl_61, kl_62, kl_63, kl_64, kl_97, kl_98, kl_99, kl_100, kl_101, kl_102, kl_103, kl_104, kl_105, kl_106, kl_107, kl_108, kl_109, kl_110, kl_111, kl_112, kl_113, kl_114, kl_115, kl_120, kl_124, kl_126, kl_127, kl_255, kl_720, kl_2048, kl_252645135, kl_858993459, kl_1431655765, kl_1640531535, kl_2000000000, e2, y]
          rfl
        all_goals intro _
        all_goals try (exfalso; first | (rename_i q; exact q trivial) | (rename_i q; exact q) | omega)
      | with_reducible apply wp_oe
        · simp (disch := omega) only [Int.add_zero, Int.zero_add, true_or, or_true, true_and, and_true, not_false_eq_true, not_true_eq_false, if_true, if_false, if_pos, if_neg, ki_add, ki_sub, ki_mul, ki_neg, ki_lt, ki_le, ki_eq, ki_cl, ki_div, ki_ite, ck5, kl_0, kl_1, kl_2, kl_3, kl_4, kl_5, kl_6, kl_7, kl_8, kl_9, kl_10, kl_11, kl_12, kl_13, kl_14, kl_16, kl_20, kl_21, kl_30, kl_31, kl_32, kl_33, kl_35, kl_37, kl_38, kl_39, kl_40, kl_41, kl_42, kl_43, kl_45, kl_47, kl_48, kl_50, kl_57, kl_59, kl_60, kl_61, kl_62, kl_63, kl_64, kl_97, kl_98, kl_99, kl_100, kl_101, kl_102, kl_103, kl_104, kl_105, kl_106, kl_107, kl_108, kl_109, kl_110, kl_111, kl_112, kl_113, kl_114, kl_115, kl_120, kl_124, kl_126, kl_127, kl_255, kl_720, kl_2048, kl_252645135, kl_858993459, kl_1431655765, kl_1640531535, kl_2000000000, e2, y]
          try rfl
      | with_reducible apply wp_sv
        · (try simp (disch := omega) only [bi, Int.add_zero, Int.zero_add, true_or, or_true, true_and, and_true, not_false_eq_true, not_true_eq_false, if_true, if_false, if_pos, if_neg, ki_add, ki_sub, ki_mul, ki_neg, ki_lt, ki_le, ki_eq, ki_cl, ki_div, ki_ite, ck5, kl_0, kl_1, kl_2, kl_3, kl_4, kl_5, kl_6, kl_7, kl_8, kl_9, kl_10, kl_11, kl_12, kl_13, kl_14, kl_16, kl_20, kl_21, kl_30, kl_31, kl_32, kl_33, kl_35, kl_37, kl_38, kl_39, kl_40, kl_41, kl_42, kl_43, kl_45, kl_47, kl_48, kl_50, kl_57, kl_59, kl_60, kl_61, kl_62, kl_63, kl_64, kl_97, kl_98, kl_99, kl_100, kl_101, kl_102, kl_103, kl_104, kl_105, kl_106, kl_107, kl_108, kl_109, kl_110, kl_111, kl_112, kl_113, kl_114, kl_115, kl_120, kl_124, kl_126, kl_127, kl_255, kl_720, kl_2048, kl_252645135, kl_858993459, kl_1431655765, kl_1640531535, kl_2000000000, e2, y])
          rfl
      | with_reducible apply wp_so
    exact ⟨by rw [a0]; exact r4, by rw [a1]; exact r5, fr_w f2 (fun k hk => by unfold qX; omega), l2⟩
  · have hnc : ¬ ncS η := fun q => hc (hc0.2 q)
    obtain ⟨S8, e8⟩ : ∃ y, xsi (xsi S2 93 2 (ki ((N + 1 : Nat) : Int))) 93 3 (ki n) = y := ⟨_, rfl⟩
    have f8 : fr S S8 (fun k => k = 93) := by rw [← e8]; exact fr_tr (fr_tr f2 (fr_si rfl)) (fr_si rfl)
    have h8 : hx 16 η S8 := hx_f h f8 (fun k hk => by omega)
    have r2 : S8.1 93 2 = ki ((N + 1 : Nat) : Int) := by rw [← e8, xsi_r, if_neg (by omega), xsi_r, if_pos ⟨rfl, rfl⟩]
    have r3 : S8.1 93 3 = ki n := by rw [← e8, xsi_r, if_pos ⟨rfl, rfl⟩]
    obtain ⟨⟨S9, u⟩, e9, p1, p2⟩ := x_take (o := 46) h8 (by omega)
    dsimp only at p1 p2
    have f9 : fr S S9 qX := fr_tr (fr_w f8 (fun k hk => by unfold qX; omega)) (fr_w p2 (fun k hk => by unfold pH at hk; unfold qX; omega))
    have l9 : lawX gn S9 := lawX_f (lawX_f hl f8 (fun k hk => by omega)) p2 (fun k hk => by unfold pH at hk; omega)
    have t2 : S9.1 93 2 = ki ((N + 1 : Nat) : Int) := by rw [p2.2 93 (by unfold pH; omega)]; exact r2
    have t3 : S9.1 93 3 = ki n := by rw [p2.2 93 (by unfold pH; omega)]; exact r3
    obtain ⟨⟨S10, v⟩, e10, ⟨R, q1, q2, q3, q4, q5, q6, q7⟩, qr1⟩ := x_search (gn := gn) (N := N + 1) hN hn (N + 1) 0 5 η S9 (-1) 100 (by omega) (by omega) hw p1 l9 t2 t3 (by omega) (by omega) (by omega)
    have qr2 := qr1 N rfl rfl rfl rfl (bst_nn N 1 η hw hnc) (fun c => bst_nn N 1 _ (wf_de hw) (fun q => hnc ((nc_e (de_1 0 c η)).mp q)))
    dsimp only at q1 q5 q6 q7 qr2
    subst q1
    have bn := bst_nn (gn := gn) (n := n) (N + 1) 0 η hw hnc
    have bb := (bst_b (gn := gn) (n := n) (N + 1) 0 η hw).2
    have eR : R = bst gn n (N + 1) 0 η := q4.2.2 (by omega) (by omega)
    have hv6 : bst gn n (N + 1) 0 η = foT (kdV gn n N 0 η) 0 (bst gn n N 1 η) 6 := rfl
    have ed := bdT_is hv6
    have qr3 : S10.1 93 5 = ki (bdT (kdV gn n N 0 η) (bst gn n N 1 η) 7) := qr2
    have a0 : btA gn N n η 0 = R := by unfold btA; rw [if_pos rfl]; exact eR.symm
    have a1 : btA gn N n η 1 = bdT (kdV gn n N 0 η) (bst gn n N 1 η) 7 := by
      unfold btA
      rw [if_neg (by omega), if_pos bn, ed]
      rfl
    have e10' : f_X3_outcome 5 S9 (ki 0) (ki (-1)) (ki (99 + 1)) = some (S10, ki R) := e10
    have em : xt_MOST (1 : Int).toNat = ki 99 := rfl
    have f10 : fr S S10 qX := fr_tr f9 (fr_qV q7 q6)
    have kt0 : 46 + 10 * (0 : Int).toNat = 46 := rfl
    have fin : S10.1 93 5 = ki (btA gn N n η 1) := by rw [a1]; exact qr3
    clear qr1 qr2 qr3 q4 q6 hc0 ed
    repeat' first
      | with_reducible apply wp_bd
        · (try simp (disch := omega) only [bi, Int.add_zero, Int.zero_add, true_or, or_true, true_and, and_true, not_false_eq_true, not_true_eq_false, if_true, if_false, if_pos, if_neg, ki_add, ki_sub, ki_mul, ki_neg, ki_lt, ki_le, ki_eq, ki_cl, ki_div, ki_ite, ck5, kl_0, kl_1, kl_2, kl_3, kl_4, kl_5, kl_6, kl_7, kl_8, kl_9, kl_10, kl_11, kl_12, kl_13, kl_14, kl_16, kl_20, kl_21, kl_30, kl_31, kl_32, kl_33, kl_35, kl_37, kl_38, kl_39, kl_40, kl_41, kl_42, kl_43, kl_45, kl_47, kl_48, kl_50, kl_57, kl_59, kl_60, kl_61, kl_62, kl_63, kl_64, kl_97, kl_98, kl_99, kl_100, kl_101, kl_102, kl_103, kl_104, kl_105, kl_106, kl_107, kl_108, kl_109, kl_110, kl_111, kl_112, kl_113, kl_114, kl_115, kl_120, kl_124, kl_126, kl_127, kl_255, kl_720, kl_2048, kl_252645135, kl_858993459, kl_1431655765, kl_1640531535, kl_2000000000, e2, y, e8, kt0, e9, em, e10'])
          rfl
      | with_reducible apply wp_in
        · (try simp (disch := omega) only [bi, Int.add_zero, Int.zero_add, true_or, or_true, true_and, and_true, not_false_eq_true, not_true_eq_false, if_true, if_false, if_pos, if_neg, ki_add, ki_sub, ki_mul, ki_neg, ki_lt, ki_le, ki_eq, ki_cl, ki_div, ki_ite, ck5, kl_0, kl_1, kl_2, kl_3, kl_4, kl_5, kl_6, kl_7, kl_8, kl_9, kl_10, kl_11, kl_12, kl_13, kl_14, kl_16, kl_20, kl_21, kl_30, kl_31, kl_32, kl_33, kl_35, kl_37, kl_38, kl_39, kl_40, kl_41, kl_42, kl_43, kl_45, kl_47, kl_48, kl_50, kl_57, kl_59, kl_60, kl_61, kl_62, kl_63, kl_64, kl_97, kl_98, kl_99, kl_100, kl_101, kl_102, kl_103, kl_104, kl_105, kl_106, kl_107, kl_108, kl_109, kl_110, kl_111, kl_112, kl_113, kl_114, kl_115, kl_120, kl_124, kl_126, kl_127, kl_255, kl_720, kl_2048, kl_252645135, kl_858993459, kl_1431655765, kl_1640531535, kl_2000000000, e2, y, e8, kt0, e9, em, e10'])
          rfl
        · decide
        · omega
        · omega
      | with_reducible apply wp_gd
        · (try simp (disch := omega) only [bi, Int.add_zero, Int.zero_add, true_or, or_true, true_and, and_true, not_false_eq_true, not_true_eq_false, if_true, if_false, if_pos, if_neg, ki_add, ki_sub, ki_mul, ki_neg, ki_lt, ki_le, ki_eq, ki_cl, ki_div, ki_ite, ck5, kl_0, kl_1, kl_2, kl_3, kl_4, kl_5, kl_6, kl_7, kl_8, kl_9, kl_10, kl_11, kl_12, kl_13, kl_14, kl_16, kl_20, kl_21, kl_30, kl_31, kl_32, kl_33, kl_35, kl_37, kl_38, kl_39, kl_40, kl_41, kl_42, kl_43, kl_45, kl_47, kl_48, kl_50, kl_57, kl_59, kl_60, kl_61, kl_62, kl_63, kl_64, kl_97, kl_98, kl_99, kl_100, kl_101, kl_102, kl_103, kl_104, kl_105, kl_106, kl_107, kl_108, kl_109, kl_110, kl_111, kl_112, kl_113, kl_114, kl_115, kl_120, kl_124, kl_126, kl_127, kl_255, kl_720, kl_2048, kl_252645135, kl_858993459, kl_1431655765, kl_1640531535, kl_2000000000, e2, y, e8, kt0, e9, em, e10'])
          rfl
        · first | exact True.intro | omega | assumption
      | with_reducible apply wp_is
        · (try simp (disch := omega) only [bi, Int.add_zero, Int.zero_add, true_or, or_true, true_and, and_true, not_false_eq_true, not_true_eq_false, if_true, if_false, if_pos, if_neg, ki_add, ki_sub, ki_mul, ki_neg, ki_lt, ki_le, ki_eq, ki_cl, ki_div, ki_ite, ck5, kl_0, kl_1, kl_2, kl_3, kl_4, kl_5, kl_6, kl_7, kl_8, kl_9, kl_10, kl_11, kl_12, kl_13, kl_14, kl_16, kl_20, kl_21, kl_30, kl_31, kl_32, kl_33, kl_35, kl_37, kl_38, kl_39, kl_40, kl_41, kl_42, kl_43, kl_45, kl_47, kl_48, kl_50, kl_57, kl_59, kl_60, kl_61, kl_62, kl_63, kl_64, kl_97, kl_98, kl_99, kl_100, kl_101, kl_102, kl_103, kl_104, kl_105, kl_106, kl_107, kl_108, kl_109, kl_110, kl_111, kl_112, kl_113, kl_114, kl_115, kl_120, kl_124, kl_126, kl_127, kl_255, kl_720, kl_2048, kl_252645135, kl_858993459, kl_1431655765, kl_1640531535, kl_2000000000, e2, y, e8, kt0, e9, em, e10'])
          rfl
        all_goals intro _
        all_goals try (exfalso; first | (rename_i q; exact q trivial) | (rename_i q; exact q) | omega)
      | with_reducible apply wp_mr
      | with_reducible apply wp_b
        · simp (disch := omega) only [Int.add_zero, Int.zero_add, true_or, or_true, true_and, and_true, not_false_eq_true, not_true_eq_false, if_true, if_false, if_pos, if_neg, ki_add, ki_sub, ki_mul, ki_neg, ki_lt, ki_le, ki_eq, ki_cl, ki_div, ki_ite, ck5, kl_0, kl_1, kl_2, kl_3, kl_4, kl_5, kl_6, kl_7, kl_8, kl_9, kl_10, kl_11, kl_12, kl_13, kl_14, kl_16, kl_20, kl_21, kl_30, kl_31, kl_32, kl_33, kl_35, kl_37, kl_38, kl_39, kl_40, kl_41, kl_42, kl_43, kl_45, kl_47, kl_48, kl_50, kl_57, kl_59, kl_60, kl_61, kl_62, kl_63, kl_64, kl_97, kl_98, kl_99, kl_100, kl_101, kl_102, kl_103, kl_104, kl_105, kl_106, kl_107, kl_108, kl_109, kl_110, kl_111, kl_112, kl_113, kl_114, kl_115, kl_120, kl_124, kl_126, kl_127, kl_255, kl_720, kl_2048, kl_252645135, kl_858993459, kl_1431655765, kl_1640531535, kl_2000000000, e2, y, e8, kt0, e9, em, e10']
          rfl
        all_goals intro _
        all_goals try (exfalso; first | (rename_i q; exact q trivial) | (rename_i q; exact q) | omega)
      | with_reducible apply wp_oe
        · simp (disch := omega) only [Int.add_zero, Int.zero_add, true_or, or_true, true_and, and_true, not_false_eq_true, not_true_eq_false, if_true, if_false, if_pos, if_neg, ki_add, ki_sub, ki_mul, ki_neg, ki_lt, ki_le, ki_eq, ki_cl, ki_div, ki_ite, ck5, kl_0, kl_1, kl_2, kl_3, kl_4, kl_5, kl_6, kl_7, kl_8, kl_9, kl_10, kl_11, kl_12, kl_13, kl_14, kl_16, kl_20, kl_21, kl_30, kl_31, kl_32, kl_33, kl_35, kl_37, kl_38, kl_39, kl_40, kl_41, kl_42, kl_43, kl_45, kl_47, kl_48, kl_50, kl_57, kl_59, kl_60, kl_61, kl_62, kl_63, kl_64, kl_97, kl_98, kl_99, kl_100, kl_101, kl_102, kl_103, kl_104, kl_105, kl_106, kl_107, kl_108, kl_109, kl_110, kl_111, kl_112, kl_113, kl_114, kl_115, kl_120, kl_124, kl_126, kl_127, kl_255, kl_720, kl_2048, kl_252645135, kl_858993459, kl_1431655765, kl_1640531535, kl_2000000000, e2, y, e8, kt0, e9, em, e10']
          try rfl
      | with_reducible apply wp_sv
        · (try simp (disch := omega) only [bi, Int.add_zero, Int.zero_add, true_or, or_true, true_and, and_true, not_false_eq_true, not_true_eq_false, if_true, if_false, if_pos, if_neg, ki_add, ki_sub, ki_mul, ki_neg, ki_lt, ki_le, ki_eq, ki_cl, ki_div, ki_ite, ck5, kl_0, kl_1, kl_2, kl_3, kl_4, kl_5, kl_6, kl_7, kl_8, kl_9, kl_10, kl_11, kl_12, kl_13, kl_14, kl_16, kl_20, kl_21, kl_30, kl_31, kl_32, kl_33, kl_35, kl_37, kl_38, kl_39, kl_40, kl_41, kl_42, kl_43, kl_45, kl_47, kl_48, kl_50, kl_57, kl_59, kl_60, kl_61, kl_62, kl_63, kl_64, kl_97, kl_98, kl_99, kl_100, kl_101, kl_102, kl_103, kl_104, kl_105, kl_106, kl_107, kl_108, kl_109, kl_110, kl_111, kl_112, kl_113, kl_114, kl_115, kl_120, kl_124, kl_126, kl_127, kl_255, kl_720, kl_2048, kl_252645135, kl_858993459, kl_1431655765, kl_1640531535, kl_2000000000, e2, y, e8, kt0, e9, em, e10'])
          rfl
      | with_reducible apply wp_so
    refine ⟨?_, ?_, fr_tr f10 (fr_si (by unfold qX; omega)), lawX_c q5 (by omega)⟩
    · rw [xsi_r, if_pos ⟨rfl, rfl⟩, a0]
    · rw [xsi_r, if_neg (by omega)]; exact fin
