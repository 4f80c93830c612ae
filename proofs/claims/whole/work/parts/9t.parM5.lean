/-! part 9t: how the reference reads a law's text: levels, lines -/
theorem m_lvs {t : Int → Int} {T k B : Int} {D : Nat} {u : Int → Prs} (ht : okT t T) (B1 : B ≤ 45) (hgd : ∀ h, 0 ≤ h → h ≤ T → gdR (B + 5) T h (u h))
    (hop : ∀ d, D ≤ d → ∀ (h : Int) (o : List Sp2) (S : xSt), mP t T h o k S → wp ((F_X12_both d).2.2.2.1 S) (fun q => mR t T o h k (u h) q.1 ∧ mfr S q.1)) :
    ∀ d, D + 5 ≤ d → ∀ (h : Int) (o : List Sp2) (S : xSt), mP t T h o k S → wp ((F_X12_both d).2.2.1 S) (fun q => mR t T o h k (lev t T u 5 h) q.1 ∧ mfr S q.1) := by
  have gd : ∀ j, j ≤ 5 → ∀ h, 0 ≤ h → h ≤ T → ∃ B', gdR B' T h (lev t T u j h) := fun j hj h h0 h1 => ⟨_, lev_gd (t := t) B1 hgd j hj h h0 h1⟩
  have l1 : ∀ d, D + 1 ≤ d → ∀ (h : Int) (o : List Sp2) (S : xSt), mP t T h o k S → wp ((F_X12_both d).2.2.2.2.1 S) (fun q => mR t T o h k (lev t T u 1 h) q.1 ∧ mfr S q.1) := by
    intro d hd h o S hp
    obtain ⟨d, rfl⟩ : ∃ d', d = d' + 1 := ⟨d - 1, by omega⟩
    have hq : ∀ (h : Int) (o : List Sp2) (S : xSt), mP t T h o k S → wp ((F_X12_both d).2.2.2.1 S) (fun q => mR t T o h k (lev t T u 0 h) q.1 ∧ mfr S q.1) := fun h o S hp => hop d (by omega) h o S hp
    have bd := m_b42 (g1 := (F_X12_both d).1) (g2 := (F_X12_both d).2.1) (g3 := (F_X12_both d).2.2.1) (g5 := (F_X12_both d).2.2.2.2.1) (g6 := (F_X12_both d).2.2.2.2.2) ht (gd 0 (by omega)) hq
    have e : lev t T u 1 h = lvN t T (lev t T u 0) 4 (lev t T u 0 h) := rfl
    rw [e]
    exact m_level ht (by decide) (by decide) bd (gd 0 (by omega)) hp (hq h o S hp)
  have l2 : ∀ d, D + 2 ≤ d → ∀ (h : Int) (o : List Sp2) (S : xSt), mP t T h o k S → wp ((F_X12_both d).2.2.2.2.2 S) (fun q => mR t T o h k (lev t T u 2 h) q.1 ∧ mfr S q.1) := by
    intro d hd h o S hp
    obtain ⟨d, rfl⟩ : ∃ d', d = d' + 1 := ⟨d - 1, by omega⟩
    have hq := l1 d (by omega)
    have bd := m_b43 (g1 := (F_X12_both d).1) (g2 := (F_X12_both d).2.1) (g3 := (F_X12_both d).2.2.1) (g4 := (F_X12_both d).2.2.2.1) (g6 := (F_X12_both d).2.2.2.2.2) ht (gd 1 (by omega)) hq
    have e : lev t T u 2 h = lvN t T (lev t T u 1) 3 (lev t T u 1 h) := rfl
    rw [e]
    exact m_level ht (by decide) (by decide) bd (gd 1 (by omega)) hp (hq h o S hp)
  have l3 : ∀ d, D + 3 ≤ d → ∀ (h : Int) (o : List Sp2) (S : xSt), mP t T h o k S → wp ((F_X12_both d).2.1 S) (fun q => mR t T o h k (lev t T u 3 h) q.1 ∧ mfr S q.1) := by
    intro d hd h o S hp
    obtain ⟨d, rfl⟩ : ∃ d', d = d' + 1 := ⟨d - 1, by omega⟩
    have hq := l2 d (by omega)
    have e : lev t T u 3 h = lvN t T (lev t T u 2) 2 (lev t T u 2 h) := rfl
    rw [e]
    exact m_cmp (g1 := (F_X12_both d).1) (g2 := (F_X12_both d).2.1) (g3 := (F_X12_both d).2.2.1) (g4 := (F_X12_both d).2.2.2.1) (g5 := (F_X12_both d).2.2.2.2.1) ht (gd 2 (by omega)) hp hq
  have l4 : ∀ d, D + 4 ≤ d → ∀ (h : Int) (o : List Sp2) (S : xSt), mP t T h o k S → wp ((F_X12_both d).1 S) (fun q => mR t T o h k (lev t T u 4 h) q.1 ∧ mfr S q.1) := by
    intro d hd h o S hp
    obtain ⟨d, rfl⟩ : ∃ d', d = d' + 1 := ⟨d - 1, by omega⟩
    have hq := l3 d (by omega)
    have bd := m_b38 (g1 := (F_X12_both d).1) (g3 := (F_X12_both d).2.2.1) (g4 := (F_X12_both d).2.2.2.1) (g5 := (F_X12_both d).2.2.2.2.1) (g6 := (F_X12_both d).2.2.2.2.2) ht (gd 3 (by omega)) hq
    have e : lev t T u 4 h = lvN t T (lev t T u 3) 1 (lev t T u 3 h) := rfl
    rw [e]
    exact m_level ht (by decide) (by decide) bd (gd 3 (by omega)) hp (hq h o S hp)
  intro d hd h o S hp
  obtain ⟨d, rfl⟩ : ∃ d', d = d' + 1 := ⟨d - 1, by omega⟩
  have hq := l4 d (by omega)
  have bd := m_b124 (g2 := (F_X12_both d).2.1) (g3 := (F_X12_both d).2.2.1) (g4 := (F_X12_both d).2.2.2.1) (g5 := (F_X12_both d).2.2.2.2.1) (g6 := (F_X12_both d).2.2.2.2.2) ht (gd 4 (by omega)) hq
  have e : lev t T u 5 h = lvN t T (lev t T u 4) 0 (lev t T u 4 h) := rfl
  rw [e]
  exact m_level ht (by decide) (by decide) bd (gd 4 (by omega)) hp (hq h o S hp)
theorem m_unt {t : Int → Int} {T : Int} (ht : okT t T) : ∀ (f : Nat), f ≤ 6 → ∀ d, 6 * f + 1 ≤ d → ∀ (h : Int) (o : List Sp2) (S : xSt), mP t T h o (6 - (f : Int)) S → wp ((F_X12_both d).2.2.2.1 S) (fun q => mR t T o h (6 - (f : Int)) (un t T f h) q.1 ∧ mfr S q.1) := by
  intro f
  induction f with
  | zero =>
    intro hf d hd h o S hp
    obtain ⟨d, rfl⟩ : ∃ d', d = d' + 1 := ⟨d - 1, by omega⟩
    exact m_opd (g1 := (F_X12_both d).1) (g2 := (F_X12_both d).2.1) (g3 := (F_X12_both d).2.2.1) (g4 := (F_X12_both d).2.2.2.1) (g5 := (F_X12_both d).2.2.2.2.1) (g6 := (F_X12_both d).2.2.2.2.2) (can := false) (ru := fun _ => .inl 0) (r0 := fun _ => .inl 0) (k := 6 - ((0 : Nat) : Int)) ht (by omega) (by omega) ⟨fun q => absurd q (by decide), fun q => absurd q (by omega)⟩ hp (fun q => absurd q (by omega)) (fun q => absurd q (by omega)) (fun q => absurd q (by omega))
  | succ f ih =>
    intro hf d hd h o S hp
    obtain ⟨d, rfl⟩ : ∃ d', d = d' + 1 := ⟨d - 1, by omega⟩
    have gu := un_gd (t := t) (T := T) f (by omega)
    have ek : 6 - ((f + 1 : Nat) : Int) + 1 = 6 - (f : Int) := by omega
    have hgd5 : ∀ h, 0 ≤ h → h ≤ T → gdR (30 - 5 * (f : Int) + 5) T h (un t T f h) := fun h' a0 a1 => by rw [show 30 - 5 * (f : Int) + 5 = 35 - 5 * (f : Int) by omega]; exact gu h' a0 a1
    have h00 := hp.1
    refine m_opd (g1 := (F_X12_both d).1) (g2 := (F_X12_both d).2.1) (g3 := (F_X12_both d).2.2.1) (g4 := (F_X12_both d).2.2.2.1) (g5 := (F_X12_both d).2.2.2.2.1) (g6 := (F_X12_both d).2.2.2.2.2) (can := true) (ru := un t T f) (r0 := lev t T (un t T f) 5) (k := 6 - ((f + 1 : Nat) : Int)) ht (by omega) (by omega) ⟨fun _ => by omega, fun _ => rfl⟩ hp (fun hk hin => ⟨⟨_, gu (h + 1) (by omega) (by omega)⟩, ⟨_, lev_gd (t := t) (B := 30 - 5 * (f : Int)) (by omega) hgd5 5 (by omega) (h + 1) (by omega) (by omega)⟩⟩) (fun hk S' hp' => ?_) (fun hk S' hp' => ?_)
    · rw [ek] at hp' ⊢
      exact m_lvs (B := 30 - 5 * (f : Int)) (D := 6 * f + 1) ht (by omega) hgd5 (fun d' hd' h' o' S'' hp'' => ih (by omega) d' hd' h' o' S'' hp'') d (by omega) (h + 1) o S' hp'
    · rw [ek] at hp' ⊢
      exact ih (by omega) d (by omega) (h + 1) o S' hp'
theorem m_lv6 {t : Int → Int} {T h : Int} {o : List Sp2} {S : xSt} (ht : okT t T) (hp : mP t T h o 0 S) : wp (f_X12_either 70 S) (fun q => mR t T o h 0 (lv6 t T h) q.1 ∧ mfr S q.1) := by
  have gu := un_gd (t := t) (T := T) 6 (by omega)
  exact m_lvs (k := 0) (B := 0) (D := 37) (u := un t T 6) ht (by omega) (fun h' a0 a1 => gu h' a0 a1) (fun d' hd' h' o' S' hp' => m_unt ht 6 (by omega) d' (by omega) h' o' S' hp') 70 (by omega) h o S hp
def pQ9 (k j : Nat) : Prop := (k = 17 ∧ j = 1) ∨ (k = 18 ∧ 61 ≤ j) ∨ (k = 19 ∧ 61 ≤ j)
def mfr2 (S S' : xSt) : Prop := eq_ (fun k j => pM9 k j ∨ pQ9 k j) S S' ∧ S'.2 = S.2
theorem mfr2_1 {S S' : xSt} (h : mfr S S') : mfr2 S S' := ⟨fun k j q => h.1 k j (fun w => q (Or.inl w)), h.2⟩
theorem mfr2_l {S S' : xSt} (h : eq_ pQ9 S S') (h2 : S'.2 = S.2) : mfr2 S S' := ⟨fun k j q => h k j (fun w => q (Or.inr w)), h2⟩
theorem mfr2_tr {S S' S'' : xSt} (h : mfr2 S S') (h' : mfr2 S' S'') : mfr2 S S'' := ⟨eq_tr h.1 h'.1, h'.2.trans h.2⟩
theorem mP_e {t : Int → Int} {T h k : Int} {o : List Sp2} {S S' : xSt} (hp : mP t T h o k S) (e : eq_ pQ9 S S') : mP t T h o k S' := by
  obtain ⟨h0, h1, h2, h3, h4, h5, h6, h7, h8, h9⟩ := hp
  exact ⟨h0, h1, h2, by rw [e 0 19 (by unfold pQ9; omega)]; exact h3, by rw [e 0 18 (by unfold pQ9; omega)]; exact h4, by rw [e 0 20 (by unfold pQ9; omega)]; exact h5, by rw [e 0 21 (by unfold pQ9; omega)]; exact h6, fun j s hj => by rw [e 15 _ (by unfold pQ9; omega), e 16 _ (by unfold pQ9; omega)]; exact h7 j s hj, by rw [e 0 17 (by unfold pQ9; omega)]; exact h8, fun z z0 z1 => by rw [e 14 _ (by unfold pQ9; omega)]; exact h9 z z0 z1⟩
theorem mB_e {t : Int → Int} {T x c : Int} {S S' : xSt} (hp : mB t T x c S) (e : eq_ pQ9 S S') : mB t T x c S' := by
  obtain ⟨a1, a2, a3, a4, ⟨h', u, b1, b2, b3, b4, b5⟩, a6, a7⟩ := hp
  exact ⟨a1, a2, a3, by rw [e 0 19 (by unfold pQ9; omega)]; exact a4, ⟨h', u, by rw [e 0 18 (by unfold pQ9; omega)]; exact b1, b2, b3, by rw [e 0 21 (by unfold pQ9; omega)]; exact b4, b5⟩, by rw [e 0 17 (by unfold pQ9; omega)]; exact a6, fun z z0 z1 => by rw [e 14 _ (by unfold pQ9; omega)]; exact a7 z z0 z1⟩
def mLr (es : List (Int × Int)) (S : xSt) : Prop := S.1 17 1 = ki (es.length : Nat) ∧ ∀ (j : Nat) (e : Int × Int), es[j]? = some e → S.1 18 (61 + j) = ki e.1 ∧ S.1 19 (61 + j) = ki e.2
theorem mLr_f {es : List (Int × Int)} {S S' : xSt} (h : mLr es S) (hf : mfr S S') : mLr es S' := ⟨by rw [hf.1 17 1 (by unfold pM9; omega)]; exact h.1, fun j e he => by rw [hf.1 18 _ (by unfold pM9; omega), hf.1 19 _ (by unfold pM9; omega)]; exact h.2 j e he⟩
theorem mLr_t {es : List (Int × Int)} {S : xSt} {v : Int32} (h : mLr es S) : mLr es (xsi S 18 (61 + es.length) v) := by
  refine ⟨by rw [xsi_r, if_neg (by omega)]; exact h.1, fun j e he => ?_⟩
  have hj : j < es.length := by
    refine Classical.byContradiction (fun q => ?_)
    rw [List.getElem?_eq_none (by omega)] at he
    cases he
  rw [xsi_r, if_neg (by omega), xsi_r, if_neg (by omega)]
  exact h.2 j e he
theorem ki_16n : ∀ v : Nat, v < 256 → (ki (v : Int)).toInt16.toInt32 = ki (v : Int) := by decide +kernel
theorem m_66 {S : xSt} {n w : Nat} (hn : n < 61) (hw : w < 256) (e1 : S.1 0 21 = ki w) (e2 : S.1 17 1 = ki n) : f_X12_line_66 (ki ((61 + n : Nat) : Int)) S = some (xsi (xsi S 19 (61 + n) (ki w)) 17 1 (ki ((n : Int) + 1)), ()) := by
  have e16 := ki_16n w hw
  have kt : ((61 + n : Nat) : Int).toNat = 61 + n := by omega
  have k1 : (1 : Int).toNat = 1 := rfl
  unfold f_X12_line_66
  apply wp_eq
  repeat' first
    | with_reducible apply wp_bd
      · (try simp (disch := omega) only [bi, Int.add_zero, Int.zero_add, true_or, or_true, true_and, and_true, not_false_eq_true, not_true_eq_false, if_true, if_false, if_pos, if_neg, ki_add, ki_sub, ki_mul, ki_neg, ki_lt, ki_le, ki_eq, ki_cl, ki_div, ki_ite, ck5, kl_0, kl_1, kl_2, kl_3, kl_4, kl_5, kl_6, kl_7, kl_8, kl_9, kl_10, kl_11, kl_12, kl_13, kl_14, kl_16, kl_20, kl_21, kl_24, kl_29, kl_30, kl_31, kl_33, kl_35, kl_37, kl_38, kl_39, kl_40, kl_41, kl_42, kl_43, kl_44, kl_45, kl_46, kl_47, kl_48, kl_49, kl_50, kl_51, kl_52, kl_53, kl_54, kl_55, kl_56, kl_57, kl_58, kl_59, kl_60, kl_61, kl_62, kl_63, kl_64, kl_70, kl_80, kl_81, kl_97, kl_98, kl_99, kl_100, kl_101, kl_102, kl_103, kl_104, kl_105, kl_106, kl_107, kl_108, kl_109, kl_110, kl_111, kl_112, kl_113, kl_114, kl_115, kl_120, kl_124, kl_126, kl_130, kl_255, kl_720, kl_2048, kl_10000, kl_12345, kl_252645135, kl_858993459, kl_1103515245, kl_1431655765, kl_1640531535, kl_2000000000, e1, e16, kt, xsi_r, k1, e2])
        rfl
    | with_reducible apply wp_in
      · (try simp (disch := omega) only [bi, Int.add_zero, Int.zero_add, true_or, or_true, true_and, and_true, not_false_eq_true, not_true_eq_false, if_true, if_false, if_pos, if_neg, ki_add, ki_sub, ki_mul, ki_neg, ki_lt, ki_le, ki_eq, ki_cl, ki_div, ki_ite, ck5, kl_0, kl_1, kl_2, kl_3, kl_4, kl_5, kl_6, kl_7, kl_8, kl_9, kl_10, kl_11, kl_12, kl_13, kl_14, kl_16, kl_20, kl_21, kl_24, kl_29, kl_30, kl_31, kl_33, kl_35, kl_37, kl_38, kl_39, kl_40, kl_41, kl_42, kl_43, kl_44, kl_45, kl_46, kl_47, kl_48, kl_49, kl_50, kl_51, kl_52, kl_53, kl_54, kl_55, kl_56, kl_57, kl_58, kl_59, kl_60, kl_61, kl_62, kl_63, kl_64, kl_70, kl_80, kl_81, kl_97, kl_98, kl_99, kl_100, kl_101, kl_102, kl_103, kl_104, kl_105, kl_106, kl_107, kl_108, kl_109, kl_110, kl_111, kl_112, kl_113, kl_114, kl_115, kl_120, kl_124, kl_126, kl_130, kl_255, kl_720, kl_2048, kl_10000, kl_12345, kl_252645135, kl_858993459, kl_1103515245, kl_1431655765, kl_1640531535, kl_2000000000, e1, e16, kt, xsi_r, k1, e2])
        rfl
      · decide
      · omega
      · omega
    | with_reducible apply wp_gd
      · (try simp (disch := omega) only [bi, Int.add_zero, Int.zero_add, true_or, or_true, true_and, and_true, not_false_eq_true, not_true_eq_false, if_true, if_false, if_pos, if_neg, ki_add, ki_sub, ki_mul, ki_neg, ki_lt, ki_le, ki_eq, ki_cl, ki_div, ki_ite, ck5, kl_0, kl_1, kl_2, kl_3, kl_4, kl_5, kl_6, kl_7, kl_8, kl_9, kl_10, kl_11, kl_12, kl_13, kl_14, kl_16, kl_20, kl_21, kl_24, kl_29, kl_30, kl_31, kl_33, kl_35, kl_37, kl_38, kl_39, kl_40, kl_41, kl_42, kl_43, kl_44, kl_45, kl_46, kl_47, kl_48, kl_49, kl_50, kl_51, kl_52, kl_53, kl_54, kl_55, kl_56, kl_57, kl_58, kl_59, kl_60, kl_61, kl_62, kl_63, kl_64, kl_70, kl_80, kl_81, kl_97, kl_98, kl_99, kl_100, kl_101, kl_102, kl_103, kl_104, kl_105, kl_106, kl_107, kl_108, kl_109, kl_110, kl_111, kl_112, kl_113, kl_114, kl_115, kl_120, kl_124, kl_126, kl_130, kl_255, kl_720, kl_2048, kl_10000, kl_12345, kl_252645135, kl_858993459, kl_1103515245, kl_1431655765, kl_1640531535, kl_2000000000, e1, e16, kt, xsi_r, k1, e2])
        rfl
      · first | exact True.intro | omega | assumption
    | with_reducible apply wp_is
      · (try simp (disch := omega) only [bi, Int.add_zero, Int.zero_add, true_or, or_true, true_and, and_true, not_false_eq_true, not_true_eq_false, if_true, if_false, if_pos, if_neg, ki_add, ki_sub, ki_mul, ki_neg, ki_lt, ki_le, ki_eq, ki_cl, ki_div, ki_ite, ck5, kl_0, kl_1, kl_2, kl_3, kl_4, kl_5, kl_6, kl_7, kl_8, kl_9, kl_10, kl_11, kl_12, kl_13, kl_14, kl_16, kl_20, kl_21, kl_24, kl_29, kl_30, kl_31, kl_33, kl_35, kl_37, kl_38, kl_39, kl_40, kl_41, kl_42, kl_43, kl_44, kl_45, kl_46, kl_47, kl_48, kl_49, kl_50, kl_51, kl_52, kl_53, kl_54, kl_55, kl_56, kl_57, kl_58, kl_59, kl_60, kl_61, kl_62, kl_63, kl_64, kl_70, kl_80, kl_81, kl_97, kl_98, kl_99, kl_100, kl_101, kl_102, kl_103, kl_104, kl_105, kl_106, kl_107, kl_108, kl_109, kl_110, kl_111, kl_112, kl_113, kl_114, kl_115, kl_120, kl_124, kl_126, kl_130, kl_255, kl_720, kl_2048, kl_10000, kl_12345, kl_252645135, kl_858993459, kl_1103515245, kl_1431655765, kl_1640531535, kl_2000000000, e1, e16, kt, xsi_r, k1, e2])
        rfl
      all_goals intro _
      all_goals try (exfalso; first | (rename_i q; exact q trivial) | (rename_i q; exact q) | omega)
    | with_reducible apply wp_mr
    | with_reducible apply wp_b
      · simp (disch := omega) only [Int.add_zero, Int.zero_add, true_or, or_true, true_and, and_true, not_false_eq_true, not_true_eq_false, if_true, if_false, if_pos, if_neg, ki_add, ki_sub, ki_mul, ki_neg, ki_lt, ki_le, ki_eq, ki_cl, ki_div, ki_ite, ck5, kl_0, kl_1, kl_2, kl_3, kl_4, kl_5, kl_6, kl_7, kl_8, kl_9, kl_10, kl_11, kl_12, kl_13, kl_14, kl_16, kl_20, kl_21, kl_24, kl_29, kl_30, kl_31, kl_33, kl_35, kl_37, kl_38, kl_39, kl_40, kl_41, kl_42, kl_43, kl_44, kl_45, kl_46, kl_47, kl_48, kl_49, kl_50, kl_51, kl_52, kl_53, kl_54, kl_55, kl_56, kl_57, kl_58, kl_59, kl_60, kl_61, kl_62, kl_63, kl_64, kl_70, kl_80, kl_81, kl_97, kl_98, kl_99, kl_100, kl_101, kl_102, kl_103, kl_104, kl_105, kl_106, kl_107, kl_108, kl_109, kl_110, kl_111, kl_112, kl_113, kl_114, kl_115, kl_120, kl_124, kl_126, kl_130, kl_255, kl_720, kl_2048, kl_10000, kl_12345, kl_252645135, kl_858993459, kl_1103515245, kl_1431655765, kl_1640531535, kl_2000000000, e1, e16, kt, xsi_r, k1, e2]
        rfl
      all_goals intro _
      all_goals try (exfalso; first | (rename_i q; exact q trivial) | (rename_i q; exact q) | omega)
    | with_reducible apply wp_oe
      · simp (disch := omega) only [Int.add_zero, Int.zero_add, true_or, or_true, true_and, and_true, not_false_eq_true, not_true_eq_false, if_true, if_false, if_pos, if_neg, ki_add, ki_sub, ki_mul, ki_neg, ki_lt, ki_le, ki_eq, ki_cl, ki_div, ki_ite, ck5, kl_0, kl_1, kl_2, kl_3, kl_4, kl_5, kl_6, kl_7, kl_8, kl_9, kl_10, kl_11, kl_12, kl_13, kl_14, kl_16, kl_20, kl_21, kl_24, kl_29, kl_30, kl_31, kl_33, kl_35, kl_37, kl_38, kl_39, kl_40, kl_41, kl_42, kl_43, kl_44, kl_45, kl_46, kl_47, kl_48, kl_49, kl_50, kl_51, kl_52, kl_53, kl_54, kl_55, kl_56, kl_57, kl_58, kl_59, kl_60, kl_61, kl_62, kl_63, kl_64, kl_70, kl_80, kl_81, kl_97, kl_98, kl_99, kl_100, kl_101, kl_102, kl_103, kl_104, kl_105, kl_106, kl_107, kl_108, kl_109, kl_110, kl_111, kl_112, kl_113, kl_114, kl_115, kl_120, kl_124, kl_126, kl_130, kl_255, kl_720, kl_2048, kl_10000, kl_12345, kl_252645135, kl_858993459, kl_1103515245, kl_1431655765, kl_1640531535, kl_2000000000, e1, e16, kt, xsi_r, k1, e2]
        try rfl
    | with_reducible apply wp_sv
      · (try simp (disch := omega) only [bi, Int.add_zero, Int.zero_add, true_or, or_true, true_and, and_true, not_false_eq_true, not_true_eq_false, if_true, if_false, if_pos, if_neg, ki_add, ki_sub, ki_mul, ki_neg, ki_lt, ki_le, ki_eq, ki_cl, ki_div, ki_ite, ck5, kl_0, kl_1, kl_2, kl_3, kl_4, kl_5, kl_6, kl_7, kl_8, kl_9, kl_10, kl_11, kl_12, kl_13, kl_14, kl_16, kl_20, kl_21, kl_24, kl_29, kl_30, kl_31, kl_33, kl_35, kl_37, kl_38, kl_39, kl_40, kl_41, kl_42, kl_43, kl_44, kl_45, kl_46, kl_47, kl_48, kl_49, kl_50, kl_51, kl_52, kl_53, kl_54, kl_55, kl_56, kl_57, kl_58, kl_59, kl_60, kl_61, kl_62, kl_63, kl_64, kl_70, kl_80, kl_81, kl_97, kl_98, kl_99, kl_100, kl_101, kl_102, kl_103, kl_104, kl_105, kl_106, kl_107, kl_108, kl_109, kl_110, kl_111, kl_112, kl_113, kl_114, kl_115, kl_120, kl_124, kl_126, kl_130, kl_255, kl_720, kl_2048, kl_10000, kl_12345, kl_252645135, kl_858993459, kl_1103515245, kl_1431655765, kl_1640531535, kl_2000000000, e1, e16, kt, xsi_r, k1, e2])
        rfl
    | with_reducible apply wp_so
  rfl
theorem mLr_66 {es : List (Int × Int)} {g : Int} {w : Nat} {S : xSt} (h : mLr es S) (hg : S.1 18 (61 + es.length) = ki g) : mLr (es ++ [(g, (w : Int))]) (xsi (xsi S 19 (61 + es.length) (ki w)) 17 1 (ki ((es.length : Int) + 1))) := by
  have hln := len_ap es (g, (w : Int))
  refine ⟨by rw [xsi_r, if_pos ⟨rfl, rfl⟩, hln]; exact nc_1n _, fun j e he => ?_⟩
  rw [xsi_r, if_neg (by omega), xsi_r, if_neg (by omega), xsi_r, if_neg (by omega), xsi_r]
  rcases get_apE he with ⟨e1, e2⟩ | ⟨e1, e2⟩
  · rw [e2, e1, if_pos ⟨rfl, rfl⟩]; exact ⟨hg, rfl⟩
  · rw [if_neg (by omega)]; exact h.2 j e e2
def mlQ (t : Int → Int) (T : Int) (o : List Sp2) (es : List (Int × Int)) (r : LnR) (S : xSt) : Prop := match r with | .inl x => mB t T x 0 S | .inr p => mP t T p.1 (o ++ (p.2.1 ++ p.2.2)) 0 S ∧ mLr (es ++ [((((o ++ p.2.1).length : Nat) : Int), (((o ++ (p.2.1 ++ p.2.2)).length : Nat) : Int))]) S
theorem m_66P {t : Int → Int} {T h g : Int} {o : List Sp2} {es : List (Int × Int)} {S : xSt} (ht : okT t T) (hp : mP t T h o 0 S) (hL : mLr es S) (hg : S.1 18 (61 + es.length) = ki g) (hn : es.length < 61) : wp (f_X12_line_66 (ki ((61 + es.length : Nat) : Int)) S) (fun q => mP t T h o 0 q.1 ∧ mLr (es ++ [(g, ((o.length : Nat) : Int))]) q.1 ∧ mfr2 S q.1) := by
  have e := m_66 (S := S) hn (w := o.length) (by have := hp.2.1; have := hp.2.2.1; have := ht.2.1; omega) hp.2.2.2.2.2.2.1 hL.1
  have ff : eq_ pQ9 S (xsi (xsi S 19 (61 + es.length) (ki (o.length : Nat))) 17 1 (ki ((es.length : Int) + 1))) := eq_tr (eq_i (by unfold pQ9; omega)) (eq_i (by unfold pQ9; omega))
  exact ⟨_, e, mP_e hp ff, mLr_66 hL hg, mfr2_l ff rfl⟩
theorem m_66F {t : Int → Int} {T x : Int} {es : List (Int × Int)} {S : xSt} (ht : okT t T) (hp : mB t T x 0 S) (hL : mLr es S) (hn : es.length < 61) : wp (f_X12_line_66 (ki ((61 + es.length : Nat) : Int)) S) (fun q => mB t T x 0 q.1 ∧ mfr2 S q.1) := by
  obtain ⟨h', u, b1, b2, b3, b4, b5⟩ := hp.2.2.2.2.1
  have e := m_66 (S := S) hn (w := u) (by have := ht.2.1; omega) b4 hL.1
  have ff : eq_ pQ9 S (xsi (xsi S 19 (61 + es.length) (ki u)) 17 1 (ki ((es.length : Int) + 1))) := eq_tr (eq_i (by unfold pQ9; omega)) (eq_i (by unfold pQ9; omega))
  exact ⟨_, e, mB_e hp ff, mfr2_l ff rfl⟩
theorem m_line {t : Int → Int} {T h : Int} {o : List Sp2} {es : List (Int × Int)} {S : xSt} (ht : okT t T) (hp : mP t T h o 0 S) (hL : mLr es S) (hn : es.length < 61) : wp (f_X12_line S) (fun q => mlQ t T o es (pzLine t T h) q.1 ∧ mfr2 S q.1) := by
  have hT := ht.2.1
  have hlen := hp.2.2.1
  have hh := hp.2.1
  have r21 := hp.2.2.2.2.2.2.1
  have r17 := hL.1
  have e16 := ki_16n o.length (by omega)
  have kt : (61 + ((es.length : Nat) : Int)).toNat = 61 + es.length := by omega
  have k1 : (1 : Int).toNat = 1 := rfl
  have k61 : 61 + ((es.length : Nat) : Int) = ((61 + es.length : Nat) : Int) := by omega
  obtain ⟨S5, e5⟩ : ∃ S5, xsi S 18 (61 + es.length) (ki (o.length : Nat)) = S5 := ⟨_, rfl⟩
  have ff5 : eq_ pQ9 S S5 := by rw [← e5]; exact eq_i (by unfold pQ9; omega)
  have f5 : mfr2 S S5 := by rw [← e5]; exact mfr2_l (eq_i (by unfold pQ9; omega)) rfl
  have p5 := mP_e hp ff5
  have L5 : mLr es S5 := by rw [← e5]; exact mLr_t hL
  have g5 : S5.1 18 (61 + es.length) = ki (o.length : Nat) := by rw [← e5, xsi_r, if_pos ⟨rfl, rfl⟩]
  obtain ⟨⟨S6, w⟩, e6, hr, f6⟩ := m_lv6 ht p5
  dsimp only at hr f6
  have L6 := mLr_f L5 f6
  have g6 : S6.1 18 (61 + es.length) = ki (o.length : Nat) := by rw [f6.1 18 _ (by unfold pM9; omega)]; exact g5
  have gr := lv6_gd (t := t) hp.1 hp.2.1
  unfold f_X12_line f_X12_line_0 pzLine
  cases er : lv6 t T h with
  | inl x =>
    rw [er] at hr
    have hx : mB t T x (h - (o.length : Int)) S6 := hr
    have r9 := hx.2.2.2.1
    have x0 := hx.1
    have x1 := hx.2.1
    have fin := wp_mo (m_66F ht (mB_w hx (by omega) (by omega)) L6 hn) (fun q hq => (⟨hq.1, mfr2_tr (mfr2_tr f5 (mfr2_1 f6)) hq.2⟩ : mlQ t T o es (lnA t T (lv6 t T) (.inl x)) q.1 ∧ mfr2 S q.1))
    rw [← k61] at fin
    clear hx hr hp hL p5 L5 L6 gr er ht
    repeat' first
      | with_reducible apply wp_bd
        · (try simp (disch := omega) only [bi, Int.add_zero, Int.zero_add, true_or, or_true, true_and, and_true, not_false_eq_true, not_true_eq_false, if_true, if_false, if_pos, if_neg, ki_add, ki_sub, ki_mul, ki_neg, ki_lt, ki_le, ki_eq, ki_cl, ki_div, ki_ite, ck5, kl_0, kl_1, kl_2, kl_3, kl_4, kl_5, kl_6, kl_7, kl_8, kl_9, kl_10, kl_11, kl_12, kl_13, kl_14, kl_16, kl_20, kl_21, kl_24, kl_29, kl_30, kl_31, kl_33, kl_35, kl_37, kl_38, kl_39, kl_40, kl_41, kl_42, kl_43, kl_44, kl_45, kl_46, kl_47, kl_48, kl_49, kl_50, kl_51, kl_52, kl_53, kl_54, kl_55, kl_56, kl_57, kl_58, kl_59, kl_60, kl_61, kl_62, kl_63, kl_64, kl_70, kl_80, kl_81, kl_97, kl_98, kl_99, kl_100, kl_101, kl_102, kl_103, kl_104, kl_105, kl_106, kl_107, kl_108, kl_109, kl_110, kl_111, kl_112, kl_113, kl_114, kl_115, kl_120, kl_124, kl_126, kl_130, kl_255, kl_720, kl_2048, kl_10000, kl_12345, kl_252645135, kl_858993459, kl_1103515245, kl_1431655765, kl_1640531535, kl_2000000000, r17, k1, r21, e16, kt, e5, e6, r9])
          rfl
      | with_reducible apply wp_in
        · (try simp (disch := omega) only [bi, Int.add_zero, Int.zero_add, true_or, or_true, true_and, and_true, not_false_eq_true, not_true_eq_false, if_true, if_false, if_pos, if_neg, ki_add, ki_sub, ki_mul, ki_neg, ki_lt, ki_le, ki_eq, ki_cl, ki_div, ki_ite, ck5, kl_0, kl_1, kl_2, kl_3, kl_4, kl_5, kl_6, kl_7, kl_8, kl_9, kl_10, kl_11, kl_12, kl_13, kl_14, kl_16, kl_20, kl_21, kl_24, kl_29, kl_30, kl_31, kl_33, kl_35, kl_37, kl_38, kl_39, kl_40, kl_41, kl_42, kl_43, kl_44, kl_45, kl_46, kl_47, kl_48, kl_49, kl_50, kl_51, kl_52, kl_53, kl_54, kl_55, kl_56, kl_57, kl_58, kl_59, kl_60, kl_61, kl_62, kl_63, kl_64, kl_70, kl_80, kl_81, kl_97, kl_98, kl_99, kl_100, kl_101, kl_102, kl_103, kl_104, kl_105, kl_106, kl_107, kl_108, kl_109, kl_110, kl_111, kl_112, kl_113, kl_114, kl_115, kl_120, kl_124, kl_126, kl_130, kl_255, kl_720, kl_2048, kl_10000, kl_12345, kl_252645135, kl_858993459, kl_1103515245, kl_1431655765, kl_1640531535, kl_2000000000, r17, k1, r21, e16, kt, e5, e6, r9])
          rfl
        · decide
        · omega
        · omega
      | with_reducible apply wp_gd
        · (try simp (disch := omega) only [bi, Int.add_zero, Int.zero_add, true_or, or_true, true_and, and_true, not_false_eq_true, not_true_eq_false, if_true, if_false, if_pos, if_neg, ki_add, ki_sub, ki_mul, ki_neg, ki_lt, ki_le, ki_eq, ki_cl, ki_div, ki_ite, ck5, kl_0, kl_1, kl_2, kl_3, kl_4, kl_5, kl_6, kl_7, kl_8, kl_9, kl_10, kl_11, kl_12, kl_13, kl_14, kl_16, kl_20, kl_21, kl_24, kl_29, kl_30, kl_31, kl_33, kl_35, kl_37, kl_38, kl_39, kl_40, kl_41, kl_42, kl_43, kl_44, kl_45, kl_46, kl_47, kl_48, kl_49, kl_50, kl_51, kl_52, kl_53, kl_54, kl_55, kl_56, kl_57, kl_58, kl_59, kl_60, kl_61, kl_62, kl_63, kl_64, kl_70, kl_80, kl_81, kl_97, kl_98, kl_99, kl_100, kl_101, kl_102, kl_103, kl_104, kl_105, kl_106, kl_107, kl_108, kl_109, kl_110, kl_111, kl_112, kl_113, kl_114, kl_115, kl_120, kl_124, kl_126, kl_130, kl_255, kl_720, kl_2048, kl_10000, kl_12345, kl_252645135, kl_858993459, kl_1103515245, kl_1431655765, kl_1640531535, kl_2000000000, r17, k1, r21, e16, kt, e5, e6, r9])
          rfl
        · first | exact True.intro | omega | assumption
      | with_reducible apply wp_is
        · (try simp (disch := omega) only [bi, Int.add_zero, Int.zero_add, true_or, or_true, true_and, and_true, not_false_eq_true, not_true_eq_false, if_true, if_false, if_pos, if_neg, ki_add, ki_sub, ki_mul, ki_neg, ki_lt, ki_le, ki_eq, ki_cl, ki_div, ki_ite, ck5, kl_0, kl_1, kl_2, kl_3, kl_4, kl_5, kl_6, kl_7, kl_8, kl_9, kl_10, kl_11, kl_12, kl_13, kl_14, kl_16, kl_20, kl_21, kl_24, kl_29, kl_30, kl_31, kl_33, kl_35, kl_37, kl_38, kl_39, kl_40, kl_41, kl_42, kl_43, kl_44, kl_45, kl_46, kl_47, kl_48, kl_49, kl_50, kl_51, kl_52, kl_53, kl_54, kl_55, kl_56, kl_57, kl_58, kl_59, kl_60, kl_61, kl_62, kl_63, kl_64, kl_70, kl_80, kl_81, kl_97, kl_98, kl_99, kl_100, kl_101, kl_102, kl_103, kl_104, kl_105, kl_106, kl_107, kl_108, kl_109, kl_110, kl_111, kl_112, kl_113, kl_114, kl_115, kl_120, kl_124, kl_126, kl_130, kl_255, kl_720, kl_2048, kl_10000, kl_12345, kl_252645135, kl_858993459, kl_1103515245, kl_1431655765, kl_1640531535, kl_2000000000, r17, k1, r21, e16, kt, e5, e6, r9])
          rfl
        all_goals intro _
        all_goals try (exfalso; first | (rename_i q; exact q trivial) | (rename_i q; exact q) | omega)
      | with_reducible apply wp_mr
      | with_reducible apply wp_b
        · simp (disch := omega) only [Int.add_zero, Int.zero_add, true_or, or_true, true_and, and_true, not_false_eq_true, not_true_eq_false, if_true, if_false, if_pos, if_neg, ki_add, ki_sub, ki_mul, ki_neg, ki_lt, ki_le, ki_eq, ki_cl, ki_div, ki_ite, ck5, kl_0, kl_1, kl_2, kl_3, kl_4, kl_5, kl_6, kl_7, kl_8, kl_9, kl_10, kl_11, kl_12, kl_13, kl_14, kl_16, kl_20, kl_21, kl_24, kl_29, kl_30, kl_31, kl_33, kl_35, kl_37, kl_38, kl_39, kl_40, kl_41, kl_42, kl_43, kl_44, kl_45, kl_46, kl_47, kl_48, kl_49, kl_50, kl_51, kl_52, kl_53, kl_54, kl_55, kl_56, kl_57, kl_58, kl_59, kl_60, kl_61, kl_62, kl_63, kl_64, kl_70, kl_80, kl_81, kl_97, kl_98, kl_99, kl_100, kl_101, kl_102, kl_103, kl_104, kl_105, kl_106, kl_107, kl_108, kl_109, kl_110, kl_111, kl_112, kl_113, kl_114, kl_115, kl_120, kl_124, kl_126, kl_130, kl_255, kl_720, kl_2048, kl_10000, kl_12345, kl_252645135, kl_858993459, kl_1103515245, kl_1431655765, kl_1640531535, kl_2000000000, r17, k1, r21, e16, kt, e5, e6, r9]
          rfl
        all_goals intro _
        all_goals try (exfalso; first | (rename_i q; exact q trivial) | (rename_i q; exact q) | omega)
      | with_reducible apply wp_oe
        · simp (disch := omega) only [Int.add_zero, Int.zero_add, true_or, or_true, true_and, and_true, not_false_eq_true, not_true_eq_false, if_true, if_false, if_pos, if_neg, ki_add, ki_sub, ki_mul, ki_neg, ki_lt, ki_le, ki_eq, ki_cl, ki_div, ki_ite, ck5, kl_0, kl_1, kl_2, kl_3, kl_4, kl_5, kl_6, kl_7, kl_8, kl_9, kl_10, kl_11, kl_12, kl_13, kl_14, kl_16, kl_20, kl_21, kl_24, kl_29, kl_30, kl_31, kl_33, kl_35, kl_37, kl_38, kl_39, kl_40, kl_41, kl_42, kl_43, kl_44, kl_45, kl_46, kl_47, kl_48, kl_49, kl_50, kl_51, kl_52, kl_53, kl_54, kl_55, kl_56, kl_57, kl_58, kl_59, kl_60, kl_61, kl_62, kl_63, kl_64, kl_70, kl_80, kl_81, kl_97, kl_98, kl_99, kl_100, kl_101, kl_102, kl_103, kl_104, kl_105, kl_106, kl_107, kl_108, kl_109, kl_110, kl_111, kl_112, kl_113, kl_114, kl_115, kl_120, kl_124, kl_126, kl_130, kl_255, kl_720, kl_2048, kl_10000, kl_12345, kl_252645135, kl_858993459, kl_1103515245, kl_1431655765, kl_1640531535, kl_2000000000, r17, k1, r21, e16, kt, e5, e6, r9]
          try rfl
      | with_reducible apply wp_sv
        · (try simp (disch := omega) only [bi, Int.add_zero, Int.zero_add, true_or, or_true, true_and, and_true, not_false_eq_true, not_true_eq_false, if_true, if_false, if_pos, if_neg, ki_add, ki_sub, ki_mul, ki_neg, ki_lt, ki_le, ki_eq, ki_cl, ki_div, ki_ite, ck5, kl_0, kl_1, kl_2, kl_3, kl_4, kl_5, kl_6, kl_7, kl_8, kl_9, kl_10, kl_11, kl_12, kl_13, kl_14, kl_16, kl_20, kl_21, kl_24, kl_29, kl_30, kl_31, kl_33, kl_35, kl_37, kl_38, kl_39, kl_40, kl_41, kl_42, kl_43, kl_44, kl_45, kl_46, kl_47, kl_48, kl_49, kl_50, kl_51, kl_52, kl_53, kl_54, kl_55, kl_56, kl_57, kl_58, kl_59, kl_60, kl_61, kl_62, kl_63, kl_64, kl_70, kl_80, kl_81, kl_97, kl_98, kl_99, kl_100, kl_101, kl_102, kl_103, kl_104, kl_105, kl_106, kl_107, kl_108, kl_109, kl_110, kl_111, kl_112, kl_113, kl_114, kl_115, kl_120, kl_124, kl_126, kl_130, kl_255, kl_720, kl_2048, kl_10000, kl_12345, kl_252645135, kl_858993459, kl_1103515245, kl_1431655765, kl_1640531535, kl_2000000000, r17, k1, r21, e16, kt, e5, e6, r9])
          rfl
      | with_reducible apply wp_so
    exact fin
  | inr p =>
    rw [er] at hr gr
    have hx : mP t T p.1 (o ++ p.2) 0 S6 := hr
    obtain ⟨g1', g2', g3', _⟩ := gr
    have y := m_lk9 ht hx
    have hb := ch_b (t := t) (T := T) (h := p.1) ht hx.1
    have hb8 := i8_b hb
    have r9 := hx.2.2.2.1
    have r8 := hx.2.2.2.2.1
    have el : lnA t T (lv6 t T) (.inr p) = if chT t T p.1 = 63 then lnB p.2 (lv6 t T (p.1 + 1)) else .inr (p.1, [], p.2) := rfl
    rw [el]
    by_cases hc : chT t T p.1 = 63
    · rw [if_pos hc]
      have e8 : i8 (chT t T p.1) = 63 := by rw [hc]; rfl
      rw [e8] at y
      obtain ⟨p7, f7⟩ := mP_av hx (ch_in hc (by decide)).1
      have h00 := hx.1
      have r217 := p7.2.2.2.2.2.2.1
      have e162 := ki_16n (o ++ p.2).length (by have := hx.2.1; have := hx.2.2.1; omega)
      obtain ⟨S8, es8⟩ : ∃ S8, xsi (xsi S6 0 18 (ki (p.1 + 1))) 18 (61 + es.length) (ki ((o ++ p.2).length : Nat)) = S8 := ⟨_, rfl⟩
      have ff8 : eq_ pQ9 (xsi S6 0 18 (ki (p.1 + 1))) S8 := by rw [← es8]; exact eq_i (by unfold pQ9; omega)
      have f8 : mfr2 (xsi S6 0 18 (ki (p.1 + 1))) S8 := by rw [← es8]; exact mfr2_l (eq_i (by unfold pQ9; omega)) rfl
      have p8 := mP_e p7 ff8
      have L8 : mLr es S8 := by rw [← es8]; exact mLr_t (mLr_f L6 f7)
      have g8 : S8.1 18 (61 + es.length) = ki ((o ++ p.2).length : Nat) := by rw [← es8, xsi_r, if_pos ⟨rfl, rfl⟩]
      obtain ⟨⟨S9, w9⟩, e9, hr9, f9⟩ := m_lv6 ht p8
      dsimp only at hr9 f9
      have L9 := mLr_f L8 f9
      have g9 : S9.1 18 (61 + es.length) = ki ((o ++ p.2).length : Nat) := by rw [f9.1 18 _ (by unfold pM9; omega)]; exact g8
      have fall := mfr2_tr (mfr2_tr (mfr2_tr (mfr2_tr f5 (mfr2_1 f6)) (mfr2_1 f7)) f8) (mfr2_1 f9)
      have fin : wp (f_X12_line_66 (ki ((61 + es.length : Nat) : Int)) S9) (fun q => mlQ t T o es (lnB p.2 (lv6 t T (p.1 + 1))) q.1 ∧ mfr2 S q.1) := by
        cases e4 : lv6 t T (p.1 + 1) with
        | inl x =>
          rw [e4] at hr9
          have hx9 : mB t T x (p.1 + 1 - ((o ++ p.2).length : Int)) S9 := hr9
          have hl9 := hx.2.2.1
          exact wp_mo (m_66F ht (mB_w hx9 (by omega) (by omega)) L9 hn) (fun q hq => ⟨hq.1, mfr2_tr fall hq.2⟩)
        | inr q2 =>
          rw [e4] at hr9
          have hx9 : mP t T q2.1 (o ++ p.2 ++ q2.2) 0 S9 := hr9
          rw [List.append_assoc] at hx9
          exact wp_mo (m_66P ht hx9 L9 g9 hn) (fun q hq => ⟨⟨hq.1, hq.2.1⟩, mfr2_tr fall hq.2.2⟩)
      rw [← k61] at fin
      clear hx hr hp hL p5 L5 L6 er ht el hb hb8 p7 p8 L8 L9 hr9 e8 hc
      generalize (o ++ p.2).length = gl at *
      repeat' first
        | with_reducible apply wp_bd
          · (try simp (disch := omega) only [bi, Int.add_zero, Int.zero_add, true_or, or_true, true_and, and_true, not_false_eq_true, not_true_eq_false, if_true, if_false, if_pos, if_neg, ki_add, ki_sub, ki_mul, ki_neg, ki_lt, ki_le, ki_eq, ki_cl, ki_div, ki_ite, ck5, kl_0, kl_1, kl_2, kl_3, kl_4, kl_5, kl_6, kl_7, kl_8, kl_9, kl_10, kl_11, kl_12, kl_13, kl_14, kl_16, kl_20, kl_21, kl_24, kl_29, kl_30, kl_31, kl_33, kl_35, kl_37, kl_38, kl_39, kl_40, kl_41, kl_42, kl_43, kl_44, kl_45, kl_46, kl_47, kl_48, kl_49, kl_50, kl_51, kl_52, kl_53, kl_54, kl_55, kl_56, kl_57, kl_58, kl_59, kl_60, kl_61, kl_62, kl_63, kl_64, kl_70, kl_80, kl_81, kl_97, kl_98, kl_99, kl_100, kl_101, kl_102, kl_103, kl_104, kl_105, kl_106, kl_107, kl_108, kl_109, kl_110, kl_111, kl_112, kl_113, kl_114, kl_115, kl_120, kl_124, kl_126, kl_130, kl_255, kl_720, kl_2048, kl_10000, kl_12345, kl_252645135, kl_858993459, kl_1103515245, kl_1431655765, kl_1640531535, kl_2000000000, r17, k1, r21, e16, kt, e5, e6, r9, y, r8, r217, e162, es8, e9])
            rfl
        | with_reducible apply wp_in
          · (try simp (disch := omega) only [bi, Int.add_zero, Int.zero_add, true_or, or_true, true_and, and_true, not_false_eq_true, not_true_eq_false, if_true, if_false, if_pos, if_neg, ki_add, ki_sub, ki_mul, ki_neg, ki_lt, ki_le, ki_eq, ki_cl, ki_div, ki_ite, ck5, kl_0, kl_1, kl_2, kl_3, kl_4, kl_5, kl_6, kl_7, kl_8, kl_9, kl_10, kl_11, kl_12, kl_13, kl_14, kl_16, kl_20, kl_21, kl_24, kl_29, kl_30, kl_31, kl_33, kl_35, kl_37, kl_38, kl_39, kl_40, kl_41, kl_42, kl_43, kl_44, kl_45, kl_46, kl_47, kl_48, kl_49, kl_50, kl_51, kl_52, kl_53, kl_54, kl_55, kl_56, kl_57, kl_58, kl_59, kl_60, kl_61, kl_62, kl_63, kl_64, kl_70, kl_80, kl_81, kl_97, kl_98, kl_99, kl_100, kl_101, kl_102, kl_103, kl_104, kl_105, kl_106, kl_107, kl_108, kl_109, kl_110, kl_111, kl_112, kl_113, kl_114, kl_115, kl_120, kl_124, kl_126, kl_130, kl_255, kl_720, kl_2048, kl_10000, kl_12345, kl_252645135, kl_858993459, kl_1103515245, kl_1431655765, kl_1640531535, kl_2000000000, r17, k1, r21, e16, kt, e5, e6, r9, y, r8, r217, e162, es8, e9])
            rfl
          · decide
          · omega
          · omega
        | with_reducible apply wp_gd
          · (try simp (disch := omega) only [bi, Int.add_zero, Int.zero_add, true_or, or_true, true_and, and_true, not_false_eq_true, not_true_eq_false, if_true, if_false, if_pos, if_neg, ki_add, ki_sub, ki_mul, ki_neg, ki_lt, ki_le, ki_eq, ki_cl, ki_div, ki_ite, ck5, kl_0, kl_1, kl_2, kl_3, kl_4, kl_5, kl_6, kl_7, kl_8, kl_9, kl_10, kl_11, kl_12, kl_13, kl_14, kl_16, kl_20, kl_21, kl_24, kl_29, kl_30, kl_31, kl_33, kl_35, kl_37, kl_38, kl_39, kl_40, kl_41, kl_42, kl_43, kl_44, kl_45, kl_46, kl_47, kl_48, kl_49, kl_50, kl_51, kl_52, kl_53, kl_54, kl_55, kl_56, kl_57, kl_58, kl_59, kl_60, kl_61, kl_62, kl_63, kl_64, kl_70, kl_80, kl_81, kl_97, kl_98, kl_99, kl_100, kl_101, kl_102, kl_103, kl_104, kl_105, kl_106, kl_107, kl_108, kl_109, kl_110, kl_111, kl_112, kl_113, kl_114, kl_115, kl_120, kl_124, kl_126, kl_130, kl_255, kl_720, kl_2048, kl_10000, kl_12345, kl_252645135, kl_858993459, kl_1103515245, kl_1431655765, kl_1640531535, kl_2000000000, r17, k1, r21, e16, kt, e5, e6, r9, y, r8, r217, e162, es8, e9])
            rfl
          · first | exact True.intro | omega | assumption
        | with_reducible apply wp_is
          · (try simp (disch := omega) only [bi, Int.add_zero, Int.zero_add, true_or, or_true, true_and, and_true, not_false_eq_true, not_true_eq_false, if_true, if_false, if_pos, if_neg, ki_add, ki_sub, ki_mul, ki_neg, ki_lt, ki_le, ki_eq, ki_cl, ki_div, ki_ite, ck5, kl_0, kl_1, kl_2, kl_3, kl_4, kl_5, kl_6, kl_7, kl_8, kl_9, kl_10, kl_11, kl_12, kl_13, kl_14, kl_16, kl_20, kl_21, kl_24, kl_29, kl_30, kl_31, kl_33, kl_35, kl_37, kl_38, kl_39, kl_40, kl_41, kl_42, kl_43, kl_44, kl_45, kl_46, kl_47, kl_48, kl_49, kl_50, kl_51, kl_52, kl_53, kl_54, kl_55, kl_56, kl_57, kl_58, kl_59, kl_60, kl_61, kl_62, kl_63, kl_64, kl_70, kl_80, kl_81, kl_97, kl_98, kl_99, kl_100, kl_101, kl_102, kl_103, kl_104, kl_105, kl_106, kl_107, kl_108, kl_109, kl_110, kl_111, kl_112, kl_113, kl_114, kl_115, kl_120, kl_124, kl_126, kl_130, kl_255, kl_720, kl_2048, kl_10000, kl_12345, kl_252645135, kl_858993459, kl_1103515245, kl_1431655765, kl_1640531535, kl_2000000000, r17, k1, r21, e16, kt, e5, e6, r9, y, r8, r217, e162, es8, e9])
            rfl
          all_goals intro _
          all_goals try (exfalso; first | (rename_i q; exact q trivial) | (rename_i q; exact q) | omega)
        | with_reducible apply wp_mr
        | with_reducible apply wp_b
          · simp (disch := omega) only [Int.add_zero, Int.zero_add, true_or, or_true, true_and, and_true, not_false_eq_true, not_true_eq_false, if_true, if_false, if_pos, if_neg, ki_add, ki_sub, ki_mul, ki_neg, ki_lt, ki_le, ki_eq, ki_cl, ki_div, ki_ite, ck5, kl_0, kl_1, kl_2, kl_3, kl_4, kl_5, kl_6, kl_7, kl_8, kl_9, kl_10, kl_11, kl_12, kl_13, kl_14, kl_16, kl_20, kl_21, kl_24, kl_29, kl_30, kl_31, kl_33, kl_35, kl_37, kl_38, kl_39, kl_40, kl_41, kl_42, kl_43, kl_44, kl_45, kl_46, kl_47, kl_48, kl_49, kl_50, kl_51, kl_52, kl_53, kl_54, kl_55, kl_56, kl_57, kl_58, kl_59, kl_60, kl_61, kl_62, kl_63, kl_64, kl_70, kl_80, kl_81, kl_97, kl_98, kl_99, kl_100, kl_101, kl_102, kl_103, kl_104, kl_105, kl_106, kl_107, kl_108, kl_109, kl_110, kl_111, kl_112, kl_113, kl_114, kl_115, kl_120, kl_124, kl_126, kl_130, kl_255, kl_720, kl_2048, kl_10000, kl_12345, kl_252645135, kl_858993459, kl_1103515245, kl_1431655765, kl_1640531535, kl_2000000000, r17, k1, r21, e16, kt, e5, e6, r9, y, r8, r217, e162, es8, e9]
            rfl
          all_goals intro _
          all_goals try (exfalso; first | (rename_i q; exact q trivial) | (rename_i q; exact q) | omega)
        | with_reducible apply wp_oe
          · simp (disch := omega) only [Int.add_zero, Int.zero_add, true_or, or_true, true_and, and_true, not_false_eq_true, not_true_eq_false, if_true, if_false, if_pos, if_neg, ki_add, ki_sub, ki_mul, ki_neg, ki_lt, ki_le, ki_eq, ki_cl, ki_div, ki_ite, ck5, kl_0, kl_1, kl_2, kl_3, kl_4, kl_5, kl_6, kl_7, kl_8, kl_9, kl_10, kl_11, kl_12, kl_13, kl_14, kl_16, kl_20, kl_21, kl_24, kl_29, kl_30, kl_31, kl_33, kl_35, kl_37, kl_38, kl_39, kl_40, kl_41, kl_42, kl_43, kl_44, kl_45, kl_46, kl_47, kl_48, kl_49, kl_50, kl_51, kl_52, kl_53, kl_54, kl_55, kl_56, kl_57, kl_58, kl_59, kl_60, kl_61, kl_62, kl_63, kl_64, kl_70, kl_80, kl_81, kl_97, kl_98, kl_99, kl_100, kl_101, kl_102, kl_103, kl_104, kl_105, kl_106, kl_107, kl_108, kl_109, kl_110, kl_111, kl_112, kl_113, kl_114, kl_115, kl_120, kl_124, kl_126, kl_130, kl_255, kl_720, kl_2048, kl_10000, kl_12345, kl_252645135, kl_858993459, kl_1103515245, kl_1431655765, kl_1640531535, kl_2000000000, r17, k1, r21, e16, kt, e5, e6, r9, y, r8, r217, e162, es8, e9]
            try rfl
        | with_reducible apply wp_sv
          · (try simp (disch := omega) only [bi, Int.add_zero, Int.zero_add, true_or, or_true, true_and, and_true, not_false_eq_true, not_true_eq_false, if_true, if_false, if_pos, if_neg, ki_add, ki_sub, ki_mul, ki_neg, ki_lt, ki_le, ki_eq, ki_cl, ki_div, ki_ite, ck5, kl_0, kl_1, kl_2, kl_3, kl_4, kl_5, kl_6, kl_7, kl_8, kl_9, kl_10, kl_11, kl_12, kl_13, kl_14, kl_16, kl_20, kl_21, kl_24, kl_29, kl_30, kl_31, kl_33, kl_35, kl_37, kl_38, kl_39, kl_40, kl_41, kl_42, kl_43, kl_44, kl_45, kl_46, kl_47, kl_48, kl_49, kl_50, kl_51, kl_52, kl_53, kl_54, kl_55, kl_56, kl_57, kl_58, kl_59, kl_60, kl_61, kl_62, kl_63, kl_64, kl_70, kl_80, kl_81, kl_97, kl_98, kl_99, kl_100, kl_101, kl_102, kl_103, kl_104, kl_105, kl_106, kl_107, kl_108, kl_109, kl_110, kl_111, kl_112, kl_113, kl_114, kl_115, kl_120, kl_124, kl_126, kl_130, kl_255, kl_720, kl_2048, kl_10000, kl_12345, kl_252645135, kl_858993459, kl_1103515245, kl_1431655765, kl_1640531535, kl_2000000000, r17, k1, r21, e16, kt, e5, e6, r9, y, r8, r217, e162, es8, e9])
            rfl
        | with_reducible apply wp_so
      exact fin
    · rw [if_neg hc]
      have hne : i8 (chT t T p.1) ≠ 63 := fun q => hc (by unfold i8 at q; omega)
      have fin : wp (f_X12_line_66 (ki ((61 + es.length : Nat) : Int)) S6) (fun q => mlQ t T o es (.inr (p.1, [], p.2)) q.1 ∧ mfr2 S q.1) := wp_mo (m_66P ht hx L6 g6 hn) (fun q hq => ⟨⟨hq.1, by
        show mLr (es ++ [((((o ++ ([] : List Sp2)).length : Nat) : Int), (((o ++ p.2).length : Nat) : Int))]) q.1
        rw [List.append_nil]; exact hq.2.1⟩, mfr2_tr (mfr2_tr f5 (mfr2_1 f6)) hq.2.2⟩)
      rw [← k61] at fin
      clear hx hr hp hL p5 L5 L6 er ht el hb hc
      generalize i8 (chT t T p.1) = e at *
      repeat' first
        | with_reducible apply wp_bd
          · (try simp (disch := omega) only [bi, Int.add_zero, Int.zero_add, true_or, or_true, true_and, and_true, not_false_eq_true, not_true_eq_false, if_true, if_false, if_pos, if_neg, ki_add, ki_sub, ki_mul, ki_neg, ki_lt, ki_le, ki_eq, ki_cl, ki_div, ki_ite, ck5, kl_0, kl_1, kl_2, kl_3, kl_4, kl_5, kl_6, kl_7, kl_8, kl_9, kl_10, kl_11, kl_12, kl_13, kl_14, kl_16, kl_20, kl_21, kl_24, kl_29, kl_30, kl_31, kl_33, kl_35, kl_37, kl_38, kl_39, kl_40, kl_41, kl_42, kl_43, kl_44, kl_45, kl_46, kl_47, kl_48, kl_49, kl_50, kl_51, kl_52, kl_53, kl_54, kl_55, kl_56, kl_57, kl_58, kl_59, kl_60, kl_61, kl_62, kl_63, kl_64, kl_70, kl_80, kl_81, kl_97, kl_98, kl_99, kl_100, kl_101, kl_102, kl_103, kl_104, kl_105, kl_106, kl_107, kl_108, kl_109, kl_110, kl_111, kl_112, kl_113, kl_114, kl_115, kl_120, kl_124, kl_126, kl_130, kl_255, kl_720, kl_2048, kl_10000, kl_12345, kl_252645135, kl_858993459, kl_1103515245, kl_1431655765, kl_1640531535, kl_2000000000, r17, k1, r21, e16, kt, e5, e6, r9, y])
            rfl
        | with_reducible apply wp_in
          · (try simp (disch := omega) only [bi, Int.add_zero, Int.zero_add, true_or, or_true, true_and, and_true, not_false_eq_true, not_true_eq_false, if_true, if_false, if_pos, if_neg, ki_add, ki_sub, ki_mul, ki_neg, ki_lt, ki_le, ki_eq, ki_cl, ki_div, ki_ite, ck5, kl_0, kl_1, kl_2, kl_3, kl_4, kl_5, kl_6, kl_7, kl_8, kl_9, kl_10, kl_11, kl_12, kl_13, kl_14, kl_16, kl_20, kl_21, kl_24, kl_29, kl_30, kl_31, kl_33, kl_35, kl_37, kl_38, kl_39, kl_40, kl_41, kl_42, kl_43, kl_44, kl_45, kl_46, kl_47, kl_48, kl_49, kl_50, kl_51, kl_52, kl_53, kl_54, kl_55, kl_56, kl_57, kl_58, kl_59, kl_60, kl_61, kl_62, kl_63, kl_64, kl_70, kl_80, kl_81, kl_97, kl_98, kl_99, kl_100, kl_101, kl_102, kl_103, kl_104, kl_105, kl_106, kl_107, kl_108, kl_109, kl_110, kl_111, kl_112, kl_113, kl_114, kl_115, kl_120, kl_124, kl_126, kl_130, kl_255, kl_720, kl_2048, kl_10000, kl_12345, kl_252645135, kl_858993459, kl_1103515245, kl_1431655765, kl_1640531535, kl_2000000000, r17, k1, r21, e16, kt, e5, e6, r9, y])
            rfl
          · decide
          · omega
          · omega
        | with_reducible apply wp_gd
          · (try simp (disch := omega) only [bi, Int.add_zero, Int.zero_add, true_or, or_true, true_and, and_true, not_false_eq_true, not_true_eq_false, if_true, if_false, if_pos, if_neg, ki_add, ki_sub, ki_mul, ki_neg, ki_lt, ki_le, ki_eq, ki_cl, ki_div, ki_ite, ck5, kl_0, kl_1, kl_2, kl_3, kl_4, kl_5, kl_6, kl_7, kl_8, kl_9, kl_10, kl_11, kl_12, kl_13, kl_14, kl_16, kl_20, kl_21, kl_24, kl_29, kl_30, kl_31, kl_33, kl_35, kl_37, kl_38, kl_39, kl_40, kl_41, kl_42, kl_43, kl_44, kl_45, kl_46, kl_47, kl_48, kl_49, kl_50, kl_51, kl_52, kl_53, kl_54, kl_55, kl_56, kl_57, kl_58, kl_59, kl_60, kl_61, kl_62, kl_63, kl_64, kl_70, kl_80, kl_81, kl_97, kl_98, kl_99, kl_100, kl_101, kl_102, kl_103, kl_104, kl_105, kl_106, kl_107, kl_108, kl_109, kl_110, kl_111, kl_112, kl_113, kl_114, kl_115, kl_120, kl_124, kl_126, kl_130, kl_255, kl_720, kl_2048, kl_10000, kl_12345, kl_252645135, kl_858993459, kl_1103515245, kl_1431655765, kl_1640531535, kl_2000000000, r17, k1, r21, e16, kt, e5, e6, r9, y])
            rfl
          · first | exact True.intro | omega | assumption
        | with_reducible apply wp_is
          · (try simp (disch := omega) only [bi, Int.add_zero, Int.zero_add, true_or, or_true, true_and, and_true, not_false_eq_true, not_true_eq_false, if_true, if_false, if_pos, if_neg, ki_add, ki_sub, ki_mul, ki_neg, ki_lt, ki_le, ki_eq, ki_cl, ki_div, ki_ite, ck5, kl_0, kl_1, kl_2, kl_3, kl_4, kl_5, kl_6, kl_7, kl_8, kl_9, kl_10, kl_11, kl_12, kl_13, kl_14, kl_16, kl_20, kl_21, kl_24, kl_29, kl_30, kl_31, kl_33, kl_35, kl_37, kl_38, kl_39, kl_40, kl_41, kl_42, kl_43, kl_44, kl_45, kl_46, kl_47, kl_48, kl_49, kl_50, kl_51, kl_52, kl_53, kl_54, kl_55, kl_56, kl_57, kl_58, kl_59, kl_60, kl_61, kl_62, kl_63, kl_64, kl_70, kl_80, kl_81, kl_97, kl_98, kl_99, kl_100, kl_101, kl_102, kl_103, kl_104, kl_105, kl_106, kl_107, kl_108, kl_109, kl_110, kl_111, kl_112, kl_113, kl_114, kl_115, kl_120, kl_124, kl_126, kl_130, kl_255, kl_720, kl_2048, kl_10000, kl_12345, kl_252645135, kl_858993459, kl_1103515245, kl_1431655765, kl_1640531535, kl_2000000000, r17, k1, r21, e16, kt, e5, e6, r9, y])
            rfl
          all_goals intro _
          all_goals try (exfalso; first | (rename_i q; exact q trivial) | (rename_i q; exact q) | omega)
        | with_reducible apply wp_mr
        | with_reducible apply wp_b
          · simp (disch := omega) only [Int.add_zero, Int.zero_add, true_or, or_true, true_and, and_true, not_false_eq_true, not_true_eq_false, if_true, if_false, if_pos, if_neg, ki_add, ki_sub, ki_mul, ki_neg, ki_lt, ki_le, ki_eq, ki_cl, ki_div, ki_ite, ck5, kl_0, kl_1, kl_2, kl_3, kl_4, kl_5, kl_6, kl_7, kl_8, kl_9, kl_10, kl_11, kl_12, kl_13, kl_14, kl_16, kl_20, kl_21, kl_24, kl_29, kl_30, kl_31, kl_33, kl_35, kl_37, kl_38, kl_39, kl_40, kl_41, kl_42, kl_43, kl_44, kl_45, kl_46, kl_47, kl_48, kl_49, kl_50, kl_51, kl_52, kl_53, kl_54, kl_55, kl_56, kl_57, kl_58, kl_59, kl_60, kl_61, kl_62, kl_63, kl_64, kl_70, kl_80, kl_81, kl_97, kl_98, kl_99, kl_100, kl_101, kl_102, kl_103, kl_104, kl_105, kl_106, kl_107, kl_108, kl_109, kl_110, kl_111, kl_112, kl_113, kl_114, kl_115, kl_120, kl_124, kl_126, kl_130, kl_255, kl_720, kl_2048, kl_10000, kl_12345, kl_252645135, kl_858993459, kl_1103515245, kl_1431655765, kl_1640531535, kl_2000000000, r17, k1, r21, e16, kt, e5, e6, r9, y]
            rfl
          all_goals intro _
          all_goals try (exfalso; first | (rename_i q; exact q trivial) | (rename_i q; exact q) | omega)
        | with_reducible apply wp_oe
          · simp (disch := omega) only [Int.add_zero, Int.zero_add, true_or, or_true, true_and, and_true, not_false_eq_true, not_true_eq_false, if_true, if_false, if_pos, if_neg, ki_add, ki_sub, ki_mul, ki_neg, ki_lt, ki_le, ki_eq, ki_cl, ki_div, ki_ite, ck5, kl_0, kl_1, kl_2, kl_3, kl_4, kl_5, kl_6, kl_7, kl_8, kl_9, kl_10, kl_11, kl_12, kl_13, kl_14, kl_16, kl_20, kl_21, kl_24, kl_29, kl_30, kl_31, kl_33, kl_35, kl_37, kl_38, kl_39, kl_40, kl_41, kl_42, kl_43, kl_44, kl_45, kl_46, kl_47, kl_48, kl_49, kl_50, kl_51, kl_52, kl_53, kl_54, kl_55, kl_56, kl_57, kl_58, kl_59, kl_60, kl_61, kl_62, kl_63, kl_64, kl_70, kl_80, kl_81, kl_97, kl_98, kl_99, kl_100, kl_101, kl_102, kl_103, kl_104, kl_105, kl_106, kl_107, kl_108, kl_109, kl_110, kl_111, kl_112, kl_113, kl_114, kl_115, kl_120, kl_124, kl_126, kl_130, kl_255, kl_720, kl_2048, kl_10000, kl_12345, kl_252645135, kl_858993459, kl_1103515245, kl_1431655765, kl_1640531535, kl_2000000000, r17, k1, r21, e16, kt, e5, e6, r9, y]
            try rfl
        | with_reducible apply wp_sv
          · (try simp (disch := omega) only [bi, Int.add_zero, Int.zero_add, true_or, or_true, true_and, and_true, not_false_eq_true, not_true_eq_false, if_true, if_false, if_pos, if_neg, ki_add, ki_sub, ki_mul, ki_neg, ki_lt, ki_le, ki_eq, ki_cl, ki_div, ki_ite, ck5, kl_0, kl_1, kl_2, kl_3, kl_4, kl_5, kl_6, kl_7, kl_8, kl_9, kl_10, kl_11, kl_12, kl_13, kl_14, kl_16, kl_20, kl_21, kl_24, kl_29, kl_30, kl_31, kl_33, kl_35, kl_37, kl_38, kl_39, kl_40, kl_41, kl_42, kl_43, kl_44, kl_45, kl_46, kl_47, kl_48, kl_49, kl_50, kl_51, kl_52, kl_53, kl_54, kl_55, kl_56, kl_57, kl_58, kl_59, kl_60, kl_61, kl_62, kl_63, kl_64, kl_70, kl_80, kl_81, kl_97, kl_98, kl_99, kl_100, kl_101, kl_102, kl_103, kl_104, kl_105, kl_106, kl_107, kl_108, kl_109, kl_110, kl_111, kl_112, kl_113, kl_114, kl_115, kl_120, kl_124, kl_126, kl_130, kl_255, kl_720, kl_2048, kl_10000, kl_12345, kl_252645135, kl_858993459, kl_1103515245, kl_1431655765, kl_1640531535, kl_2000000000, r17, k1, r21, e16, kt, e5, e6, r9, y])
            rfl
        | with_reducible apply wp_so
      exact fin
