/-! part ca: of days, turns and carts with the ledger set aside -/
theorem uh_ext {A B : Hy} {g : Int → Int} (h : ∀ f, f ≠ 8 → A f = B f) (h8 : A 8 = g) : A = uh B 8 g := by
  funext f
  by_cases e : f = 8
  · subst e; rw [uh_s, h8]
  · rw [uh_n _ _ e, h f e]
theorem uh_id (η : Hy) : uh η 8 (η 8) = η := (uh_ext (fun _ _ => rfl) rfl).symm
theorem uh_uh (η : Hy) (g g' : Int → Int) : uh (uh η 8 g) 8 g' = uh η 8 g' := uh_ext (fun f e => (uh_n _ _ e).trans (uh_n _ _ e)) (uh_s _ _ _)
theorem day_u8 (gn : (Int → Int) → Int) (η : Hy) (g : Int → Int) : day1 gn (uh η 8 g) = uh (day1 gn η) 8 g := by
  refine uh_ext (fun f e => ?_) rfl
  show (if f = 3 then _ else if f = 4 then _ else if f = 5 then _ else tdD (uh η 8 g) f) = (if f = 3 then _ else if f = 4 then _ else if f = 5 then _ else tdD η f)
  by_cases h3 : f = 3
  · rw [if_pos h3, if_pos h3]; rfl
  by_cases h4 : f = 4
  · rw [if_neg h3, if_pos h4, if_neg h3, if_pos h4]; rfl
  by_cases h5 : f = 5
  · rw [if_neg h3, if_neg h4, if_pos h5, if_neg h3, if_neg h4, if_pos h5]; rfl
  rw [if_neg h3, if_neg h4, if_neg h5, if_neg h3, if_neg h4, if_neg h5]
  by_cases h0 : f = 0
  · subst h0; rfl
  · show (if f = 0 then _ else uh η 8 g f) = (if f = 0 then _ else η f)
    rw [if_neg h0, if_neg h0, uh_n _ _ e]
theorem days_u8 (gn : (Int → Int) → Int) (η : Hy) (g : Int → Int) : ∀ n, daysN gn n (uh η 8 g) = uh (daysN gn n η) 8 g
  | 0 => rfl
  | n + 1 => by
    show day1 gn (daysN gn n (uh η 8 g)) = uh (day1 gn (daysN gn n η)) 8 g
    rw [days_u8 gn η g n, day_u8]
theorem st_u8 (η : Hy) (g : Int → Int) (w : Int) : stS (uh η 8 g) w = stS η w := rfl
theorem tur_u8 (c : Int) (η : Hy) (g : Int → Int) : turS c (uh η 8 g) = uh (turS c η) 8 g := by
  refine uh_ext (fun f e => ?_) rfl
  show (if f = 3 then _ else if f = 4 then _ else if f = 5 then _ else uh η 8 g f) = (if f = 3 then _ else if f = 4 then _ else if f = 5 then _ else η f)
  by_cases h3 : f = 3
  · rw [if_pos h3, if_pos h3]; rfl
  by_cases h4 : f = 4
  · rw [if_neg h3, if_pos h4, if_neg h3, if_pos h4]; rfl
  by_cases h5 : f = 5
  · rw [if_neg h3, if_neg h4, if_pos h5, if_neg h3, if_neg h4, if_pos h5]; rfl
  rw [if_neg h3, if_neg h4, if_neg h5, if_neg h3, if_neg h4, if_neg h5, uh_n _ _ e]
theorem car_u8 (c d l : Int) (η : Hy) (g : Int → Int) : carS c d l (uh η 8 g) = uh (carS c d l η) 8 g := by
  refine uh_ext (fun f e => ?_) rfl
  show (if f = 1 then _ else if f = 3 then _ else if f = 4 then _ else if f = 5 then _ else if f = 6 then _ else if f = 7 then _ else uh η 8 g f) = (if f = 1 then _ else if f = 3 then _ else if f = 4 then _ else if f = 5 then _ else if f = 6 then _ else if f = 7 then _ else η f)
  by_cases h1 : f = 1
  · rw [if_pos h1, if_pos h1]; rfl
  by_cases h3 : f = 3
  · rw [if_neg h1, if_pos h3, if_neg h1, if_pos h3]; rfl
  by_cases h4 : f = 4
  · rw [if_neg h1, if_neg h3, if_pos h4, if_neg h1, if_neg h3, if_pos h4]; rfl
  by_cases h5 : f = 5
  · rw [if_neg h1, if_neg h3, if_neg h4, if_pos h5, if_neg h1, if_neg h3, if_neg h4, if_pos h5]; rfl
  by_cases h6 : f = 6
  · rw [if_neg h1, if_neg h3, if_neg h4, if_neg h5, if_pos h6, if_neg h1, if_neg h3, if_neg h4, if_neg h5, if_pos h6]; rfl
  by_cases h7 : f = 7
  · rw [if_neg h1, if_neg h3, if_neg h4, if_neg h5, if_neg h6, if_pos h7, if_neg h1, if_neg h3, if_neg h4, if_neg h5, if_neg h6, if_pos h7]; rfl
  rw [if_neg h1, if_neg h3, if_neg h4, if_neg h5, if_neg h6, if_neg h7, if_neg h1, if_neg h3, if_neg h4, if_neg h5, if_neg h6, if_neg h7, uh_n _ _ e]
section U8
variable {ζ η : Hy} {gn : (Int → Int) → Int} {S : xSt} {g : Int → Int}
theorem BX_8 (h : BX η gn S) : BX (uh η 8 (η 8)) gn S := by rw [uh_id]; exact h
theorem t_stack8 (h : BX (uh ζ 8 g) gn S) {n : Nat} {w : Int} (hn : n ≤ 40) (w0 : 0 ≤ w) (w1 : w ≤ 3) : ans gn S (f_X11_stack S (ki n) (ki w)) (ki (stS (daysN gn n ζ) w)) := by
  have q := t_stack h hn w0 w1
  rw [days_u8, st_u8] at q
  exact q
theorem t_day8 (h : BX (uh ζ 8 g) gn S) : wp (f_X11_day S) (fun r => r.2 = ki (glowS (day1 gn ζ)) ∧ BX (uh (day1 gn ζ) 8 (up g 4 (g 4 + 1))) gn r.1 ∧ fr S r.1 qX2) := by
  refine wp_mo (t_day h) (fun r hr => ?_)
  obtain ⟨h1, h2, h3⟩ := hr
  have e : ledS 4 ((uh ζ 8 g) 8 4 + 1) (day1 gn (uh ζ 8 g)) = uh (day1 gn ζ) 8 (up g 4 (g 4 + 1)) := by
    rw [day_u8]
    show uh (uh (day1 gn ζ) 8 g) 8 (up g 4 (g 4 + 1)) = _
    rw [uh_uh]
  rw [e] at h2
  rw [day_u8] at h1
  exact ⟨h1, h2, h3⟩
theorem t_turned8 (h : BX (uh ζ 8 g) gn S) {c : Int} (c0 : 0 ≤ c) (c1 : c ≤ 5) : wp (f_X11_turned S (ki c)) (fun r => r.2 = ki (ζ 1 c) ∧ BX (uh (turS c ζ) 8 (up g 1 (g 1 + 1))) gn r.1 ∧ fr S r.1 qX2) := by
  refine wp_mo (t_turned h c0 c1) (fun r hr => ?_)
  obtain ⟨h1, h2, h3⟩ := hr
  have e : ledS 1 ((uh ζ 8 g) 8 1 + 1) (turS c (uh ζ 8 g)) = uh (turS c ζ) 8 (up g 1 (g 1 + 1)) := by
    rw [tur_u8]
    show uh (uh (turS c ζ) 8 g) 8 (up g 1 (g 1 + 1)) = _
    rw [uh_uh]
  rw [e] at h2
  exact ⟨h1, h2, h3⟩
theorem t_read8 (h : BX (uh ζ 8 g) gn S) {c : Int} (hc : hasS ζ c) : wp (f_X11_read S (ki c)) (fun r => r.2 = ki (ζ 4 c) ∧ (∃ g' : Int → Int, g' 3 = g 3 + 1 ∧ g' 4 = g 4 ∧ BX (uh ζ 8 g') gn r.1) ∧ fr S r.1 qX2) := by
  refine wp_mo (t_read h (c := c) hc) (fun r hr => ?_)
  obtain ⟨h1, h2, h3⟩ := hr
  have e : rdS (uh ζ 8 g) c = uh ζ 8 (up (up g 3 (g 3 + 1)) 5 (if g 5 < ζ 4 c then ζ 4 c else g 5)) := by
    show uh (uh ζ 8 g) 8 (up (up g 3 (g 3 + 1)) 5 (if g 5 < ζ 4 c then ζ 4 c else g 5)) = _
    rw [uh_uh]
  rw [e] at h2
  exact ⟨h1, ⟨up (up g 3 (g 3 + 1)) 5 (if g 5 < ζ 4 c then ζ 4 c else g 5), rfl, rfl, h2⟩, h3⟩
theorem t_cart8 (h : BX (uh ζ 8 g) gn S) {c d l : Int} (c3 : 0 ≤ c) (c4 : c ≤ 5) (d0 : 0 ≤ d) (d1 : d ≤ 9) (l0 : 0 ≤ l) (l1 : l ≤ 9) (hf : ζ 1 c ≤ 4) : wp (f_X11_cart S (ki c) (ki (10 * d + l))) (fun r => r.2 = ki (5 * c + ζ 1 c) ∧ BX (uh (carS c d l ζ) 8 (up g 0 (g 0 + 1))) gn r.1 ∧ fr S r.1 qX2) := by
  refine wp_mo (t_cart h c3 c4 d0 d1 l0 l1 hf) (fun r hr => ?_)
  obtain ⟨h1, h2, h3⟩ := hr
  have e : crS c d l (uh ζ 8 g) = uh (carS c d l ζ) 8 (up g 0 (g 0 + 1)) := by
    show uh (carS c d l (uh ζ 8 g)) 8 (up g 0 (g 0 + 1)) = _
    rw [car_u8, uh_uh]
  rw [e] at h2
  exact ⟨h1, h2, h3⟩
theorem t_back8 (h : BX (uh ζ 8 g) gn S) (hi : iX η S) (hz : wf η) (h2 : ζ 2 = η 2) (hg : ζ 0 10 = η 0 10) : wp (f_X11_back S) (fun r => r.2 = ki (η 8 4) ∧ BX η gn r.1 ∧ iX η r.1) := wp_mo (t_back h hi hz h2 hg) (fun r hr => ⟨hr.1, hr.2.1, hr.2.2.1⟩)
theorem t_worth8 (h : BX (uh ζ 8 g) gn S) : ans gn S (f_X11_worth S) (ki (valS ζ)) := t_worth (η := uh ζ 8 g) h
theorem t_count8 (h : BX (uh ζ 8 g) gn S) : ans gn S (f_X11_count S (ki 1)) (ki (glowS ζ)) := t_count1 (η := uh ζ 8 g) h
theorem t_led8 (h : BX (uh ζ 8 g) gn S) {w : Int} (w0 : 0 ≤ w) (w1 : w ≤ 5) : ans gn S (f_X11_led S (ki w)) (ki (g w)) := t_led (η := uh ζ 8 g) h w0 w1
end U8
section FCT
variable {η : Hy} {gn : (Int → Int) → Int}
theorem day_1 : day1 gn η 1 = η 1 := rfl
theorem day_2 : day1 gn η 2 = η 2 := rfl
theorem day_10 : day1 gn η 0 10 = η 0 10 := rfl
theorem days_2 : ∀ n, daysN gn n η 2 = η 2
  | 0 => rfl
  | n + 1 => days_2 n
theorem days_10 : ∀ n, daysN gn n η 0 10 = η 0 10
  | 0 => rfl
  | n + 1 => days_10 n
theorem days_s : ∀ n, daysN gn n (day1 gn η) = daysN gn (n + 1) η
  | 0 => rfl
  | n + 1 => by
    show day1 gn (daysN gn n (day1 gn η)) = day1 gn (daysN gn (n + 1) η)
    rw [days_s n]
theorem ckS_sp {ok : Int → Prop} {v : Int → Int} {dk : ∀ k, Decidable (ok k)} {K : Int} : ∀ (n : Nat) (k b m : Int), k + n = K → 0 ≤ k → ((b = -2 ∧ m = -2) ∨ (0 ≤ b ∧ b < K ∧ ok b ∧ v b = m ∧ 0 ≤ m)) → (((ckS ok v dk n k b m).1 = -2 ∧ (ckS ok v dk n k b m).2 = -2 ∧ b = -2 ∧ ∀ j, k ≤ j → j < K → ok j → v j < 0) ∨ (0 ≤ (ckS ok v dk n k b m).1 ∧ (ckS ok v dk n k b m).1 < K ∧ ok (ckS ok v dk n k b m).1 ∧ v (ckS ok v dk n k b m).1 = (ckS ok v dk n k b m).2 ∧ 0 ≤ (ckS ok v dk n k b m).2))
  | 0, k, b, m, hk, k0, h => by
    show (b = -2 ∧ m = -2 ∧ b = -2 ∧ _) ∨ (0 ≤ b ∧ b < K ∧ ok b ∧ v b = m ∧ 0 ≤ m)
    rcases h with ⟨h1, h2⟩ | h
    · exact Or.inl ⟨h1, h2, h1, fun j j1 j2 => by omega⟩
    · exact Or.inr h
  | n + 1, k, b, m, hk, k0, h => by
    unfold ckS
    by_cases c : ok k ∧ 0 ≤ v k ∧ (b < 0 ∨ v k < m)
    · rw [if_pos c]
      rcases ckS_sp (K := K) n (k + 1) k (v k) (by omega) (by omega) (Or.inr ⟨k0, by omega, c.1, rfl, c.2.1⟩) with ⟨h1, h2, h3, _⟩ | h1
      · omega
      · exact Or.inr h1
    · rw [if_neg c]
      rcases ckS_sp (K := K) n (k + 1) b m (by omega) (by omega) h with ⟨h1, h2, h3, h4⟩ | h1
      · refine Or.inl ⟨h1, h2, h3, fun j j1 j2 hj => ?_⟩
        by_cases e : j = k
        · subst e
          refine Int.lt_of_not_ge (fun q => c ⟨hj, q, Or.inl (by omega)⟩)
        · exact h4 j (by omega) j2 hj
      · exact Or.inr h1
theorem ck_0 {ok : Int → Prop} {v : Int → Int} {dk : ∀ k, Decidable (ok k)} (K : Nat) : ((ckS ok v dk K 0 (-2) (-2)).1 = -2 ∧ (ckS ok v dk K 0 (-2) (-2)).2 = -2 ∧ ∀ j : Int, 0 ≤ j → j < (K : Int) → ok j → v j < 0) ∨ (0 ≤ (ckS ok v dk K 0 (-2) (-2)).1 ∧ (ckS ok v dk K 0 (-2) (-2)).1 < K ∧ ok (ckS ok v dk K 0 (-2) (-2)).1 ∧ v (ckS ok v dk K 0 (-2) (-2)).1 = (ckS ok v dk K 0 (-2) (-2)).2 ∧ 0 ≤ (ckS ok v dk K 0 (-2) (-2)).2) := by
  rcases ckS_sp (ok := ok) (v := v) (dk := dk) (K := K) K 0 (-2) (-2) (by omega) (by omega) (Or.inl ⟨rfl, rfl⟩) with ⟨h1, h2, _, h4⟩ | h
  · exact Or.inl ⟨h1, h2, h4⟩
  · exact Or.inr h
theorem slS_sp {c : Int} : ∀ (n k : Nat) (b m : Int), (∃ j : Nat, b = j ∧ j < k ∧ m = valS (daysN gn j η) - c * j ∧ valS η ≤ m) → ∃ j : Nat, (slS gn η c n k b m).1 = j ∧ j < k + n ∧ (slS gn η c n k b m).2 = valS (daysN gn j η) - c * j ∧ valS η ≤ (slS gn η c n k b m).2
  | 0, k, b, m, h => h
  | n + 1, k, b, m, h => by
    unfold slS
    by_cases q : m < valS (daysN gn k η) - c * k
    · rw [if_pos q]
      obtain ⟨j, h1, h2, h3, h4⟩ := h
      obtain ⟨j', g1, g2, g3, g4⟩ := slS_sp n (k + 1) k (valS (daysN gn k η) - c * k) ⟨k, rfl, by omega, rfl, by omega⟩
      exact ⟨j', g1, by omega, g3, g4⟩
    · rw [if_neg q]
      obtain ⟨j, h1, h2, h3, h4⟩ := h
      obtain ⟨j', g1, g2, g3, g4⟩ := slS_sp n (k + 1) b m ⟨j, h1, by omega, h3, h4⟩
      exact ⟨j', g1, by omega, g3, g4⟩
theorem sl_0 {c : Int} (N : Nat) : ∃ j : Nat, (slS gn η c N 1 0 (valS η)).1 = j ∧ j ≤ N ∧ (slS gn η c N 1 0 (valS η)).2 = valS (daysN gn j η) - c * j ∧ valS η ≤ (slS gn η c N 1 0 (valS η)).2 := by
  obtain ⟨j, h1, h2, h3, h4⟩ := slS_sp (gn := gn) (η := η) (c := c) N 1 0 (valS η) ⟨0, rfl, by omega, by show valS η = valS η - c * ((0 : Nat) : Int); simp, Int.le_refl _⟩
  exact ⟨j, h1, by omega, h3, h4⟩
theorem lt_sp {f : Nat → Int} : ∀ d, ltS f d = -2 ∨ ∃ j : Nat, ltS f d = j ∧ j ≤ d ∧ f j ≠ 0
  | 0 => by
    unfold ltS
    by_cases h : f 0 = 0
    · exact Or.inl (if_pos h)
    · exact Or.inr ⟨0, if_neg h, Nat.le_refl _, h⟩
  | d + 1 => by
    unfold ltS
    by_cases h : f (d + 1) = 0
    · rw [if_pos h]
      rcases lt_sp d with e | ⟨j, e, hj, hf⟩
      · exact Or.inl e
      · exact Or.inr ⟨j, e, by omega, hf⟩
    · rw [if_neg h]
      exact Or.inr ⟨d + 1, rfl, Nat.le_refl _, h⟩
theorem dk_sp : ∀ (n : Nat) (ζ : Hy), dkN gn n ζ ≠ 0 → ∀ j, j < n → glowS (daysN gn j ζ) = 0
  | 0, _, _, j, hj => absurd hj (Nat.not_lt_zero j)
  | n + 1, ζ, h, j, hj => by
    unfold dkN at h
    by_cases c : glowS ζ ≤ 0
    · rw [if_pos c] at h
      have b := glowS_b ζ
      cases j with
      | zero => show glowS ζ = 0; omega
      | succ j =>
        rw [← days_s]
        exact dk_sp n (day1 gn ζ) h j (by omega)
    · rw [if_neg c] at h
      exact absurd rfl h
/-- what latest says -/
theorem lat_0 (hw : wf η) : ltA gn η = -2 ∨ ∃ j : Nat, ltA gn η = j ∧ j ≤ 20 ∧ (∃ g : Nat, g ≤ 40 ∧ 0 < glowS (daysN gn g η)) ∧ (∀ i, i ≤ j → glowS (daysN gn i η) = 0) ∧ ∀ i, i ≤ 40 - j → glowS (daysN gn i (taS (daysN gn j η) 6)) = 0 := by
  unfold ltA
  by_cases h : fiS gn η hhS (η 0 10) 41 0 ≤ 0
  · exact Or.inl (if_pos h)
  · rw [if_neg h]
    rcases fi_dark (gn := gn) hw 41 0 (by omega) with ⟨e, _⟩ | ⟨g, e, g0, g1, g2, g3⟩
    · omega
    · rcases lt_sp (f := sdS gn η) (if fiS gn η hhS (η 0 10) 41 0 - 1 < 20 then fiS gn η hhS (η 0 10) 41 0 - 1 else 20).toNat with e2 | ⟨j, e2, hj, hf⟩
      · exact Or.inl e2
      · refine Or.inr ⟨j, e2, by split at hj <;> omega, ⟨g, g1, by omega⟩, fun i hi => ?_, fun i hi => ?_⟩
        · have b := glowS_b (daysN gn i η)
          have := g3 i (Nat.zero_le _) (by split at hj <;> omega)
          omega
        · exact dk_sp _ _ hf i (by omega)
end FCT
