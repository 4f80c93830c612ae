/-! part cn: what rods says: cover and its smallness -/
theorem cntB_cg {m m' : Nat} : ∀ i, (∀ j, j < i → m.testBit j = m'.testBit j) → cntB m i = cntB m' i
  | 0, _ => rfl
  | i + 1, h => by
    unfold cntB
    rw [cntB_cg i (fun j hj => h j (by omega)), h i (by omega)]
theorem bcK_sp : ∀ (i acc t : Nat), bcK i acc t = true → ∀ m : Nat, m < 2 ^ i → t + cntB m i ≤ 4 → pq16 (acc + m) % 128 = t + cntB m i
  | 0, acc, t, h, m, hm, _ => by
    have h := Nat.eq_of_beq_eq_true h
    have e : m = 0 := by omega
    subst e
    exact h
  | i + 1, acc, t, h, m, hm, hc => by
    unfold bcK at h
    rw [Bool.and_eq_true] at h
    obtain ⟨h1, h2⟩ := h
    have hp : (2 : Nat) ^ (i + 1) = 2 * 2 ^ i := by rw [Nat.pow_succ]; omega
    have hpos : 0 < 2 ^ i := Nat.pow_pos (by omega)
    by_cases b : m.testBit i = true
    · have hb := (tbd m i).mp b
      have hge : 2 ^ i ≤ m := by
        refine Nat.le_of_not_lt (fun q => ?_)
        rw [Nat.div_eq_of_lt q] at hb
        omega
      obtain ⟨m', rfl⟩ : ∃ m', m = 2 ^ i + m' := ⟨m - 2 ^ i, by omega⟩
      have e : cntB (2 ^ i + m') i = cntB m' i := cntB_cg i (fun j hj => Nat.testBit_two_pow_add_gt hj m')
      have e2 : cntB (2 ^ i + m') (i + 1) = cntB m' i + 1 := by
        show cntB (2 ^ i + m') i + (if (2 ^ i + m').testBit i = true then 1 else 0) = _
        rw [if_pos b, e]
      rw [e2] at hc ⊢
      have ht : Nat.blt t 4 = true := by rw [Nat.blt_eq]; omega
      rw [if_pos ht] at h2
      have q := bcK_sp i (acc + 2 ^ i) (t + 1) h2 m' (by omega) (by omega)
      rw [show acc + 2 ^ i + m' = acc + (2 ^ i + m') by omega, show t + 1 + cntB m' i = t + (cntB m' i + 1) by omega] at q
      exact q
    · have hlt : m < 2 ^ i := by
        refine Nat.lt_of_not_le (fun q => ?_)
        have h3 : m / 2 ^ i = 1 := by
          apply Nat.div_eq_of_lt_le
          · omega
          · omega
        exact b ((tbd m i).mpr (by rw [h3]))
      have e2 : cntB m (i + 1) = cntB m i := by
        show cntB m i + (if m.testBit i = true then 1 else 0) = _
        rw [if_neg b]; rfl
      rw [e2] at hc ⊢
      exact bcK_sp i acc t h1 m hlt hc
theorem x_bcl {S : xSt} {m : Nat} (hm : m < 1073741824) (hc : cntB m 30 ≤ 4) : f_J13_bitCount_95d88 S (kj (m : Int)) = some (S, ki ((cntB m 30 : Nat) : Int)) := by
  have q := bcK_sp 30 0 0 bcK_t m hm (by omega)
  rw [Nat.zero_add, Nat.zero_add] at q
  rw [x_bj hm, q]
theorem tb_orb {q : Prop} [Decidable q] {x r i : Nat} : (orb q x (2 ^ r)).testBit i = true ↔ (x.testBit i = true ∨ (q ∧ r = i)) := by
  unfold orb
  by_cases h : q
  · rw [if_pos h, tb_or]
    constructor
    · rintro (a | a)
      · exact Or.inl a
      · exact Or.inr ⟨h, a⟩
    · rintro (a | a)
      · exact Or.inl a
      · exact Or.inr a.2
  · rw [if_neg h]
    constructor
    · exact Or.inl
    · rintro (a | a)
      · exact a
      · exact absurd a.1 h
section RODF
variable {L : Nat} {xs : Nat → Int32} {η : Hy}
theorem FN_tb {r c : Nat} : (FN η r).testBit c = true ↔ (r = c ∨ (0 < (r : Int) % 5 ∧ r - 1 = c) ∨ (¬ byS η ((r : Int) / 5) ((r : Int) % 5 + 1) ∧ r + 1 = c) ∨ (¬ byS η ((r : Int) / 5 - 1) ((r : Int) % 5) ∧ r - 5 = c) ∨ (¬ byS η ((r : Int) / 5 + 1) ((r : Int) % 5) ∧ r + 5 = c)) := by
  unfold FN
  rw [tb_orb, tb_orb, tb_orb, tb_orb, Nat.testBit_two_pow, decide_eq_true_eq]
  constructor
  · rintro ((((h | h) | h) | h) | h)
    · exact Or.inl h
    · exact Or.inr (Or.inl h)
    · exact Or.inr (Or.inr (Or.inl h))
    · exact Or.inr (Or.inr (Or.inr (Or.inl h)))
    · exact Or.inr (Or.inr (Or.inr (Or.inr h)))
  · rintro (h | h | h | h | h)
    · exact Or.inl (Or.inl (Or.inl (Or.inl h)))
    · exact Or.inl (Or.inl (Or.inl (Or.inr h)))
    · exact Or.inl (Or.inl (Or.inr h))
    · exact Or.inl (Or.inr h)
    · exact Or.inr h
theorem bs_mem {c q : Nat} : q ∈ bsL L xs c ↔ ((isC L xs ((c : Int) / 5) ((c : Int) % 5 + 1) ∧ q = c + 1) ∨ (isC L xs ((c : Int) / 5) ((c : Int) % 5 - 1) ∧ q = c - 1) ∨ (isC L xs ((c : Int) / 5 - 1) ((c : Int) % 5) ∧ q = c - 5) ∨ (isC L xs ((c : Int) / 5 + 1) ((c : Int) % 5) ∧ q = c + 5)) := by
  have one : ∀ (j : Nat) (P : Prop) (v : Nat), (bsC L xs c j ↔ P) → bsV c j = v → (q ∈ bsO L xs c j ↔ (P ∧ q = v)) := fun j P v h1 h2 => by
    unfold bsO
    by_cases h : bsC L xs c j
    · rw [if_pos h, List.mem_singleton, h2]
      exact ⟨fun e => ⟨h1.mp h, e⟩, fun e => e.2⟩
    · rw [if_neg h]
      constructor
      · intro e; cases e
      · intro e; exact absurd (h1.mpr e.1) h
  unfold bsL
  rw [List.mem_append, List.mem_append, List.mem_append, one 0 (isC L xs ((c : Int) / 5) ((c : Int) % 5 + 1)) (c + 1) (by unfold bsC; simp) rfl, one 1 (isC L xs ((c : Int) / 5) ((c : Int) % 5 - 1)) (c - 1) (by unfold bsC; simp) rfl, one 2 (isC L xs ((c : Int) / 5 - 1) ((c : Int) % 5)) (c - 5) (by unfold bsC; simp) rfl, one 3 (isC L xs ((c : Int) / 5 + 1) ((c : Int) % 5)) (c + 5) (by unfold bsC; simp) rfl, or_assoc, or_assoc]
theorem isC_by (hE : bE L xs η) {t k9 : Int} (k0 : 0 ≤ k9) : isC L xs t k9 ↔ ¬ byS η t k9 := by
  unfold isC byS
  constructor
  · rintro ⟨h1, h2, h3, h4⟩ (h | h | h)
    · omega
    · omega
    · rw [hE.1 t h1 h2] at h; omega
  · intro h
    have h1 : 0 ≤ t := Int.not_lt.mp (fun q => h (Or.inl q))
    have h2 : t < 6 := Int.not_le.mp (fun q => h (Or.inr (Or.inl q)))
    have h3 : ¬ η 1 t ≤ k9 := fun q => h (Or.inr (Or.inr q))
    rw [hE.1 t h1 h2] at h3
    exact ⟨h1, h2, k0, by omega⟩
theorem GN_bs (hE : bE L xs η) (hw : wf η) {r c : Nat} (hr : hasS η r) (hc : hasS η c) : (GN η r).testBit c = true ↔ (r = c ∨ r ∈ bsL L xs c) := by
  obtain ⟨r0, r1, r2⟩ := hr
  obtain ⟨c0, c1, c2⟩ := hc
  have w5 := hw.1
  unfold GN
  rw [if_pos ⟨r0, r1, r2⟩, FN_tb, bs_mem, ← isC_by hE (by omega), ← isC_by hE (by omega), ← isC_by hE (by omega)]
  have er := hE.1 ((r : Int) / 5) (by omega) (by omega)
  have ec := hE.1 ((c : Int) / 5) (by omega) (by omega)
  have br := w5 ((r : Int) / 5)
  have bc := w5 ((c : Int) / 5)
  constructor
  · rintro (h | ⟨h1, h2⟩ | ⟨h1, h2⟩ | ⟨h1, h2⟩ | ⟨h1, h2⟩)
    · exact Or.inl h
    · refine Or.inr (Or.inl ⟨⟨by omega, by omega, by omega, ?_⟩, by omega⟩)
      have e : (c : Int) / 5 = (r : Int) / 5 := by omega
      rw [e, ← er]; omega
    · refine Or.inr (Or.inr (Or.inl ⟨⟨by omega, by omega, ?_, ?_⟩, by omega⟩))
      · obtain ⟨q1, q2, q3, q4⟩ := h1
        rw [← er] at q4; omega
      · obtain ⟨q1, q2, q3, q4⟩ := h1
        rw [← er] at q4
        have e : (c : Int) / 5 = (r : Int) / 5 := by omega
        rw [e, ← er]; omega
    · obtain ⟨q1, q2, q3, q4⟩ := h1
      refine Or.inr (Or.inr (Or.inr (Or.inr ⟨⟨by omega, by omega, by omega, ?_⟩, by omega⟩)))
      have e : (c : Int) / 5 + 1 = (r : Int) / 5 := by omega
      rw [e, ← er]; omega
    · obtain ⟨q1, q2, q3, q4⟩ := h1
      refine Or.inr (Or.inr (Or.inr (Or.inl ⟨⟨by omega, by omega, by omega, ?_⟩, by omega⟩)))
      have e : (c : Int) / 5 - 1 = (r : Int) / 5 := by omega
      rw [e, ← er]; omega
  · rintro (h | ⟨⟨q1, q2, q3, q4⟩, h2⟩ | ⟨⟨q1, q2, q3, q4⟩, h2⟩ | ⟨⟨q1, q2, q3, q4⟩, h2⟩ | ⟨⟨q1, q2, q3, q4⟩, h2⟩)
    · exact Or.inl h
    · rw [← ec] at q4
      exact Or.inr (Or.inl ⟨by omega, by omega⟩)
    · refine Or.inr (Or.inr (Or.inl ⟨⟨by omega, by omega, by omega, ?_⟩, by omega⟩))
      have e : (r : Int) / 5 = (c : Int) / 5 := by omega
      rw [e, ← ec]; omega
    · refine Or.inr (Or.inr (Or.inr (Or.inr ⟨⟨by omega, by omega, by omega, ?_⟩, by omega⟩)))
      have e : (r : Int) / 5 + 1 = (c : Int) / 5 := by omega
      rw [e, ← ec]; omega
    · refine Or.inr (Or.inr (Or.inr (Or.inl ⟨⟨by omega, by omega, by omega, ?_⟩, by omega⟩)))
      have e : (r : Int) / 5 - 1 = (c : Int) / 5 := by omega
      rw [e, ← ec]; omega
theorem HN_tb {x : Int} : ∀ k i : Nat, (HN η x k).testBit i = true ↔ (i < k ∧ hasS η i ∧ x ≤ η 4 i)
  | 0, i => by
    show (0 : Nat).testBit i = true ↔ _
    rw [Nat.zero_testBit]
    constructor
    · intro h; cases h
    · intro h; omega
  | k + 1, i => by
    show (if hasS η k ∧ x ≤ η 4 k then HN η x k ||| 2 ^ k else HN η x k).testBit i = true ↔ _
    by_cases h : hasS η k ∧ x ≤ η 4 k
    · rw [if_pos h, tb_or, HN_tb k i]
      constructor
      · rintro (q | q)
        · exact ⟨by omega, q.2⟩
        · subst q; exact ⟨by omega, h⟩
      · rintro ⟨q1, q2⟩
        by_cases e : i = k
        · exact Or.inr e.symm
        · exact Or.inl ⟨by omega, q2⟩
    · rw [if_neg h, HN_tb k i]
      constructor
      · rintro ⟨q1, q2⟩
        exact ⟨by omega, q2⟩
      · rintro ⟨q1, q2⟩
        by_cases e : i = k
        · subst e; exact absurd q2 h
        · exact ⟨by omega, q2⟩
def tchP (L : Nat) (xs : Nat → Int32) (m0 : Nat) (j : Int) (c : Nat) : Prop := ((c : Int) ≠ j ∧ m0.testBit c = true) ∨ ∃ q : Nat, q ∈ bsL L xs c ∧ (q : Int) ≠ j ∧ m0.testBit q = true
def covP (L : Nat) (xs : Nat → Int32) (η : Hy) (x : Int) (m0 : Nat) (j : Int) (cs : List Nat) : Prop := ∀ c : Nat, c ∈ cs → x ≤ η 4 c → tchP L xs m0 j c
theorem rod_cov (hE : bE L xs η) (hw : wf η) {x n b : Int} (h : resR (TN η) (GN η) (HN η x 30) n b) : (n = -2 ∧ b = -1) ∨ ∃ m0 N : Nat, N ≤ 4 ∧ n = N ∧ b = m0 ∧ m0 < 1073741824 ∧ cntB m0 30 = N ∧ covP L xs η x m0 (-1) (csI L xs 30) ∧ ∀ j : Nat, j < 30 → m0.testBit j = true → ¬ covP L xs η x m0 j (csI L xs 30) := by
  rcases h with ⟨N, h1, h2, h3, h4, h5⟩ | ⟨h1, h2, _⟩
  · rcases h4.1 with q | ⟨m0, ⟨⟨c1, c2, c3⟩, hc⟩, hb⟩
    · omega
    · refine Or.inr ⟨m0, N, h1, h2, hb, c1, hc, fun c hcs hx => ?_, fun j hj hbit hcov => ?_⟩
      · have hh := cs_has hE hcs
        obtain ⟨r, r1, r2⟩ := c3 c ((HN_tb 30 c).mpr ⟨by have := hh.2.1; omega, hh, hx⟩)
        rcases (GN_bs hE hw (c2 r r1) hh).mp r2 with e | e
        · subst e; exact Or.inl ⟨by omega, r1⟩
        · exact Or.inr ⟨r, e, by omega, r1⟩
      · obtain ⟨m', em⟩ : ∃ m', m0 ^^^ 2 ^ j = m' := ⟨_, rfl⟩
        have bt : ∀ r, m'.testBit r = true ↔ (m0.testBit r = true ∧ r ≠ j) := fun r => by
          rw [← em, Nat.testBit_xor, Nat.testBit_two_pow]
          by_cases e : j = r
          · subst e; rw [hbit]; simp
          · simp [e, Ne.symm e, show ¬ r = j from fun q => e q.symm]
        have hlt : m' < 1073741824 := by
          rw [← em]
          exact Nat.xor_lt_two_pow (n := 30) c1 (Nat.pow_lt_pow_right (by omega) hj)
        have hcm : covM (TN η) (GN η) (HN η x 30) m' := by
          refine ⟨hlt, fun r hr => c2 r ((bt r).mp hr).1, fun i hi => ?_⟩
          obtain ⟨i1, i2, i3⟩ := (HN_tb 30 i).mp hi
          rcases hcov i (cs_mem hE i2) i3 with ⟨e1, e2⟩ | ⟨r, r1, r2, r3⟩
          · exact ⟨i, (bt i).mpr ⟨e2, by omega⟩, (GN_bs hE hw (c2 i e2) i2).mpr (Or.inl rfl)⟩
          · exact ⟨r, (bt r).mpr ⟨r3, by omega⟩, (GN_bs hE hw (c2 r r3) i2).mpr (Or.inr r1)⟩
        have e0 : m0 = m' ||| 2 ^ j := by
          apply Nat.eq_of_testBit_eq
          intro i
          have q : m0.testBit i = true ↔ (m' ||| 2 ^ j).testBit i = true := by
            rw [tb_or, bt]
            constructor
            · intro a
              by_cases e : i = j
              · exact Or.inr e.symm
              · exact Or.inl ⟨a, e⟩
            · rintro (a | a)
              · exact a.1
              · subst a; exact hbit
          exact Bool.eq_iff_iff.mpr q
        have k1 := cnt_or (p := m') (r := j) 30
        rw [← e0, if_pos ⟨hj, fun q => ((bt j).mp q).2 rfl⟩] at k1
        have k2 := h5 m' hcm
        omega
  · exact Or.inl ⟨h1, h2⟩
end RODF
