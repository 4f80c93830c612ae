/-! part 9e: sets of rods that see all that is hot -/
def covM (T : Nat → Prop) (F : Nat → Nat) (H m : Nat) : Prop := m < 1073741824 ∧ (∀ r, m.testBit r = true → T r) ∧ ∀ i, H.testBit i = true → ∃ r, m.testBit r = true ∧ (F r).testBit i = true
def cntB (m : Nat) : Nat → Nat
  | 0 => 0
  | k + 1 => cntB m k + (if m.testBit k = true then 1 else 0)
theorem tb_or {p r i : Nat} : (p ||| 2 ^ r).testBit i = true ↔ (p.testBit i = true ∨ r = i) := by
  rw [Nat.testBit_or, Nat.testBit_two_pow, Bool.or_eq_true, decide_eq_true_eq]
theorem cnt_or {p r : Nat} : ∀ k, cntB (p ||| 2 ^ r) k = cntB p k + (if r < k ∧ ¬ p.testBit r = true then 1 else 0)
  | 0 => by rw [if_neg (by omega)]; rfl
  | k + 1 => by
    have ih := cnt_or (p := p) (r := r) k
    show cntB (p ||| 2 ^ r) k + (if (p ||| 2 ^ r).testBit k = true then 1 else 0) = cntB p k + (if p.testBit k = true then 1 else 0) + (if r < k + 1 ∧ ¬ p.testBit r = true then 1 else 0)
    rw [ih]
    by_cases e : r = k
    · subst e
      rw [if_pos (tb_or.2 (Or.inr rfl)), if_neg (show ¬ (r < r ∧ ¬ p.testBit r = true) by omega)]
      by_cases h : p.testBit r = true
      · rw [if_pos h, if_neg (fun q => q.2 h)]
      · rw [if_neg h, if_pos ⟨Nat.lt_succ_self r, h⟩]
    · have e1 : (p ||| 2 ^ r).testBit k = p.testBit k := by rw [Nat.testBit_or, Nat.testBit_two_pow, decide_eq_false e, Bool.or_false]
      rw [e1]
      generalize (if p.testBit k = true then 1 else 0) = w
      by_cases h : p.testBit r = true
      · rw [if_neg (fun q => q.2 h), if_neg (fun q => q.2 h)]; omega
      · by_cases h2 : r < k
        · rw [if_pos ⟨h2, h⟩, if_pos ⟨by omega, h⟩]; omega
        · rw [if_neg (fun q => h2 q.1), if_neg (fun q => h2 (by have := q.1; omega))]; omega
theorem cnt_le {p m : Nat} (h : ∀ i, p.testBit i = true → m.testBit i = true) : ∀ k, cntB p k ≤ cntB m k ∧ (cntB p k = cntB m k → ∀ i, i < k → m.testBit i = true → p.testBit i = true)
  | 0 => ⟨Nat.le_refl _, fun _ i hi => absurd hi (by omega)⟩
  | k + 1 => by
    obtain ⟨h1, h2⟩ := cnt_le h k
    show cntB p k + (if p.testBit k = true then 1 else 0) ≤ cntB m k + (if m.testBit k = true then 1 else 0) ∧ (cntB p k + (if p.testBit k = true then 1 else 0) = cntB m k + (if m.testBit k = true then 1 else 0) → _)
    by_cases hp : p.testBit k = true
    · rw [if_pos hp, if_pos (h k hp)]
      refine ⟨by omega, fun e i hi hm => ?_⟩
      by_cases ei : i = k
      · rw [ei]; exact hp
      · exact h2 (by omega) i (by omega) hm
    · rw [if_neg hp]
      by_cases hm : m.testBit k = true
      · rw [if_pos hm]
        exact ⟨by omega, fun e => absurd e (by omega)⟩
      · rw [if_neg hm]
        refine ⟨by omega, fun e i hi hmi => ?_⟩
        by_cases ei : i = k
        · rw [ei] at hmi; exact absurd hmi hm
        · exact h2 (by omega) i (by omega) hmi
theorem cnt_eq {p m : Nat} (hm : m < 1073741824) (h : ∀ i, p.testBit i = true → m.testBit i = true) (e : cntB m 30 ≤ cntB p 30) : p = m := by
  have hl := cnt_le h 30
  refine Nat.eq_of_testBit_eq (fun i => ?_)
  by_cases h1 : p.testBit i = true
  · rw [h1, h i h1]
  · by_cases h2 : m.testBit i = true
    · by_cases hi : i < 30
      · exact absurd (hl.2 (by omega) i hi h2) h1
      · rw [hi_f hm (by omega)] at h2; exact absurd h2 (by decide)
    · rw [Bool.not_eq_true] at h1 h2; rw [h1, h2]
theorem cnt_z : ∀ k, cntB 0 k = 0
  | 0 => rfl
  | k + 1 => by
    show cntB 0 k + (if Nat.testBit 0 k = true then 1 else 0) = 0
    rw [cnt_z k, Nat.zero_testBit]
    rfl
theorem least_n {P : Nat → Prop} : ∀ n, (∃ i, i < n ∧ P i) → ∃ i, P i ∧ ∀ j, j < i → ¬ P j
  | 0, h => by obtain ⟨i, hi, _⟩ := h; exact absurd hi (by omega)
  | n + 1, h => by
    by_cases h2 : ∃ i, i < n ∧ P i
    · exact least_n n h2
    · obtain ⟨i, hi, hp⟩ := h
      have ei : i = n := by
        refine Classical.byContradiction (fun q => h2 ⟨i, by omega, hp⟩)
      subst ei
      exact ⟨i, hp, fun j hj hq => h2 ⟨j, hj, hq⟩⟩
/-- the reference's sets: just so many rods from a cell on -/
def rR (T : Nat → Prop) (F : Nat → Nat) (H : Nat) : Nat → Nat → Nat → Nat → Nat → Prop
  | 0, _, rods, seen, m => (∀ i, H.testBit i = true → seen.testBit i = true) ∧ m = rods
  | l + 1, from_, rods, seen, m => ∃ c, from_ ≤ c ∧ c < 30 ∧ T c ∧ rR T F H l (c + 1) (rods ||| 2 ^ c) (seen ||| F c) m
theorem Lw_ok {u : Nat} (h0 : u ≠ 0) (h1 : u < 1073741824) : LwB u < 30 ∧ u.testBit (LwB u) = true := by
  obtain ⟨i, a, b, c⟩ := low_n h0 h1
  have e : LwB u = i := by unfold LwB; rw [c, Nat.log2_two_pow]
  rw [e]; exact ⟨a, b⟩
/-- the class's sets: rods that see the first cell not yet seen -/
def rCl (F : Nat → Nat) : Nat → Nat → Nat → Nat → Prop
  | 0, u, p, m => u = 0 ∧ m = p
  | l + 1, u, p, m => (u = 0 ∧ m = p) ∨ (u ≠ 0 ∧ ∃ r, r < 30 ∧ (F r).testBit (LwB u) = true ∧ rCl F l (dN u (F r)) (p ||| 2 ^ r) m)
def unS (F : Nat → Nat) (H u p : Nat) : Prop := ∀ i, u.testBit i = true ↔ (H.testBit i = true ∧ ¬ ∃ r, p.testBit r = true ∧ (F r).testBit i = true)
theorem unS_nx {F : Nat → Nat} {H u p r : Nat} (hu : u < 1073741824) (h : unS F H u p) : unS F H (dN u (F r)) (p ||| 2 ^ r) := by
  intro i
  rw [dN_tb hu, Bool.and_eq_true, Bool.not_eq_true', h i]
  refine ⟨fun q => ⟨q.1.1, fun w => ?_⟩, fun q => ⟨⟨q.1, fun w => ?_⟩, ?_⟩⟩
  · obtain ⟨r', w1, w2⟩ := w
    rcases tb_or.1 w1 with w1 | w1
    · exact q.1.2 ⟨r', w1, w2⟩
    · subst w1; rw [q.2] at w2; exact absurd w2 (by decide)
  · obtain ⟨r', w1, w2⟩ := w
    exact q.2 ⟨r', tb_or.2 (Or.inl w1), w2⟩
  · rw [← Bool.not_eq_true]
    exact fun w => q.2 ⟨r, tb_or.2 (Or.inr rfl), w⟩
theorem un_0 {F : Nat → Nat} {H u p : Nat} (h : unS F H u p) (h0 : u = 0) : ∀ i, H.testBit i = true → ∃ r, p.testBit r = true ∧ (F r).testBit i = true := by
  intro i hi
  refine Classical.byContradiction (fun q => ?_)
  have := (h i).2 ⟨hi, q⟩
  rw [h0, Nat.zero_testBit] at this
  exact absurd this (by decide)
theorem rC_so {T : Nat → Prop} {F : Nat → Nat} {H : Nat} (hF : ∀ r i, (F r).testBit i = true → T r) : ∀ (l u p m : Nat), u < 1073741824 → p < 1073741824 → (∀ i, p.testBit i = true → T i) → unS F H u p → rCl F l u p m → covM T F H m ∧ cntB m 30 ≤ cntB p 30 + l
  | 0, u, p, m, hu, hp, hb, hs, h => by
    obtain ⟨h0, rfl⟩ := h
    exact ⟨⟨hp, hb, un_0 hs h0⟩, by omega⟩
  | l + 1, u, p, m, hu, hp, hb, hs, h => by
    rcases h with ⟨h0, rfl⟩ | ⟨h0, r, r30, hr, h⟩
    · exact ⟨⟨hp, hb, un_0 hs h0⟩, by omega⟩
    · have q := rC_so hF l (dN u (F r)) (p ||| 2 ^ r) m (dN_lt hu) (Nat.or_lt_two_pow (n := 30) hp (kn_1 r r30).2.2) (fun i w => by
        rcases tb_or.1 w with w | w
        · exact hb i w
        · subst w; exact hF r _ hr) (unS_nx hu hs) h
      refine ⟨q.1, ?_⟩
      have h2 := q.2
      rw [cnt_or] at h2
      have : (if r < 30 ∧ ¬ p.testBit r = true then 1 else 0) ≤ 1 := by split <;> omega
      omega
theorem rC_co {T : Nat → Prop} {F : Nat → Nat} {H : Nat} (hT : ∀ r, T r → r < 30) : ∀ (l u p m : Nat), u < 1073741824 → unS F H u p → covM T F H m → (∀ i, p.testBit i = true → m.testBit i = true) → cntB m 30 ≤ cntB p 30 + l → ∃ m', rCl F l u p m' ∧ ∀ i, m'.testBit i = true → m.testBit i = true
  | 0, u, p, m, hu, hs, hc, hsub, hn => by
    have e := cnt_eq hc.1 hsub (by omega)
    subst e
    refine ⟨p, ⟨?_, rfl⟩, fun _ h => h⟩
    refine Nat.eq_of_testBit_eq (fun i => ?_)
    rw [Nat.zero_testBit, ← Bool.not_eq_true]
    intro q
    have := (hs i).1 q
    exact this.2 (hc.2.2 i this.1)
  | l + 1, u, p, m, hu, hs, hc, hsub, hn => by
    by_cases h0 : u = 0
    · exact ⟨p, Or.inl ⟨h0, rfl⟩, hsub⟩
    · obtain ⟨w1, w2⟩ := Lw_ok h0 hu
      have w3 := (hs _).1 w2
      obtain ⟨r, r1, r2⟩ := hc.2.2 _ w3.1
      have r30 := hT r (hc.2.1 r r1)
      have rn : ¬ p.testBit r = true := fun q => w3.2 ⟨r, q, r2⟩
      have ec : cntB (p ||| 2 ^ r) 30 = cntB p 30 + 1 := by rw [cnt_or, if_pos ⟨r30, rn⟩]
      obtain ⟨m', q1, q2⟩ := rC_co hT l (dN u (F r)) (p ||| 2 ^ r) m (dN_lt hu) (unS_nx hu hs) hc (fun i w => by
        rcases tb_or.1 w with w | w
        · exact hsub i w
        · subst w; exact r1) (by omega)
      exact ⟨m', Or.inr ⟨h0, r, r30, r2, q1⟩, q2⟩
/-- the least of a kind, kept beside what was there -/
def mnP (P : Nat → Prop) (b b' : Int) : Prop := (b' = b ∨ ∃ m : Nat, P m ∧ b' = m) ∧ (∀ m : Nat, P m → 0 ≤ b' ∧ b' ≤ m) ∧ (0 ≤ b → 0 ≤ b' ∧ b' ≤ b)
theorem mn_no {P : Nat → Prop} {b : Int} (h : ∀ m, ¬ P m) : mnP P b b := ⟨Or.inl rfl, fun m q => absurd q (h m), fun q => ⟨q, Int.le_refl _⟩⟩
theorem mn_or {P Q : Nat → Prop} {b b1 b2 : Int} (h : mnP P b b1) (h' : mnP Q b1 b2) : mnP (fun m => P m ∨ Q m) b b2 := by
  obtain ⟨a1, a2, a3⟩ := h
  obtain ⟨c1, c2, c3⟩ := h'
  refine ⟨?_, fun m q => ?_, fun q => ?_⟩
  · rcases c1 with e | ⟨m, hm, e⟩
    · rcases a1 with e' | ⟨m, hm, e'⟩
      · exact Or.inl (e.trans e')
      · exact Or.inr ⟨m, Or.inl hm, e.trans e'⟩
    · exact Or.inr ⟨m, Or.inr hm, e⟩
  · rcases q with q | q
    · have x := a2 m q
      have y := c3 x.1
      exact ⟨y.1, Int.le_trans y.2 x.2⟩
    · exact c2 m q
  · have x := a3 q
    have y := c3 x.1
    exact ⟨y.1, Int.le_trans y.2 x.2⟩
theorem mn_cg {P Q : Nat → Prop} {b b' : Int} (h : mnP P b b') (e : ∀ m, P m ↔ Q m) : mnP Q b b' := by
  obtain ⟨a1, a2, a3⟩ := h
  refine ⟨?_, fun m q => a2 m ((e m).2 q), a3⟩
  rcases a1 with a1 | ⟨m, hm, a1⟩
  · exact Or.inl a1
  · exact Or.inr ⟨m, (e m).1 hm, a1⟩
theorem mn_1 {b : Int} (m : Nat) (hb : -1 ≤ b) : mnP (fun x => x = m) b (if b < 0 ∨ (m : Int) < b then (m : Int) else b) := by
  by_cases h : b < 0 ∨ (m : Int) < b
  · rw [if_pos h]
    exact ⟨Or.inr ⟨m, rfl, rfl⟩, fun x q => by subst q; omega, fun q => by omega⟩
  · rw [if_neg h]
    exact ⟨Or.inl rfl, fun x q => by subst q; omega, fun q => ⟨q, Int.le_refl _⟩⟩
theorem mn_un {P : Nat → Prop} {a b : Int} (h : mnP P (-1) a) (h' : mnP P (-1) b) : a = b := by
  obtain ⟨a1, a2, _⟩ := h
  obtain ⟨c1, c2, _⟩ := h'
  rcases a1 with e | ⟨m, hm, e⟩
  · rcases c1 with e' | ⟨m, hm, e'⟩
    · rw [e, e']
    · have := a2 m hm; omega
  · have x := c2 m hm
    rcases c1 with e' | ⟨m', hm', e'⟩
    · omega
    · have y := a2 m' hm'
      omega
theorem mn_ng {P : Nat → Prop} {b : Int} (h : mnP P (-1) b) : (b = -1 ∧ ∀ m, ¬ P m) ∨ (0 ≤ b ∧ ∃ m, P m ∧ b = (m : Nat)) := by
  obtain ⟨a1, a2, _⟩ := h
  rcases a1 with e | ⟨m, hm, e⟩
  · exact Or.inl ⟨e, fun m q => by have := a2 m q; omega⟩
  · exact Or.inr ⟨by omega, m, hm, e⟩
/-- by how few rods, and which -/
def resR (T : Nat → Prop) (F : Nat → Nat) (H : Nat) (n b : Int) : Prop := (∃ N : Nat, N ≤ 4 ∧ n = N ∧ 0 ≤ b ∧ mnP (fun m => covM T F H m ∧ cntB m 30 = N) (-1) b ∧ ∀ m, covM T F H m → N ≤ cntB m 30) ∨ (n = -2 ∧ b = -1 ∧ ∀ m, covM T F H m → 5 ≤ cntB m 30)
theorem resR_ex {T : Nat → Prop} {F : Nat → Nat} {H : Nat} {N : Nat} {b : Int} (h0 : 0 ≤ b) (h : mnP (fun m => covM T F H m ∧ cntB m 30 = N) (-1) b) : ∃ m, covM T F H m ∧ cntB m 30 = N := by
  rcases mn_ng h with ⟨e, _⟩ | ⟨_, m, hm, _⟩
  · omega
  · exact ⟨m, hm⟩
theorem resR_un {T : Nat → Prop} {F : Nat → Nat} {H : Nat} {n b n' b' : Int} (h : resR T F H n b) (h' : resR T F H n' b') : n = n' ∧ b = b' := by
  rcases h with ⟨N, a1, a2, a3, a4, a5⟩ | ⟨a1, a2, a3⟩
  · obtain ⟨m, m1, m2⟩ := resR_ex a3 a4
    rcases h' with ⟨N', c1, c2, c3, c4, c5⟩ | ⟨c1, c2, c3⟩
    · obtain ⟨m', m1', m2'⟩ := resR_ex c3 c4
      have x := a5 m' m1'
      have y := c5 m m1
      have e : N = N' := by omega
      subst e
      exact ⟨by omega, mn_un a4 c4⟩
    · have := c3 m m1; omega
  · rcases h' with ⟨N', c1, c2, c3, c4, c5⟩ | ⟨c1, c2, c3⟩
    · obtain ⟨m', m1', m2'⟩ := resR_ex c3 c4
      have := a3 m' m1'
      omega
    · exact ⟨by omega, by omega⟩
