/-! part 93: byTurns in the class: the window of a node -/
def mjV (f : Nat → Int) (k : Nat) (v0 : Int) : Nat → Int
  | 0 => if k % 2 = 1 then -2 else 100
  | j + 1 => foT f k v0 j
def bjV (f : Nat → Int) (v0 : Int) : Nat → Int
  | 0 => v0
  | j + 1 => f j
theorem pick_1 {k : Nat} {v w : Int} (hk : k % 2 = 1) : pick k v w = if w ≤ v then v else w := by unfold pick; rw [if_pos hk]
theorem pick_0 {k : Nat} {v w : Int} (hk : ¬ k % 2 = 1) : pick k v w = if v ≤ w then v else w := by unfold pick; rw [if_neg hk]
theorem mjV_s0 {f : Nat → Int} {k : Nat} {v0 : Int} (h0 : -2 ≤ v0) (h1 : v0 ≤ 99) : mjV f k v0 1 = pick k (mjV f k v0 0) v0 := by
  show v0 = pick k (if k % 2 = 1 then -2 else 100) v0
  by_cases hk : k % 2 = 1
  · rw [pick_1 hk, if_pos hk]
    by_cases e : v0 ≤ -2
    · rw [if_pos e]; omega
    · rw [if_neg e]
  · rw [pick_0 hk, if_neg hk, if_neg (by omega)]
theorem mjV_st {f : Nat → Int} {k : Nat} {v0 : Int} (h0 : -2 ≤ v0) (h1 : v0 ≤ 99) : ∀ j : Nat, mjV f k v0 (j + 1) = pick k (mjV f k v0 j) (bjV f v0 j)
  | 0 => mjV_s0 h0 h1
  | _ + 1 => rfl
def winI (k : Nat) (a b M x6 x7 : Int) : Prop := (k % 2 = 1 → x7 = b ∧ okg a b M x6 ∧ -1 ≤ x6 ∧ x6 ≤ 100) ∧ (¬ k % 2 = 1 → x6 = a ∧ okm a b M x7 ∧ -2 ≤ x7 ∧ x7 ≤ 100)
theorem winI_1 {k : Nat} {a b M x6 x7 : Int} (hk : k % 2 = 1) (h1 : x7 = b) (h2 : okg a b M x6) (h3 : -1 ≤ x6) (h4 : x6 ≤ 100) : winI k a b M x6 x7 := ⟨fun _ => ⟨h1, h2, h3, h4⟩, fun h => absurd hk h⟩
theorem winI_0 {k : Nat} {a b M x6 x7 : Int} (hk : ¬ k % 2 = 1) (h1 : x6 = a) (h2 : okm a b M x7) (h3 : -2 ≤ x7) (h4 : x7 ≤ 100) : winI k a b M x6 x7 := ⟨fun h => absurd h hk, fun _ => ⟨h1, h2, h3, h4⟩⟩
theorem ite_b {p : Prop} [Decidable p] {l u x y : Int} (h1 : l ≤ x) (h2 : x ≤ u) (h3 : l ≤ y) (h4 : y ≤ u) : l ≤ (if p then x else y) ∧ (if p then x else y) ≤ u := by
  by_cases h : p
  · rw [if_pos h]; exact ⟨h1, h2⟩
  · rw [if_neg h]; exact ⟨h3, h4⟩
theorem win_s1 {k : Nat} {a b M x6 x7 B R : Int} (hk : k % 2 = 1) (ab : a < b) (h : winI k a b M x6 x7) (hx : x6 < x7) (R0 : -2 ≤ R) (R1 : R ≤ 100) (hr : okAB x6 x7 B R) : winI k a b (pick k M B) (if R ≤ x6 then x6 else R) x7 := by
  obtain ⟨e, h1, h2, h3⟩ := h.1 hk
  subst e
  refine winI_1 hk rfl ?_ ?_ (ite_b (Int.le_trans (by decide : (-2 : Int) ≤ -1) h2) h3 R0 R1).2
  · rw [pick_1 hk]; exact okg_st ab h1 hx hr
  · by_cases e : R ≤ x6
    · rw [if_pos e]; exact h2
    · rw [if_neg e]; omega
theorem win_s0 {k : Nat} {a b M x6 x7 B R : Int} (hk : ¬ k % 2 = 1) (ab : a < b) (h : winI k a b M x6 x7) (hx : x6 < x7) (R0 : -2 ≤ R) (R1 : R ≤ 100) (hr : okAB x6 x7 B R) : winI k a b (pick k M B) x6 (if x7 ≤ R then x7 else R) := by
  obtain ⟨e, h1, h2, h3⟩ := h.2 hk
  subst e
  obtain ⟨g1, g2⟩ := ite_b (p := x7 ≤ R) h2 h3 R0 R1
  refine winI_0 hk rfl ?_ g1 g2
  rw [pick_0 hk]; exact okm_st ab h1 hx hr
theorem okg_0 {a b : Int} (a0 : -1 ≤ a) (ab : a < b) : okg a b (-2) a := ⟨fun _ => rfl, fun h _ => absurd h (by omega), fun h => absurd h (by omega)⟩
theorem okm_0 {a b : Int} (ab : a < b) (b1 : b ≤ 100) : okm a b 100 b := ⟨fun _ => rfl, fun _ h => absurd h (by omega), fun h => absurd h (by omega)⟩
theorem win_0 {k : Nat} {a b : Int} {f : Nat → Int} {v0 : Int} (a0 : -1 ≤ a) (ab : a < b) (b1 : b ≤ 100) : winI k a b (mjV f k v0 0) a b := by
  show winI k a b (if k % 2 = 1 then -2 else 100) a b
  by_cases hk : k % 2 = 1
  · rw [if_pos hk]; exact winI_1 hk rfl (okg_0 a0 ab) a0 (by omega)
  · rw [if_neg hk]; exact winI_0 hk rfl (okm_0 ab b1) (by omega) b1
theorem win_j0 {k : Nat} {a b x6 x7 : Int} {f : Nat → Int} {v0 : Int} (a0 : -1 ≤ a) (ab : a < b) (b1 : b ≤ 100) (h : winI k a b (mjV f k v0 0) x6 x7) : x6 < x7 := by
  have h' : winI k a b (if k % 2 = 1 then -2 else 100) x6 x7 := h
  by_cases hk : k % 2 = 1
  · rw [if_pos hk] at h'
    obtain ⟨e, h1, _, _⟩ := h'.1 hk
    have := h1.1 (by omega)
    omega
  · rw [if_neg hk] at h'
    obtain ⟨e, h1, _, _⟩ := h'.2 hk
    have := h1.1 (by omega)
    omega
theorem win_end {k : Nat} {a b M x6 x7 : Int} (ab : a < b) (h : winI k a b M x6 x7) : okAB a b M (if k % 2 = 1 then x6 else x7) := by
  by_cases hk : k % 2 = 1
  · rw [if_pos hk]; exact okg_ok ab (h.1 hk).2.1
  · rw [if_neg hk]; exact okm_ok ab (h.2 hk).2.1
theorem win_c1 {k : Nat} {a b M M' x6 x7 : Int} (hk : k % 2 = 1) (ab : a < b) (h : winI k a b M x6 x7) (hx : x7 ≤ x6) (g : M ≤ M') : winI k a b M' x6 x7 := by
  obtain ⟨e, h1, h2, h3⟩ := h.1 hk
  exact winI_1 hk e (okg_cut ab h1 (by rw [← e]; exact hx) g) h2 h3
theorem win_c0 {k : Nat} {a b M M' x6 x7 : Int} (hk : ¬ k % 2 = 1) (ab : a < b) (h : winI k a b M x6 x7) (hx : x7 ≤ x6) (g : M' ≤ M) : winI k a b M' x6 x7 := by
  obtain ⟨e, h1, h2, h3⟩ := h.2 hk
  exact winI_0 hk e (okm_cut ab h1 (by rw [← e]; exact hx) g) h2 h3
theorem win_cut {k : Nat} {a b x6 x7 : Int} {f : Nat → Int} {v0 : Int} {j i : Nat} (ab : a < b) (h : winI k a b (foT f k v0 j) x6 x7) (hx : x7 ≤ x6) : winI k a b (foT f k v0 (j + i)) x6 x7 := by
  by_cases hk : k % 2 = 1
  · exact win_c1 hk ab h hx (fo_ge hk i)
  · exact win_c0 hk ab h hx (fo_le hk i)
/-- the first deed that is least -/
def bdT (f : Nat → Int) (v0 : Int) : Nat → Int
  | 0 => -2
  | 1 => 6
  | j + 2 => if foT f 0 v0 j ≤ f j then bdT f v0 (j + 1) else (j : Int)
theorem fo_n {f : Nat → Int} {k : Nat} {v0 : Int} (h0 : 0 ≤ v0) (hf : ∀ c, 0 ≤ f c) : ∀ j, 0 ≤ foT f k v0 j
  | 0 => h0
  | j + 1 => by
    show 0 ≤ pick k (foT f k v0 j) (f j)
    have h1 := fo_n h0 hf (k := k) j
    have h2 := hf j
    unfold pick
    by_cases hk : k % 2 = 1
    · rw [if_pos hk]
      by_cases h : f j ≤ foT f k v0 j
      · rw [if_pos h]; exact h1
      · rw [if_neg h]; exact h2
    · rw [if_neg hk]
      by_cases h : foT f k v0 j ≤ f j
      · rw [if_pos h]; exact h1
      · rw [if_neg h]; exact h2
theorem bdT_at {f : Nat → Int} {v0 : Int} : ∀ j, (v0 = foT f 0 v0 j ∧ bdT f v0 (j + 1) = 6) ∨ (v0 ≠ foT f 0 v0 j ∧ ∃ c : Nat, c < j ∧ bdT f v0 (j + 1) = c ∧ f c = foT f 0 v0 j ∧ ∀ i, i < c → f i ≠ foT f 0 v0 j)
  | 0 => Or.inl ⟨rfl, rfl⟩
  | j + 1 => by
    have ih := bdT_at (f := f) (v0 := v0) j
    have hp : foT f 0 v0 (j + 1) = if foT f 0 v0 j ≤ f j then foT f 0 v0 j else f j := pick_0 (by omega)
    have hb : bdT f v0 (j + 2) = if foT f 0 v0 j ≤ f j then bdT f v0 (j + 1) else (j : Int) := rfl
    by_cases h : foT f 0 v0 j ≤ f j
    · rw [if_pos h] at hp hb
      rw [hp, hb]
      rcases ih with h1 | ⟨h1, c, h2, h3⟩
      · exact Or.inl h1
      · exact Or.inr ⟨h1, c, Nat.lt_succ_of_lt h2, h3⟩
    · rw [if_neg h] at hp hb
      rw [hp, hb]
      have hlt : ∀ i d, foT f 0 v0 (i + d) ≤ foT f 0 v0 i := fun i d => fo_le (by omega) d
      have g0 : foT f 0 v0 j ≤ v0 := by have := hlt 0 j; rw [Nat.zero_add] at this; exact this
      refine Or.inr ⟨by omega, j, Nat.lt_succ_self j, rfl, rfl, fun i hi e => ?_⟩
      have g1 : foT f 0 v0 (i + 1) ≤ f i := by
        have q : foT f 0 v0 (i + 1) = if foT f 0 v0 i ≤ f i then foT f 0 v0 i else f i := pick_0 (by omega)
        rw [q]
        by_cases hq : foT f 0 v0 i ≤ f i
        · rw [if_pos hq]; exact hq
        · rw [if_neg hq]; exact Int.le_refl _
      have g2 := hlt (i + 1) (j - (i + 1))
      rw [show i + 1 + (j - (i + 1)) = j by omega] at g2
      omega
theorem bdT_is {f : Nat → Int} {v0 v : Int} (hv : v = foT f 0 v0 6) : bdT f v0 7 = if v0 = v then 6 else fsc f v := by
  subst hv
  rcases bdT_at (f := f) (v0 := v0) 6 with ⟨h1, h2⟩ | ⟨h1, c, h2, h3, h4, h5⟩
  · rw [if_pos h1]; exact h2
  · rw [if_neg h1, fsc_at h2 h4 h5]; exact h3
/-- the root's step: the window is open below -/
theorem rt_le {M B R : Int} (hB : 0 ≤ B) (hr : okAB (-1) M B R) : M ≤ R ↔ M ≤ B := by
  obtain ⟨_, h2, h3⟩ := hr
  by_cases h : M ≤ B
  · exact ⟨fun _ => h, fun _ => h2 h⟩
  · have := h3 (by omega) (by omega)
    rw [this]
theorem rt_v {M B R : Int} (hB : 0 ≤ B) (hr : okAB (-1) M B R) : (if M ≤ R then M else R) = if M ≤ B then M else B := by
  have h1 := rt_le hB hr
  by_cases h : M ≤ B
  · rw [if_pos h, if_pos (h1.2 h)]
  · rw [if_neg h, if_neg (fun q => h (h1.1 q))]
    exact hr.2.2 (by omega) (by omega)
theorem mjV_1 (f : Nat → Int) (k : Nat) (v0 : Int) (j : Nat) : mjV f k v0 (j + 1) = foT f k v0 j := rfl
theorem mjV_z (f : Nat → Int) (v0 : Int) : mjV f 0 v0 0 = 100 := rfl
theorem fo_0 (f : Nat → Int) (k : Nat) (v : Int) : foT f k v 0 = v := rfl
theorem bdT_s (f : Nat → Int) (v0 : Int) (j : Nat) : bdT f v0 (j + 2) = if foT f 0 v0 j ≤ f j then bdT f v0 (j + 1) else (j : Int) := rfl
theorem bdT_1 (f : Nat → Int) (v0 : Int) : bdT f v0 1 = 6 := rfl
theorem bjV_0 (f : Nat → Int) (v0 : Int) : bjV f v0 0 = v0 := rfl
theorem bjV_1 (f : Nat → Int) (v0 : Int) (j : Nat) : bjV f v0 (j + 1) = f j := rfl
theorem fo_l0 {f : Nat → Int} {v : Int} (j : Nat) : foT f 0 v j ≤ v := by
  have := fo_le (f := f) (k := 0) (v := v) (by omega) (i := 0) j
  rw [Nat.zero_add, fo_0] at this
  exact this
