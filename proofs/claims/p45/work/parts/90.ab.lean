/-! part 90: byTurns in the class: what a cut search keeps -/
theorem wet_e {η : Hy} {col : Int} (h : η 1 col ≤ 0) : wetS col η = η := by unfold wetS; rw [if_pos h]
theorem tur_e {η : Hy} {col : Int} (h : η 1 col ≤ 0) : turS col η = η := by
  have e3 : trD η col = η 3 := funext fun z => trD_off (fun q => by obtain ⟨⟨g0, g1, g2⟩, e⟩ := q; rw [e] at g2; omega)
  have e4 : trH η col = η 4 := funext fun z => trH_off (fun q => by obtain ⟨⟨g0, g1, g2⟩, e⟩ := q; rw [e] at g2; omega)
  unfold turS
  rw [e3, e4]
  funext k z
  unfold s345
  by_cases h3 : k = 3
  · subst h3; rfl
  · by_cases h4 : k = 4
    · subst h4; rfl
    · by_cases h5 : k = 5
      · subst h5; rfl
      · simp [h3, h4, h5]
theorem de_e {η : Hy} {k : Nat} {c : Int} (h : η 1 c ≤ 0) : deS k c η = η := by
  unfold deS
  rw [wet_e h, tur_e h]
  split
  · rfl
  · split <;> rfl
/-- an answer within a window -/
def okAB (a b B R : Int) : Prop := (B ≤ a → R ≤ a) ∧ (b ≤ B → b ≤ R) ∧ (a < B → B < b → R = B)
def okm (a b M x : Int) : Prop := (b ≤ M → x = b) ∧ (a < M → M < b → x = M) ∧ (M ≤ a → x ≤ a)
def okg (a b M x : Int) : Prop := (M ≤ a → x = a) ∧ (a < M → M < b → x = M) ∧ (b ≤ M → b ≤ x)
theorem okm_st {a b M x B R : Int} (ab : a < b) (h : okm a b M x) (hx : a < x) (hr : okAB a x B R) : okm a b (if M ≤ B then M else B) (if x ≤ R then x else R) := by
  unfold okm okAB at *
  omega
theorem okg_st {a b M x B R : Int} (ab : a < b) (h : okg a b M x) (hx : x < b) (hr : okAB x b B R) : okg a b (if B ≤ M then M else B) (if R ≤ x then x else R) := by
  unfold okg okAB at *
  omega
theorem okm_cut {a b M M' x : Int} (ab : a < b) (h : okm a b M x) (hx : x ≤ a) (hm : M' ≤ M) : okm a b M' x := by
  unfold okm at *
  omega
theorem okg_cut {a b M M' x : Int} (ab : a < b) (h : okg a b M x) (hx : b ≤ x) (hm : M ≤ M') : okg a b M' x := by
  unfold okg at *
  omega
theorem okm_ok {a b M x : Int} (ab : a < b) (h : okm a b M x) : okAB a b M x := by
  unfold okm okAB at *
  omega
theorem okg_ok {a b M x : Int} (ab : a < b) (h : okg a b M x) : okAB a b M x := by
  unfold okg okAB at *
  omega
theorem fo_le {f : Nat → Int} {k : Nat} {v : Int} (hk : ¬ k % 2 = 1) {i : Nat} : ∀ j, foT f k v (i + j) ≤ foT f k v i := by
  intro j
  induction j with
  | zero => exact Int.le_refl _
  | succ j ih =>
    show pick k (foT f k v (i + j)) (f (i + j)) ≤ _
    unfold pick
    rw [if_neg hk]
    split <;> omega
theorem fo_ge {f : Nat → Int} {k : Nat} {v : Int} (hk : k % 2 = 1) {i : Nat} : ∀ j, foT f k v i ≤ foT f k v (i + j) := by
  intro j
  induction j with
  | zero => exact Int.le_refl _
  | succ j ih =>
    show _ ≤ pick k (foT f k v (i + j)) (f (i + j))
    unfold pick
    rw [if_pos hk]
    split <;> omega
/-- a column without cells changes nothing: the least or greatest stays -/
theorem fo_skip {f : Nat → Int} {k : Nat} {v : Int} {j : Nat} (e : f j = v) : foT f k v (j + 1) = foT f k v j := by
  show pick k (foT f k v j) (f j) = _
  rw [e]
  unfold pick
  by_cases hk : k % 2 = 1
  · rw [if_pos hk]
    have := fo_ge (f := f) (v := v) hk (i := 0) j
    rw [Nat.zero_add] at this
    exact if_pos this
  · rw [if_neg hk]
    have := fo_le (f := f) (v := v) hk (i := 0) j
    rw [Nat.zero_add] at this
    exact if_pos this
