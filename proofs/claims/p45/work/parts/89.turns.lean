/-! part 89: byTurns: what the search gives; the reference's search -/
def deS (k : Nat) (c : Int) (η : Hy) : Hy := if c = 6 then η else if k % 2 = 1 then wetS c η else turS c η
def pick (k : Nat) (v w : Int) : Int := if k % 2 = 1 then (if w ≤ v then v else w) else (if v ≤ w then v else w)
def foT (f : Nat → Int) (k : Nat) (v : Int) : Nat → Int
  | 0 => v
  | j + 1 => pick k (foT f k v j) (f j)
def bst (gn : (Int → Int) → Int) (n : Nat) : Nat → Nat → Hy → Int
  | 0, _, η => hhS (daysN gn n η)
  | r + 1, k, η => foT (fun c => bst gn n r (k + 1) (deS k c η)) k (bst gn n r (k + 1) η) 6
theorem wf_de {k : Nat} {c : Int} {η : Hy} (hw : wf η) : wf (deS k c η) := by
  unfold deS
  by_cases h : c = 6
  · rw [if_pos h]; exact hw
  · rw [if_neg h]
    by_cases h2 : k % 2 = 1
    · rw [if_pos h2]; exact wf_wet hw c
    · rw [if_neg h2]; exact wf_tur hw c
theorem pick_b {k : Nat} {v w : Int} (h1 : -2 ≤ v ∧ v ≤ 99) (h2 : -2 ≤ w ∧ w ≤ 99) : -2 ≤ pick k v w ∧ pick k v w ≤ 99 := by
  unfold pick
  split
  · split
    · exact h1
    · exact h2
  · split
    · exact h1
    · exact h2
theorem fo_b {f : Nat → Int} {k : Nat} {v : Int} (hv : -2 ≤ v ∧ v ≤ 99) (hf : ∀ j, -2 ≤ f j ∧ f j ≤ 99) : ∀ j, -2 ≤ foT f k v j ∧ foT f k v j ≤ 99 := by
  intro j
  induction j with
  | zero => exact hv
  | succ j ih => exact pick_b ih (hf j)
theorem bst_b {gn : (Int → Int) → Int} {n : Nat} : ∀ (r k : Nat) (η : Hy), wf η → -2 ≤ bst gn n r k η ∧ bst gn n r k η ≤ 99 := by
  intro r
  induction r with
  | zero => intro k η hw; exact hhS_b (wf_days hw n)
  | succ r ih => intro k η hw; exact fo_b (ih _ _ hw) (fun j => ih _ _ (wf_de hw)) 6
def fsc (f : Nat → Int) (v : Int) : Int := if f 0 = v then 0 else if f 1 = v then 1 else if f 2 = v then 2 else if f 3 = v then 3 else if f 4 = v then 4 else 5
theorem fsc_at {f : Nat → Int} {v : Int} {j : Nat} (hj : j < 6) (e : f j = v) (hn : ∀ i, i < j → f i ≠ v) : fsc f v = j := by
  have hq : j = 0 ∨ j = 1 ∨ j = 2 ∨ j = 3 ∨ j = 4 ∨ j = 5 := by omega
  unfold fsc
  rcases hq with rfl | rfl | rfl | rfl | rfl | rfl
  · rw [if_pos e]; rfl
  · rw [if_neg (hn 0 (by omega)), if_pos e]; rfl
  · rw [if_neg (hn 0 (by omega)), if_neg (hn 1 (by omega)), if_pos e]; rfl
  · rw [if_neg (hn 0 (by omega)), if_neg (hn 1 (by omega)), if_neg (hn 2 (by omega)), if_pos e]; rfl
  · rw [if_neg (hn 0 (by omega)), if_neg (hn 1 (by omega)), if_neg (hn 2 (by omega)), if_neg (hn 3 (by omega)), if_pos e]; rfl
  · rw [if_neg (hn 0 (by omega)), if_neg (hn 1 (by omega)), if_neg (hn 2 (by omega)), if_neg (hn 3 (by omega)), if_neg (hn 4 (by omega))]; rfl
theorem fo_ex {f : Nat → Int} {k : Nat} {v0 : Int} : ∀ j, foT f k v0 j = v0 ∨ ∃ i, i < j ∧ f i = foT f k v0 j := by
  intro j
  induction j with
  | zero => exact Or.inl rfl
  | succ j ih =>
    have hp : foT f k v0 (j + 1) = foT f k v0 j ∨ foT f k v0 (j + 1) = f j := by
      show pick k (foT f k v0 j) (f j) = _ ∨ pick k (foT f k v0 j) (f j) = _
      unfold pick
      split <;> split <;> simp
    rcases hp with e | e
    · rw [e]
      rcases ih with h | ⟨i, hi, h⟩
      · exact Or.inl h
      · exact Or.inr ⟨i, by omega, h⟩
    · exact Or.inr ⟨j, by omega, e.symm⟩
/-- what byTurns answers -/
def btA (gn : (Int → Int) → Int) (N n : Nat) (η : Hy) (w : Int) : Int := if w = 0 then bst gn n (N + 1) 0 η else if 0 ≤ bst gn n (N + 1) 0 η then (if bst gn n N 1 η = bst gn n (N + 1) 0 η then 6 else fsc (fun c => bst gn n N 1 (deS 0 c η)) (bst gn n (N + 1) 0 η)) else bst gn n (N + 1) 0 η
