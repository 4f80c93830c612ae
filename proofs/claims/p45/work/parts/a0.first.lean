/-! part a0: the two states as the constructors leave them; they are alike -/
def i0X (k j : Nat) : Int := if (k = 16 ∨ k = 26 ∨ k = 36 ∨ k = 46 ∨ k = 56 ∨ k = 66 ∨ k = 76) ∧ j = 10 then 90 else if (k = 24 ∨ k = 34 ∨ k = 44 ∨ k = 54 ∨ k = 64 ∨ k = 74 ∨ k = 84) ∧ j = 5 then -2 else 0
def S0X : xSt := (fun k j => ki (i0X k j), fun _ _ => kj 0)
def η0 : Hy := fun f z => if f = 0 ∧ z = 10 then 90 else if f = 8 ∧ z = 5 then -2 else 0
theorem i0X_0 {k j : Nat} (h : (k < 16 ∨ (17 ≤ k ∧ k ≤ 23) ∨ 85 ≤ k) ∨ (k = 16 ∧ j ≠ 10) ∨ (k = 24 ∧ j ≠ 5)) : S0X.1 k j = ki 0 := by
  show ki (i0X k j) = ki 0
  unfold i0X
  rw [if_neg (by omega), if_neg (by omega)]
theorem η0_0 {f : Nat} {z : Int} (h : (f ≠ 0 ∧ f ≠ 8) ∨ (f = 0 ∧ z ≠ 10) ∨ (f = 8 ∧ z ≠ 5)) : η0 f z = 0 := by
  unfold η0
  rw [if_neg (by omega), if_neg (by omega)]
theorem vw_0X {k f : Nat} {n : Int} (hk : 17 ≤ k ∧ k ≤ 23) (hf : f ≠ 0 ∧ f ≠ 8) : vw S0X k n (η0 f) := fun z _ _ => by
  rw [i0X_0 (by omega), η0_0 (by omega)]
theorem wf_0 : wf η0 := by
  have h : ∀ f z, f ≠ 0 ∧ f ≠ 8 → η0 f z = 0 := fun f z hf => η0_0 (Or.inl hf)
  refine ⟨fun z => ?_, fun z => ?_, fun z => ?_, fun z => ?_, fun z => ?_, fun z => ?_, ?_, ?_, fun z => ?_, ?_⟩
  · rw [h 1 z (by omega)]; omega
  · rw [h 2 z (by omega)]; omega
  · rw [h 3 z (by omega)]; omega
  · rw [h 4 z (by omega)]; omega
  · rw [h 5 z (by omega)]; omega
  · rw [h 6 z (by omega)]; omega
  · decide
  · decide
  · rw [h 7 z (by omega)]; omega
  · decide
theorem hx_0 : hx 16 η0 S0X := by
  refine ⟨vw_0X (by omega) (by omega), vw_0X (by omega) (by omega), vw_0X (by omega) (by omega), vw_0X (by omega) (by omega), vw_0X (by omega) (by omega), vw_0X (by omega) (by omega), vw_0X (by omega) (by omega), fun z z0 z1 => ?_, rfl, rfl⟩
  show S0X.1 24 z.toNat = ki (η0 8 z)
  by_cases e : z = 5
  · subst e; rfl
  · rw [i0X_0 (by omega), η0_0 (by omega)]
theorem law_0 : lawX gn0 S0X := Or.inl ⟨i0X_0 (by omega), rfl⟩
