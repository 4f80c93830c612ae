/-! part 60: the stack now, and a day in thought, in the reference; a stack becomes another in the class -/
def hm0 (η : Hy) (S : xSt) : Prop := vw S 1 6 (η 1) ∧ vw S 7 6 (η 2) ∧ vw S 2 30 (η 3) ∧ vw S 3 30 (η 4) ∧ vw S 4 30 (η 5) ∧ vw S 5 30 (η 6) ∧ vw S 6 30 (η 7) ∧ vw S 9 5 (η 8) ∧ S.1 0 46 = ki (η 8 5) ∧ S.1 8 (0 : Int).toNat = ki (η 0 10) ∧ S.1 8 (1 : Int).toNat = ki (η 0 11)
theorem vw_ex {S : xSt} {k : Nat} {c v : Int} {g : Int → Int} (h : vw S k c g) (h0 : 0 ≤ c) (hv : v = g c) : vw (xsi S k c.toNat (ki v)) k (c + 1) g := by
  intro z z0 z1
  rw [xsi_r]
  by_cases e : z = c
  · subst e; rw [if_pos ⟨rfl, rfl⟩, hv]
  · rw [if_neg (by omega)]; exact h z z0 (by omega)
theorem vw_0 (S : xSt) (k : Nat) (g : Int → Int) : vw S k 0 g := fun z h0 h1 => absurd h0 (by omega)
