/-! part 80: image, back -/
theorem vw_sn {S : xSt} {k : Nat} {g : Int → Int} {c : Int} {v : Int32} (h : vw S k c g) (c0 : 0 ≤ c) (hv : v = ki (g c)) : vw (xsi S k c.toNat v) k (c + 1) g := by
  intro z z0 z1
  by_cases e : z = c
  · subst e; rw [xsi_r, if_pos ⟨rfl, rfl⟩]; exact hv
  · rw [xsi_r, if_neg (by omega)]; exact h z z0 (by omega)
