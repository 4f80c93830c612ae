/-! part c8: the stack that the script builds -/
theorem tel1 (n v : Int) (η : Hy) : telS n 1 v η = uh η 4 (up (η 4) n v) := rfl
theorem tel2 (n v : Int) (η : Hy) : telS n 2 v η = uh η 5 (up (η 5) n v) := rfl
theorem tel3 (n v : Int) (η : Hy) : telS n 3 v η = uh η 6 (up (η 6) n v) := rfl
theorem tel5 (n v : Int) (η : Hy) : telS n 5 v η = uh η 2 (up (η 2) n v) := rfl
theorem tel6 (n v : Int) (η : Hy) : telS n 6 v η = uh η 0 (up (η 0) 10 v) := rfl
theorem crS1 (r d l : Int) (η : Hy) : crS r d l η 1 = up (η 1) r (η 1 r + 1) := rfl
theorem crS2 (r d l : Int) (η : Hy) : crS r d l η 2 = η 2 := rfl
theorem crS3 (r d l : Int) (η : Hy) : crS r d l η 3 = up (η 3) (5 * r + η 1 r) d := rfl
theorem crS4 (r d l : Int) (η : Hy) : crS r d l η 4 = up (η 4) (5 * r + η 1 r) 20 := rfl
theorem crS5 (r d l : Int) (η : Hy) : crS r d l η 5 = up (η 5) (5 * r + η 1 r) 99 := rfl
theorem crS6 (r d l : Int) (η : Hy) : crS r d l η 6 = up (η 6) (5 * r + η 1 r) 0 := rfl
theorem crS0 (r d l : Int) (η : Hy) : crS r d l η 0 = η 0 := rfl
theorem crS8 (r d l : Int) (η : Hy) {z : Int} (h : z ≠ 0) : crS r d l η 8 z = η 8 z := by
  show up (η 8) 0 (η 8 0 + 1) z = η 8 z
  unfold up; rw [if_neg h]
theorem uh_s (η : Hy) (f : Nat) (g : Int → Int) : uh η f g f = g := by unfold uh; rw [if_pos rfl]
theorem uh_n (η : Hy) {f f' : Nat} (g : Int → Int) (h : f' ≠ f) : uh η f g f' = η f' := by unfold uh; rw [if_neg h]
theorem up_s (g : Int → Int) (i v : Int) : up g i v i = v := by unfold up; rw [if_pos rfl]
theorem up_n (g : Int → Int) {i z : Int} (v : Int) (h : z ≠ i) : up g i v z = g z := by unfold up; rw [if_neg h]
def bP (L : Nat) (xs : Nat → Int32) (r k : Int) (η : Hy) : Prop := (∀ z, 0 ≤ z → z < r → η 1 z = hgS L xs z) ∧ (r < 6 → η 1 r = k) ∧ (∀ z, r < z → z < 6 → η 1 z = 0) ∧ (∀ c, 0 ≤ c → c < 5 * r + k → c % 5 < hgS L xs (c / 5) → η 3 c = nuS L xs c 0 ∧ η 6 c = nuS L xs c 3) ∧ (∀ z, r ≤ z → z < 6 → η 2 z = 0) ∧ η 0 10 = 90 ∧ η 8 3 = 0 ∧ η 8 4 = 0
/-- what the law holds of the stack as it is built -/
def bE (L : Nat) (xs : Nat → Int32) (η : Hy) : Prop := (∀ z, 0 ≤ z → z < 6 → η 1 z = hgS L xs z) ∧ (∀ c, 0 ≤ c → c < 30 → c % 5 < hgS L xs (c / 5) → η 3 c = nuS L xs c 0 ∧ η 6 c = nuS L xs c 3) ∧ η 8 3 = 0 ∧ η 8 4 = 0
theorem bP_0 {L : Nat} {xs : Nat → Int32} : bP L xs 0 0 η0 := ⟨fun z h1 h2 => by omega, fun _ => rfl, fun z _ _ => rfl, fun c h1 h2 => by omega, fun z _ _ => rfl, rfl, rfl, rfl⟩
section BLT
variable {L : Nat} {xs : Nat → Int32} {r k : Int} {η : Hy}
theorem bP_c (h : bP L xs r k η) (r0 : 0 ≤ r) (r1 : r < 6) (k0 : 0 ≤ k) (k1 : k < hgS L xs r) (d l : Int) : η 1 r = k ∧ hasS (crS r d l η) (5 * r + k) ∧ crS r d l η 4 (5 * r + k) = 20 ∧ crS r d l η 5 (5 * r + k) = 99 ∧ crS r d l η 6 (5 * r + k) = 0 := by
  obtain ⟨h1, h2, h3, h4, h5, h6, h7, h8⟩ := h
  have hk := h2 r1
  have hb := hgS_b (L := L) (xs := xs) r
  refine ⟨hk, ⟨by omega, by omega, ?_⟩, ?_, ?_, ?_⟩
  · rw [show (5 * r + k) / 5 = r by omega, show (5 * r + k) % 5 = k by omega, crS1, up_s, hk]; omega
  · rw [crS4, hk, up_s]
  · rw [crS5, hk, up_s]
  · rw [crS6, hk, up_s]
theorem bP_s (h : bP L xs r k η) (r0 : 0 ≤ r) (r1 : r < 6) (k0 : 0 ≤ k) (k1 : k < hgS L xs r) {i : Int} (hi : i = 5 * r + k) (l v1 v2 : Int) : bP L xs r (k + 1) (telS i 3 (nuS L xs i 3) (telS i 2 v2 (telS i 1 v1 (crS r (nuS L xs i 0) l η)))) := by
  obtain ⟨h1, h2, h3, h4, h5, h6, h7, h8⟩ := h
  have hk := h2 r1
  have hb := hgS_b (L := L) (xs := xs) r
  rw [tel3, tel2, tel1]
  have n1 : ∀ z, (uh (uh (uh (crS r (nuS L xs i 0) l η) 4 (up (crS r (nuS L xs i 0) l η 4) i v1)) 5 (up (uh (crS r (nuS L xs i 0) l η) 4 (up (crS r (nuS L xs i 0) l η 4) i v1) 5) i v2)) 6 (up (uh (uh (crS r (nuS L xs i 0) l η) 4 (up (crS r (nuS L xs i 0) l η 4) i v1)) 5 (up (uh (crS r (nuS L xs i 0) l η) 4 (up (crS r (nuS L xs i 0) l η 4) i v1) 5) i v2) 6) i (nuS L xs i 3))) 1 z = up (η 1) r (η 1 r + 1) z := fun z => rfl
  refine ⟨fun z z0 z1 => ?_, fun _ => ?_, fun z z0 z1 => ?_, fun c c0 c1 c2 => ?_, fun z z0 z1 => h5 z z0 z1, h6, ?_, ?_⟩
  · rw [n1, up_n _ _ (by omega)]; exact h1 z z0 z1
  · rw [n1, up_s, hk]
  · rw [n1, up_n _ _ (by omega)]; exact h3 z z0 z1
  · have e3 : (uh (uh (uh (crS r (nuS L xs i 0) l η) 4 (up (crS r (nuS L xs i 0) l η 4) i v1)) 5 (up (uh (crS r (nuS L xs i 0) l η) 4 (up (crS r (nuS L xs i 0) l η 4) i v1) 5) i v2)) 6 (up (uh (uh (crS r (nuS L xs i 0) l η) 4 (up (crS r (nuS L xs i 0) l η 4) i v1)) 5 (up (uh (crS r (nuS L xs i 0) l η) 4 (up (crS r (nuS L xs i 0) l η 4) i v1) 5) i v2) 6) i (nuS L xs i 3))) 3 c = up (η 3) (5 * r + η 1 r) (nuS L xs i 0) c := rfl
    rw [e3, uh_s, hk, ← hi]
    by_cases e : c = i
    · subst e
      rw [up_s, up_s]
      exact ⟨rfl, rfl⟩
    · rw [up_n _ _ e, up_n _ _ e]
      have q : (uh (uh (crS r (nuS L xs i 0) l η) 4 (up (crS r (nuS L xs i 0) l η 4) i v1)) 5 (up (uh (crS r (nuS L xs i 0) l η) 4 (up (crS r (nuS L xs i 0) l η 4) i v1) 5) i v2)) 6 c = up (η 6) (5 * r + η 1 r) 0 c := rfl
      rw [q, hk, ← hi, up_n _ _ e]
      exact h4 c c0 (by omega) c2
  · show crS r (nuS L xs i 0) l η 8 3 = 0
    rw [crS8 _ _ _ _ (by omega)]; exact h7
  · show crS r (nuS L xs i 0) l η 8 4 = 0
    rw [crS8 _ _ _ _ (by omega)]; exact h8
theorem bP_r (h : bP L xs r (hgS L xs r) η) (r0 : 0 ≤ r) (r1 : r < 6) (v : Int) : bP L xs (r + 1) 0 (telS r 5 v η) := by
  obtain ⟨h1, h2, h3, h4, h5, h6, h7, h8⟩ := h
  have hk := h2 r1
  have hb := hgS_b (L := L) (xs := xs) r
  rw [tel5]
  refine ⟨fun z z0 z1 => ?_, fun _ => ?_, fun z z0 z1 => ?_, fun c c0 c1 c2 => ?_, fun z z0 z1 => ?_, h6, h7, h8⟩
  · show η 1 z = _
    by_cases e : z = r
    · rw [e]; exact hk
    · exact h1 z z0 (by omega)
  · show η 1 (r + 1) = 0
    exact h3 _ (by omega) (by omega)
  · show η 1 z = 0
    exact h3 z (by omega) z1
  · show η 3 c = _ ∧ η 6 c = _
    refine h4 c c0 ?_ c2
    by_cases e : c / 5 = r
    · rw [e] at c2; omega
    · omega
  · rw [uh_s, up_n _ _ (by omega)]; exact h5 z (by omega) z1
theorem bP_e (h : bP L xs 6 0 η) (v : Int) : bE L xs (telS 0 6 v η) := by
  obtain ⟨h1, h2, h3, h4, h5, h6, h7, h8⟩ := h
  rw [tel6]
  exact ⟨fun z z0 z1 => h1 z z0 z1, fun c c0 c1 c2 => h4 c c0 (by omega) c2, h7, h8⟩
end BLT
