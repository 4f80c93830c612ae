/-! part 71: book -/
def pcT (b : Int) : Int := b % 2 + b / 2 % 2 + b / 4 % 2 + b / 8 % 2 + b / 16 % 2 + b / 32 % 2 + b / 64 % 2 + b / 128 % 2 + b / 256 % 2 + b / 512 % 2
def lbT (b : Int) : Int := if b % 2 = 1 then 0 else if b / 2 % 2 = 1 then 1 else if b / 4 % 2 = 1 then 2 else if b / 8 % 2 = 1 then 3 else if b / 16 % 2 = 1 then 4 else if b / 32 % 2 = 1 then 5 else if b / 64 % 2 = 1 then 6 else if b / 128 % 2 = 1 then 7 else if b / 256 % 2 = 1 then 8 else if b / 512 % 2 = 1 then 9 else -2
theorem bcT_dec : ∀ s : Nat, s < 1024 → (f_J6_bitCount_0f7a4 S00 (ki (s : Int))).map (fun q => q.2) = some (ki (pcT (s : Int))) := by decide +kernel
theorem x_bcT {S : xSt} {s : Int} (s0 : 0 ≤ s) (s1 : s < 1024) : f_J6_bitCount_0f7a4 S (ki s) = some (S, ki (pcT s)) := by
  obtain ⟨n, rfl⟩ : ∃ n : Nat, s = n := ⟨s.toNat, by omega⟩
  rw [bc_any, bcT_dec n (by omega)]; rfl
theorem lbT_dec : ∀ s : Nat, s < 1024 → (f_X11_lowestBit S00 (ki (s : Int))).map (fun q => q.2) = some (ki (lbT (s : Int))) := by decide +kernel
theorem lb_any (S : xSt) (x : Int32) : f_X11_lowestBit S x = ((f_X11_lowestBit S00 x).map (fun q => q.2)).map (fun v => (S, v)) := by
  unfold f_X11_lowestBit f_X11_lowestBit_0
  by_cases h : ¬ x = 0
  · rw [if_pos h, if_pos h]; rfl
  · rw [if_neg h, if_neg h]; rfl
theorem x_lbT {S : xSt} {s : Int} (s0 : 0 ≤ s) (s1 : s < 1024) : f_X11_lowestBit S (ki s) = some (S, ki (lbT s)) := by
  obtain ⟨n, rfl⟩ : ∃ n : Nat, s = n := ⟨s.toNat, by omega⟩
  rw [lb_any, lbT_dec n (by omega)]; rfl
theorem bit_dec : ∀ k : Nat, k < 10 → ∀ b : Nat, b < 2 ^ k → (ki (b : Int) ||| (ki 1 <<< (ki (k : Int) &&& ki 31)) = ki ((b + 2 ^ k : Nat) : Int) ∧ pcT ((b + 2 ^ k : Nat) : Int) = pcT (b : Int) + 1 ∧ lbT ((b + 2 ^ k : Nat) : Int) = (if b = 0 then (k : Int) else lbT (b : Int)) ∧ (pcT (b : Int) = 0 ↔ b = 0)) := by decide +kernel
/-- which of k numbers fit, as bits -/
def fbS (f : Nat → Int) : Nat → Nat
  | 0 => 0
  | k + 1 => if f k = -2 then fbS f k + 2 ^ k else fbS f k
theorem fbS_b (f : Nat → Int) : ∀ k, fbS f k < 2 ^ k := by
  intro k
  induction k with
  | zero => exact Nat.one_pos
  | succ k ih =>
    show (if f k = -2 then fbS f k + 2 ^ k else fbS f k) < 2 ^ (k + 1)
    rw [Nat.pow_succ]
    split <;> omega
