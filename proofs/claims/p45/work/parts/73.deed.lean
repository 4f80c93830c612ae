/-! part 73: what changes the stack alone: frames; day, turned, salt, read, cart -/
def qX2 (k : Nat) : Prop := (4 ≤ k ∧ k ≤ 25) ∨ (35 ≤ k ∧ k ≤ 95)
def ledS (i v : Int) (η : Hy) : Hy := uh η 8 (up (η 8) i v)
theorem wf_led {η : Hy} (hw : wf η) {i v : Int} (hi : i ≠ 5) : wf (ledS i v η) := by
  obtain ⟨h1, h2, h3, h4, h5, h6, h7, h8, h9, h10⟩ := hw
  refine ⟨h1, h2, h3, h4, h5, h6, h7, h8, h9, ?_⟩
  show -2 ≤ up (η 8) i v 5 ∧ up (η 8) i v 5 ≤ 99
  unfold up
  rw [if_neg (fun e => hi e.symm)]; exact h10
theorem hx_led {o : Nat} {η : Hy} {S : xSt} {i v : Int} (h : hx o η S) (i0 : 0 ≤ i) : hx o (ledS i v η) (xsi S (o + 8) i.toNat (ki v)) := by
  obtain ⟨h1, h2, h3, h4, h5, h6, h7, h8, h9, h10⟩ := h
  exact ⟨vw_ne h1 (by omega), vw_ne h2 (by omega), vw_ne h3 (by omega), vw_ne h4 (by omega), vw_ne h5 (by omega), vw_ne h6 (by omega), vw_ne h7 (by omega), vw_up h8 i0, by rw [xsi_r, if_neg (by omega)]; exact h9, by rw [xsi_r, if_neg (by omega)]; exact h10⟩
theorem lawX_c {gn : (Int → Int) → Int} {S : xSt} {k j : Nat} {v : Int32} (hl : lawX gn S) (hk : k < 8 ∨ 15 < k) : lawX gn (xsi S k j v) := lawX_f hl (fr_si (P := fun q => q = k) rfl) (fun q hq => by omega)
