/-! part 77: undo, redo, mend -/
theorem lawX_3 {gn : (Int → Int) → Int} {S S' : xSt} {P : Nat → Prop} (h : lawX gn S) (hf : fr S S' P) (hp : ∀ k, P k → k < 8 ∨ 15 < k) : lawX gn S' := lawX_f h hf hp
