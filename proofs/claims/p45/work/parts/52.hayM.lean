/-! part 52: what the reference reads of a stack -/
theorem wp_l1 {σ ρ : Type} {body : σ → Option (σ ⊕ ρ)} {n : Nat} {s : σ} {Q : ρ → Prop} (h : wp (body s) (fun q => (∀ s', q = .inl s' → wp (xlp body n s') Q) ∧ (∀ r, q = .inr r → Q r))) : wp (xlp body (n + 1) s) Q := by
  obtain ⟨q, e, h1, h2⟩ := h
  cases q with
  | inl s' => rw [xlp_s e]; exact h1 s' rfl
  | inr r => rw [xlp_e e]; exact ⟨r, rfl, h2 r rfl⟩
theorem ql {σ ρ : Type} {s : σ} {A : σ → Prop} {B : ρ → Prop} (h : A s) : (∀ s', (Sum.inl s : σ ⊕ ρ) = .inl s' → A s') ∧ (∀ r, (Sum.inl s : σ ⊕ ρ) = .inr r → B r) := ⟨fun _ e => (by cases e; exact h), fun _ e => by cases e⟩
theorem qr {σ ρ : Type} {r : ρ} {A : σ → Prop} {B : ρ → Prop} (h : B r) : (∀ s', (Sum.inr r : σ ⊕ ρ) = .inl s' → A s') ∧ (∀ r', (Sum.inr r : σ ⊕ ρ) = .inr r' → B r') := ⟨fun _ e => (by cases e), fun _ e => by cases e; exact h⟩
