/-! part 87: act: class and reference as machines over the list of what ran -/
def eap (S : List Int32) (c : Int32) : Option (List Int32 × Unit) := if S.length < 900 then some (S ++ [c], ()) else none
abbrev eG := List Int32 → Int32 → Int32 → Int32 → Int32 → Option (List Int32 × Int32)
def e45 (gr : eG) (x2 x3 x4 x5 : Int32) (S : List Int32) : Option (List Int32 × Int32) :=
  if x5 < 0 then (some (S, (0 : Int32))) else (if x4 ≤ (40 : Int32) then (xbd (x5 * (4 : Int32)) (fun v_3 => xbd (v_3 + x2) (fun v_4 => xgd (xin v_4 32) (xbd (xt_OWN v_4.toNatClampNeg) (fun v_5 => xob (eap S v_5) (fun S_3 _ => xbd (x4 + (1 : Int32)) (fun v_7 => xob (gr S_3 v_5 x5 x3 v_7) (fun S_5 v_6 => some (S_5, v_6))))))))) else (some (S, (0 : Int32))))
def e6 (gr : eG) (x2 x3 x4 : Int32) (S : List Int32) (x5 x6 : Int32) : Option ((List Int32 × Int32 × Int32) ⊕ (List Int32 × Int32)) :=
  if (8 : Int32) ≤ x6 then (xmr (e45 gr x2 x3 x4 x5 S)) else (if x5 < 0 then (xmr (e45 gr x2 x3 x4 x5 S)) else (xbd (x5 * (4 : Int32)) (fun v_3 => xbd (v_3 + x2) (fun v_4 => xgd (xin v_4 32) (xbd (xt_OWN v_4.toNatClampNeg) (fun v_5 => if ¬ v_5 = 0 then (xmr (e45 gr x2 x3 x4 x5 S)) else (xgd (xin x5 8) (xbd (xt_ABOVE x5.toNatClampNeg) (fun v_7 => xbd (x6 + (1 : Int32)) (fun v_8 => some (.inl (S, v_7, v_8))))))))))))
def eB0 (gr : eG) (x1 x2 x3 x4 : Int32) (S : List Int32) : Option (List Int32 × Int32) :=
  xlp (fun q : (List Int32 × Int32 × Int32) => e6 gr x2 x3 x4 q.1 q.2.1 q.2.2) 5000 (S, x1, (0 : Int32))
def eR0 (bb kk : Int32) (g : eG) (x1 x2 x3 x4 : Int32) (S : List Int32) : Option (List Int32 × Int32) :=
  xbd bb (fun v_1 => xgd True (xbd kk (fun v_2 => xgd (xin x2 8) (xbd (xt_ABOVE x2.toNatClampNeg) (fun v_3 => if x1 = (1 : Int32) then (xbd bb (fun v_5 => xbd (x3 + v_5) (fun v_6 => some (S, v_6)))) else (if x1 = (2 : Int32) then (xob (g S v_2 (1 : Int32) x3 x4) (fun S_8 v_9 => xob (g S_8 v_2 (2 : Int32) (1 : Int32) x4) (fun S_10 v_11 => xbd (v_9 - v_11) (fun v_12 => some (S_10, v_12))))) else (if x1 = (10 : Int32) then (xob (g S v_2 (0 : Int32) x3 x4) (fun S_14 v_15 => xbd (v_15 * (2 : Int32)) (fun v_16 => some (S_14, v_16)))) else (if x1 = (11 : Int32) then (xbd bb (fun v_18 => xbd (x3 ^^^ v_18) (fun v_19 => some (S, v_19)))) else (if x1 = (20 : Int32) then (xob (g S v_3 (0 : Int32) x3 x4) (fun S_21 v_22 => xbd (v_22 + (3 : Int32)) (fun v_23 => some (S_21, v_23)))) else (if x1 = (30 : Int32) then (xob (g S v_3 (1 : Int32) x3 x4) (fun S_25 v_26 => xbd (-v_26) (fun v_27 => some (S_25, v_27)))) else (if x1 = (40 : Int32) then (xob (g S v_3 (2 : Int32) x3 x4) (fun S_29 v_30 => xbd (v_30 * (3 : Int32)) (fun v_31 => some (S_29, v_31)))) else (if x1 = (41 : Int32) then (xbd (x3 + (1 : Int32)) (fun v_33 => xob (g S v_3 (1 : Int32) v_33 x4) (fun S_34 v_35 => some (S_34, v_35)))) else (if x1 = (50 : Int32) then (xob (g S v_3 (3 : Int32) x3 x4) (fun S_37 v_38 => xbd (v_38 ^^^ (5 : Int32)) (fun v_39 => some (S_37, v_39)))) else (if x1 = (60 : Int32) then (xob (g S v_3 (2 : Int32) x3 x4) (fun S_41 v_42 => xob (g S_41 v_2 (0 : Int32) (2 : Int32) x4) (fun S_43 v_44 => xbd (v_42 - v_44) (fun v_45 => some (S_43, v_45))))) else (if x1 = (61 : Int32) then (xob (g S v_3 (3 : Int32) x3 x4) (fun S_47 v_48 => xbd (v_48 + (1 : Int32)) (fun v_49 => some (S_47, v_49)))) else (if x1 = (70 : Int32) then (xob (g S v_3 (0 : Int32) x3 x4) (fun S_51 v_52 => xbd (v_52 * (2 : Int32)) (fun v_53 => some (S_51, v_53)))) else (if x1 = (80 : Int32) then (xob (g S v_3 (1 : Int32) x3 x4) (fun S_55 v_56 => xob (g S_55 v_2 (2 : Int32) (2 : Int32) x4) (fun S_57 v_58 => xbd (v_56 + v_58) (fun v_59 => some (S_57, v_59))))) else (if x1 = (81 : Int32) then (xob (g S v_3 (0 : Int32) x3 x4) (fun S_61 v_62 => xbd (v_62 - (1 : Int32)) (fun v_63 => some (S_61, v_63)))) else (some (S, (0 : Int32)))))))))))))))))))))
def eF (bb kk : Int32) : Nat → eG × eG
  | 0 => ((fun _ _ _ _ _ => none), (fun _ _ _ _ _ => none))
  | d + 1 => ((fun S x1 x2 x3 x4 => eB0 ((eF bb kk d).2) x1 x2 x3 x4 S), (fun S x1 x2 x3 x4 => eR0 bb kk ((eF bb kk d).1) x1 x2 x3 x4 S))
def eM_isUnder_56 (S : (List Int32)) : Option ((List Int32) × Int32) :=
  xgd ((1 : Int32) = 0 ∨ (1 : Int32) = 1) (some (S, (1 : Int32)))
def eM_isUnder_60 (S : (List Int32)) : Option ((List Int32) × Int32) :=
  xgd ((0 : Int32) = 0 ∨ (0 : Int32) = 1) (some (S, (0 : Int32)))
def eM_isUnder_44 (x0 : Int32) (x1 : Int32) (S : (List Int32)) : Option ((List Int32) × Int32) :=
  if ¬ x1 = (6 : Int32) then (eM_isUnder_60 S) else (if ¬ x0 = (7 : Int32) then (eM_isUnder_60 S) else (eM_isUnder_56 S))
def eM_isUnder_34 (x0 : Int32) (x1 : Int32) (S : (List Int32)) : Option ((List Int32) × Int32) :=
  if ¬ x1 = (3 : Int32) then (eM_isUnder_44 x0 x1 S) else (if x0 = (5 : Int32) then (eM_isUnder_56 S) else (eM_isUnder_44 x0 x1 S))
def eM_isUnder_19 (x0 : Int32) (x1 : Int32) (S : (List Int32)) : Option ((List Int32) × Int32) :=
  if ¬ x1 = (2 : Int32) then (eM_isUnder_34 x0 x1 S) else (if x0 = (3 : Int32) then (eM_isUnder_56 S) else (if x0 = (5 : Int32) then (eM_isUnder_56 S) else (eM_isUnder_34 x0 x1 S)))
def eM_isUnder_0 (x0 : Int32) (x1 : Int32) (S : (List Int32)) : Option ((List Int32) × Int32) :=
  if x1 = 0 then (eM_isUnder_56 S) else (if x0 = x1 then (eM_isUnder_56 S) else (if ¬ x1 = (1 : Int32) then (eM_isUnder_19 x0 x1 S) else (if x0 = (4 : Int32) then (eM_isUnder_56 S) else (eM_isUnder_19 x0 x1 S))))
def eM_isUnder (S : (List Int32)) (x0 : Int32) (x1 : Int32) : Option ((List Int32) × Int32) := eM_isUnder_0 x0 x1 S
def eM_plainReads_0 (kk : Int32) (x1 : Int32) (x2 : Int32) (S : (List Int32)) : Option ((List Int32) × Int32) :=
  xob (eap S (1 : Int32)) (fun S_1 v_2 => xbd (x2 + x1) (fun v_3 => some (S_1, v_3)))
def eM_plainReads (kk : Int32) (S : (List Int32)) (x1 : Int32) (x2 : Int32) : Option ((List Int32) × Int32) := eM_plainReads_0 kk x1 x2 S
def eM_saltReads_0 (kk : Int32) (x1 : Int32) (x2 : Int32) (S : (List Int32)) : Option ((List Int32) × Int32) :=
  xob (eap S (70 : Int32)) (fun S_1 v_2 => xob (eM_plainReads kk S_1 x1 x2) (fun S_3 v_4 => xbd (v_4 * (2 : Int32)) (fun v_5 => some (S_3, v_5))))
def eM_saltReads (kk : Int32) (S : (List Int32)) (x1 : Int32) (x2 : Int32) : Option ((List Int32) × Int32) := eM_saltReads_0 kk x1 x2 S
def eM_reading_0 (kk : Int32) (x1 : Int32) (x2 : Int32) (S : (List Int32)) : Option ((List Int32) × Int32) :=
  xgd True (xbd kk (fun v_1 => xob (eM_isUnder S v_1 (1 : Int32)) (fun S_2 v_3 => if v_3 = 0 then (xgd True (xbd kk (fun v_5 => if ¬ v_5 = (7 : Int32) then (xgd True (xbd kk (fun v_7 => if ¬ v_7 = (6 : Int32) then (xob (eM_plainReads kk S_2 x1 x2) (fun S_9 v_10 => some (S_9, v_10))) else (xob (eM_saltReads kk S_2 x1 x2) (fun S_11 v_12 => some (S_11, v_12)))))) else (xob (eap S_2 (81 : Int32)) (fun S_13 v_14 => xob (eM_saltReads kk S_13 x1 x2) (fun S_15 v_16 => xbd (v_16 - (1 : Int32)) (fun v_17 => some (S_15, v_17)))))))) else (xob (eap S_2 (20 : Int32)) (fun S_18 v_19 => xob (eM_plainReads kk S_18 x1 x2) (fun S_20 v_21 => xbd (v_21 + (3 : Int32)) (fun v_22 => some (S_20, v_22))))))))
def eM_reading (kk : Int32) (S : (List Int32)) (x1 : Int32) (x2 : Int32) : Option ((List Int32) × Int32) := eM_reading_0 kk x1 x2 S
def eM_plainHeats_0 (kk : Int32) (x1 : Int32) (x2 : Int32) (S : (List Int32)) : Option ((List Int32) × Int32) :=
  xob (eap S (10 : Int32)) (fun S_1 v_2 => xob (eM_reading kk S_1 x1 x2) (fun S_3 v_4 => xbd (v_4 * (2 : Int32)) (fun v_5 => some (S_3, v_5))))
def eM_plainHeats (kk : Int32) (S : (List Int32)) (x1 : Int32) (x2 : Int32) : Option ((List Int32) × Int32) := eM_plainHeats_0 kk x1 x2 S
def eM_smokeHeats_0 (kk : Int32) (x1 : Int32) (x2 : Int32) (S : (List Int32)) : Option ((List Int32) × Int32) :=
  xob (eap S (30 : Int32)) (fun S_1 v_2 => xob (eM_plainHeats kk S_1 x1 x2) (fun S_3 v_4 => xbd (-v_4) (fun v_5 => some (S_3, v_5))))
def eM_smokeHeats (kk : Int32) (S : (List Int32)) (x1 : Int32) (x2 : Int32) : Option ((List Int32) × Int32) := eM_smokeHeats_0 kk x1 x2 S
def eM_plainOpens_0 (kk : Int32) (x1 : Int32) (x2 : Int32) (S : (List Int32)) : Option ((List Int32) × Int32) :=
  xob (eap S (11 : Int32)) (fun S_1 v_2 => xbd (x2 ^^^ x1) (fun v_3 => some (S_1, v_3)))
def eM_plainOpens (kk : Int32) (S : (List Int32)) (x1 : Int32) (x2 : Int32) : Option ((List Int32) × Int32) := eM_plainOpens_0 kk x1 x2 S
def eM_chimneyOpens_0 (kk : Int32) (x1 : Int32) (x2 : Int32) (S : (List Int32)) : Option ((List Int32) × Int32) :=
  xob (eap S (40 : Int32)) (fun S_1 v_2 => xob (eM_plainOpens kk S_1 x1 x2) (fun S_3 v_4 => xbd (v_4 * (3 : Int32)) (fun v_5 => some (S_3, v_5))))
def eM_chimneyOpens (kk : Int32) (S : (List Int32)) (x1 : Int32) (x2 : Int32) : Option ((List Int32) × Int32) := eM_chimneyOpens_0 kk x1 x2 S
def eM_opening_0 (kk : Int32) (x1 : Int32) (x2 : Int32) (S : (List Int32)) : Option ((List Int32) × Int32) :=
  xgd True (xbd kk (fun v_1 => if ¬ v_1 = (5 : Int32) then (xgd True (xbd kk (fun v_3 => if ¬ v_3 = (3 : Int32) then (xob (eM_plainOpens kk S x1 x2) (fun S_5 v_6 => some (S_5, v_6))) else (xob (eM_chimneyOpens kk S x1 x2) (fun S_7 v_8 => some (S_7, v_8)))))) else (xob (eap S (60 : Int32)) (fun S_9 v_10 => xob (eM_chimneyOpens kk S_9 x1 x2) (fun S_11 v_12 => xob (eM_reading kk S_11 x1 (2 : Int32)) (fun S_13 v_14 => xbd (v_12 - v_14) (fun v_15 => some (S_13, v_15))))))))
def eM_opening (kk : Int32) (S : (List Int32)) (x1 : Int32) (x2 : Int32) : Option ((List Int32) × Int32) := eM_opening_0 kk x1 x2 S
def eM_heating_0 (kk : Int32) (x1 : Int32) (x2 : Int32) (S : (List Int32)) : Option ((List Int32) × Int32) :=
  xgd True (xbd kk (fun v_1 => xob (eM_isUnder S v_1 (3 : Int32)) (fun S_2 v_3 => if v_3 = 0 then (xgd True (xbd kk (fun v_5 => if ¬ v_5 = (7 : Int32) then (xgd True (xbd kk (fun v_7 => if ¬ v_7 = (2 : Int32) then (xob (eM_plainHeats kk S_2 x1 x2) (fun S_9 v_10 => some (S_9, v_10))) else (xob (eM_smokeHeats kk S_2 x1 x2) (fun S_11 v_12 => some (S_11, v_12)))))) else (xob (eap S_2 (80 : Int32)) (fun S_13 v_14 => xob (eM_plainHeats kk S_13 x1 x2) (fun S_15 v_16 => xob (eM_opening kk S_15 x1 (2 : Int32)) (fun S_17 v_18 => xbd (v_16 + v_18) (fun v_19 => some (S_17, v_19))))))))) else (xob (eap S_2 (41 : Int32)) (fun S_20 v_21 => xbd (x2 + (1 : Int32)) (fun v_22 => xob (eM_smokeHeats kk S_20 x1 v_22) (fun S_23 v_24 => some (S_23, v_24))))))))
def eM_heating (kk : Int32) (S : (List Int32)) (x1 : Int32) (x2 : Int32) : Option ((List Int32) × Int32) := eM_heating_0 kk x1 x2 S
def eM_plainTells_0 (kk : Int32) (x1 : Int32) (x2 : Int32) (S : (List Int32)) : Option ((List Int32) × Int32) :=
  xob (eap S (2 : Int32)) (fun S_1 v_2 => xob (eM_heating kk S_1 x1 x2) (fun S_3 v_4 => xob (eM_opening kk S_3 x1 (1 : Int32)) (fun S_5 v_6 => xbd (v_4 - v_6) (fun v_7 => some (S_5, v_7)))))
def eM_plainTells (kk : Int32) (S : (List Int32)) (x1 : Int32) (x2 : Int32) : Option ((List Int32) × Int32) := eM_plainTells_0 kk x1 x2 S
def eM_telling_0 (kk : Int32) (x1 : Int32) (x2 : Int32) (S : (List Int32)) : Option ((List Int32) × Int32) :=
  xgd True (xbd kk (fun v_1 => if ¬ v_1 = (4 : Int32) then (xgd True (xbd kk (fun v_3 => if ¬ v_3 = (5 : Int32) then (xob (eM_plainTells kk S x1 x2) (fun S_5 v_6 => some (S_5, v_6))) else (xob (eap S (61 : Int32)) (fun S_7 v_8 => xob (eM_plainTells kk S_7 x1 x2) (fun S_9 v_10 => xbd (v_10 + (1 : Int32)) (fun v_11 => some (S_9, v_11)))))))) else (xob (eap S (50 : Int32)) (fun S_12 v_13 => xob (eM_plainTells kk S_12 x1 x2) (fun S_14 v_15 => xbd (v_15 ^^^ (5 : Int32)) (fun v_16 => some (S_14, v_16)))))))
def eM_telling (kk : Int32) (S : (List Int32)) (x1 : Int32) (x2 : Int32) : Option ((List Int32) × Int32) := eM_telling_0 kk x1 x2 S
def sm {α β : Type} (R : α → β → Prop) (a : Option α) (b : Option β) : Prop := ∀ q, a = some q → ∃ r, b = some r ∧ R q r
def sR {σ τ α : Type} (T : σ → τ → Prop) (q : σ × α) (r : τ × α) : Prop := T q.1 r.1 ∧ q.2 = r.2
theorem sm_some {α β : Type} {R : α → β → Prop} {q : α} {r : β} (h : R q r) : sm R (some q) (some r) := fun _ e => by cases e; exact ⟨_, rfl, h⟩
theorem sm_ret {σ τ α : Type} {T : σ → τ → Prop} {L : σ} {S : τ} {v : α} (h : T L S) : sm (sR T) (some (L, v)) (some (S, v)) := sm_some ⟨h, rfl⟩
theorem sm_bd {α β γ : Type} {R : α → β → Prop} {x : γ} {ke : γ → Option α} {kx : γ → Option β} (h : sm R (ke x) (kx x)) : sm R (xbd x ke) (xbd x kx) := h
theorem sm_bd2 {α β γ : Type} {R : α → β → Prop} {x x' : γ} {ke : γ → Option α} {kx : γ → Option β} (e : x = x') (h : sm R (ke x) (kx x)) : sm R (xbd x ke) (xbd x' kx) := by subst e; exact h
theorem sm_gd {α β : Type} {R : α → β → Prop} {c : Prop} {d d' : Decidable c} {a : Option α} {b : Option β} (h : sm R a b) : sm R (@xgd α c d a) (@xgd β c d' b) := by
  intro q e
  unfold xgd at e ⊢
  by_cases hc : c
  · rw [if_pos hc] at e ⊢; exact h q e
  · rw [if_neg hc] at e; cases e
theorem sm_gdT {α β : Type} {R : α → β → Prop} {c : Prop} {d : Decidable True} {d' : Decidable c} {a : Option α} {b : Option β} (hc : c) (h : sm R a b) : sm R (@xgd α True d a) (@xgd β c d' b) := by
  intro q e
  unfold xgd at e ⊢
  rw [if_pos trivial] at e
  rw [if_pos hc]
  exact h q e
theorem sm_if {α β : Type} {R : α → β → Prop} {c : Prop} {d d' : Decidable c} {a a' : Option α} {b b' : Option β} (h : sm R a b) (h' : sm R a' b') : sm R (@ite _ c d a a') (@ite _ c d' b b') := by
  by_cases hc : c
  · rw [if_pos hc, if_pos hc]; exact h
  · rw [if_neg hc, if_neg hc]; exact h'
theorem sm_ob {σ τ α β γ : Type} {T : σ → τ → Prop} {R : β → γ → Prop} {oe : Option (σ × α)} {ox : Option (τ × α)} {ke : σ → α → Option β} {kx : τ → α → Option γ} (h : sm (sR T) oe ox) (h2 : ∀ L S v, T L S → sm R (ke L v) (kx S v)) : sm R (xob oe ke) (xob ox kx) := by
  intro q e
  cases oe with
  | none => cases e
  | some p =>
    obtain ⟨r, er, h1, h3⟩ := h p rfl
    subst er
    obtain ⟨r1, r2⟩ := r
    dsimp only at h1 h3
    subst h3
    exact h2 _ _ _ h1 q e
def sS {σ τ α β : Type} (I : σ → τ → Prop) (R : α → β → Prop) : σ ⊕ α → τ ⊕ β → Prop
  | .inl s, .inl t => I s t
  | .inr a, .inr b => R a b
  | _, _ => False
theorem sm_mr {σ τ α β : Type} {I : σ → τ → Prop} {R : α → β → Prop} {a : Option α} {b : Option β} (h : sm R a b) : sm (sS I R) (xmr a) (xmr b) := by
  intro q e
  cases a with
  | none => cases e
  | some p =>
    obtain ⟨r, er, h1⟩ := h p rfl
    subst er
    cases e
    exact ⟨_, rfl, h1⟩
theorem sm_lp {σ τ α β : Type} {I : σ → τ → Prop} {R : α → β → Prop} {fe : σ → Option (σ ⊕ α)} {fx : τ → Option (τ ⊕ β)} (h : ∀ s t, I s t → sm (sS I R) (fe s) (fx t)) : ∀ (n : Nat) (s : σ) (t : τ), I s t → sm R (xlp fe n s) (xlp fx n t) := by
  intro n
  induction n with
  | zero => intro s t _ q e; cases e
  | succ n ih =>
    intro s t hI q e
    have g := h s t hI
    unfold xlp at e ⊢
    cases hb : fe s with
    | none => rw [hb] at e; cases e
    | some p =>
      rw [hb] at e
      obtain ⟨r, er, h1⟩ := g p hb
      rw [er]
      cases p with
      | inl s' =>
        cases r with
        | inl t' => exact ih s' t' h1 q e
        | inr b => exact absurd h1 (by unfold sS; exact fun h => h)
      | inr a =>
        cases r with
        | inl t' => exact absurd h1 (by unfold sS; exact fun h => h)
        | inr b =>
          cases e
          exact ⟨b, rfl, h1⟩
/-- the class's trace is the list -/
def tX (S0 : xSt) (L : List Int32) (S : xSt) : Prop := S.2 = S0.2 ∧ L.length ≤ 900 ∧ S.1 101 3 = ki (L.length : Int) ∧ (∀ z : Nat, z < 24 → z < L.length → S.1 103 z = L.getD z 0) ∧ ∀ k j, ¬ (k = 103 ∨ (k = 101 ∧ j = 3)) → S.1 k j = S0.1 k j
def tM (S0 : xSt) (L : List Int32) (S : xSt) : Prop := S.2 = S0.2 ∧ L.length ≤ 900 ∧ S.1 0 55 = ki (L.length : Int) ∧ (∀ z : Nat, z < 24 → z < L.length → S.1 36 z = L.getD z 0) ∧ ∀ k j, ¬ (k = 36 ∨ (k = 0 ∧ j = 55)) → S.1 k j = S0.1 k j
theorem gd_app (L : List Int32) (c : Int32) (z : Nat) (hz : z < L.length + 1) : (L ++ [c]).getD z 0 = if z < L.length then L.getD z 0 else c := by
  by_cases h : z < L.length
  · rw [if_pos h, List.getD_eq_getElem?_getD, List.getD_eq_getElem?_getD, List.getElem?_append_left h]
  · rw [if_neg h, List.getD_eq_getElem?_getD, List.getElem?_append_right (by omega), show z - L.length = 0 by omega]; rfl
theorem m_ran {S0 S : xSt} {L : List Int32} {c : Int32} (h : tM S0 L S) : sm (sR (tM S0)) (eap L c) (f_X12_ran S c) := by
  obtain ⟨h1, h2, h3, h4, h5⟩ := h
  intro q e
  unfold eap at e
  by_cases hl : L.length < 900
  · rw [if_pos hl] at e
    cases e
    have g : wp (f_X12_ran S c) (fun r => tM S0 (L ++ [c]) r.1) := by
      unfold f_X12_ran f_X12_ran_0 f_X12_ran_19
      have hn : (0 : Int) ≤ (L.length : Int) := Int.natCast_nonneg _
      by_cases h24 : L.length < 24
      · repeat' first
          | with_reducible apply wp_bd
            · (try simp (disch := omega) only [bi, Int.add_zero, Int.zero_add, true_or, or_true, true_and, and_true, not_false_eq_true, not_true_eq_false, if_true, if_false, if_pos, if_neg, ki_add, ki_sub, ki_mul, ki_neg, ki_lt, ki_le, ki_eq, ki_cl, ki_div, ki_ite, ck5, kl_0, kl_1, kl_2, kl_3, kl_4, kl_5, kl_6, kl_7, kl_8, kl_9, kl_10, kl_11, kl_12, kl_13, kl_14, kl_16, kl_20, kl_21, kl_24, kl_29, kl_30, kl_31, kl_33, kl_35, kl_37, kl_38, kl_39, kl_40, kl_41, kl_42, kl_43, kl_44, kl_45, kl_46, kl_47, kl_48, kl_49, kl_50, kl_51, kl_52, kl_53, kl_54, kl_55, kl_56, kl_57, kl_58, kl_59, kl_60, kl_61, kl_62, kl_63, kl_64, kl_70, kl_80, kl_81, kl_97, kl_98, kl_99, kl_100, kl_101, kl_102, kl_103, kl_104, kl_105, kl_106, kl_107, kl_108, kl_109, kl_110, kl_111, kl_112, kl_113, kl_114, kl_115, kl_120, kl_124, kl_126, kl_130, kl_255, kl_720, kl_2048, kl_10000, kl_12345, kl_252645135, kl_858993459, kl_1103515245, kl_1431655765, kl_1640531535, kl_2000000000, h3, xsi_r])
              rfl
          | with_reducible apply wp_in
            · (try simp (disch := omega) only [bi, Int.add_zero, Int.zero_add, true_or, or_true, true_and, and_true, not_false_eq_true, not_true_eq_false, if_true, if_false, if_pos, if_neg, ki_add, ki_sub, ki_mul, ki_neg, ki_lt, ki_le, ki_eq, ki_cl, ki_div, ki_ite, ck5, kl_0, kl_1, kl_2, kl_3, kl_4, kl_5, kl_6, kl_7, kl_8, kl_9, kl_10, kl_11, kl_12, kl_13, kl_14, kl_16, kl_20, kl_21, kl_24, kl_29, kl_30, kl_31, kl_33, kl_35, kl_37, kl_38, kl_39, kl_40, kl_41, kl_42, kl_43, kl_44, kl_45, kl_46, kl_47, kl_48, kl_49, kl_50, kl_51, kl_52, kl_53, kl_54, kl_55, kl_56, kl_57, kl_58, kl_59, kl_60, kl_61, kl_62, kl_63, kl_64, kl_70, kl_80, kl_81, kl_97, kl_98, kl_99, kl_100, kl_101, kl_102, kl_103, kl_104, kl_105, kl_106, kl_107, kl_108, kl_109, kl_110, kl_111, kl_112, kl_113, kl_114, kl_115, kl_120, kl_124, kl_126, kl_130, kl_255, kl_720, kl_2048, kl_10000, kl_12345, kl_252645135, kl_858993459, kl_1103515245, kl_1431655765, kl_1640531535, kl_2000000000, h3, xsi_r])
              rfl
            · decide
            · omega
            · omega
          | with_reducible apply wp_gd
            · (try simp (disch := omega) only [bi, Int.add_zero, Int.zero_add, true_or, or_true, true_and, and_true, not_false_eq_true, not_true_eq_false, if_true, if_false, if_pos, if_neg, ki_add, ki_sub, ki_mul, ki_neg, ki_lt, ki_le, ki_eq, ki_cl, ki_div, ki_ite, ck5, kl_0, kl_1, kl_2, kl_3, kl_4, kl_5, kl_6, kl_7, kl_8, kl_9, kl_10, kl_11, kl_12, kl_13, kl_14, kl_16, kl_20, kl_21, kl_24, kl_29, kl_30, kl_31, kl_33, kl_35, kl_37, kl_38, kl_39, kl_40, kl_41, kl_42, kl_43, kl_44, kl_45, kl_46, kl_47, kl_48, kl_49, kl_50, kl_51, kl_52, kl_53, kl_54, kl_55, kl_56, kl_57, kl_58, kl_59, kl_60, kl_61, kl_62, kl_63, kl_64, kl_70, kl_80, kl_81, kl_97, kl_98, kl_99, kl_100, kl_101, kl_102, kl_103, kl_104, kl_105, kl_106, kl_107, kl_108, kl_109, kl_110, kl_111, kl_112, kl_113, kl_114, kl_115, kl_120, kl_124, kl_126, kl_130, kl_255, kl_720, kl_2048, kl_10000, kl_12345, kl_252645135, kl_858993459, kl_1103515245, kl_1431655765, kl_1640531535, kl_2000000000, h3, xsi_r])
              rfl
            · first | exact True.intro | omega | assumption
          | with_reducible apply wp_is
            · (try simp (disch := omega) only [bi, Int.add_zero, Int.zero_add, true_or, or_true, true_and, and_true, not_false_eq_true, not_true_eq_false, if_true, if_false, if_pos, if_neg, ki_add, ki_sub, ki_mul, ki_neg, ki_lt, ki_le, ki_eq, ki_cl, ki_div, ki_ite, ck5, kl_0, kl_1, kl_2, kl_3, kl_4, kl_5, kl_6, kl_7, kl_8, kl_9, kl_10, kl_11, kl_12, kl_13, kl_14, kl_16, kl_20, kl_21, kl_24, kl_29, kl_30, kl_31, kl_33, kl_35, kl_37, kl_38, kl_39, kl_40, kl_41, kl_42, kl_43, kl_44, kl_45, kl_46, kl_47, kl_48, kl_49, kl_50, kl_51, kl_52, kl_53, kl_54, kl_55, kl_56, kl_57, kl_58, kl_59, kl_60, kl_61, kl_62, kl_63, kl_64, kl_70, kl_80, kl_81, kl_97, kl_98, kl_99, kl_100, kl_101, kl_102, kl_103, kl_104, kl_105, kl_106, kl_107, kl_108, kl_109, kl_110, kl_111, kl_112, kl_113, kl_114, kl_115, kl_120, kl_124, kl_126, kl_130, kl_255, kl_720, kl_2048, kl_10000, kl_12345, kl_252645135, kl_858993459, kl_1103515245, kl_1431655765, kl_1640531535, kl_2000000000, h3, xsi_r])
              rfl
            all_goals intro _
            all_goals try (exfalso; first | (rename_i q; exact q trivial) | (rename_i q; exact q) | omega)
          | with_reducible apply wp_mr
          | with_reducible apply wp_b
            · simp (disch := omega) only [Int.add_zero, Int.zero_add, true_or, or_true, true_and, and_true, not_false_eq_true, not_true_eq_false, if_true, if_false, if_pos, if_neg, ki_add, ki_sub, ki_mul, ki_neg, ki_lt, ki_le, ki_eq, ki_cl, ki_div, ki_ite, ck5, kl_0, kl_1, kl_2, kl_3, kl_4, kl_5, kl_6, kl_7, kl_8, kl_9, kl_10, kl_11, kl_12, kl_13, kl_14, kl_16, kl_20, kl_21, kl_24, kl_29, kl_30, kl_31, kl_33, kl_35, kl_37, kl_38, kl_39, kl_40, kl_41, kl_42, kl_43, kl_44, kl_45, kl_46, kl_47, kl_48, kl_49, kl_50, kl_51, kl_52, kl_53, kl_54, kl_55, kl_56, kl_57, kl_58, kl_59, kl_60, kl_61, kl_62, kl_63, kl_64, kl_70, kl_80, kl_81, kl_97, kl_98, kl_99, kl_100, kl_101, kl_102, kl_103, kl_104, kl_105, kl_106, kl_107, kl_108, kl_109, kl_110, kl_111, kl_112, kl_113, kl_114, kl_115, kl_120, kl_124, kl_126, kl_130, kl_255, kl_720, kl_2048, kl_10000, kl_12345, kl_252645135, kl_858993459, kl_1103515245, kl_1431655765, kl_1640531535, kl_2000000000, h3, xsi_r]
              rfl
            all_goals intro _
            all_goals try (exfalso; first | (rename_i q; exact q trivial) | (rename_i q; exact q) | omega)
          | with_reducible apply wp_oe
            · simp (disch := omega) only [Int.add_zero, Int.zero_add, true_or, or_true, true_and, and_true, not_false_eq_true, not_true_eq_false, if_true, if_false, if_pos, if_neg, ki_add, ki_sub, ki_mul, ki_neg, ki_lt, ki_le, ki_eq, ki_cl, ki_div, ki_ite, ck5, kl_0, kl_1, kl_2, kl_3, kl_4, kl_5, kl_6, kl_7, kl_8, kl_9, kl_10, kl_11, kl_12, kl_13, kl_14, kl_16, kl_20, kl_21, kl_24, kl_29, kl_30, kl_31, kl_33, kl_35, kl_37, kl_38, kl_39, kl_40, kl_41, kl_42, kl_43, kl_44, kl_45, kl_46, kl_47, kl_48, kl_49, kl_50, kl_51, kl_52, kl_53, kl_54, kl_55, kl_56, kl_57, kl_58, kl_59, kl_60, kl_61, kl_62, kl_63, kl_64, kl_70, kl_80, kl_81, kl_97, kl_98, kl_99, kl_100, kl_101, kl_102, kl_103, kl_104, kl_105, kl_106, kl_107, kl_108, kl_109, kl_110, kl_111, kl_112, kl_113, kl_114, kl_115, kl_120, kl_124, kl_126, kl_130, kl_255, kl_720, kl_2048, kl_10000, kl_12345, kl_252645135, kl_858993459, kl_1103515245, kl_1431655765, kl_1640531535, kl_2000000000, h3, xsi_r]
              try rfl
          | with_reducible apply wp_sv
            · (try simp (disch := omega) only [bi, Int.add_zero, Int.zero_add, true_or, or_true, true_and, and_true, not_false_eq_true, not_true_eq_false, if_true, if_false, if_pos, if_neg, ki_add, ki_sub, ki_mul, ki_neg, ki_lt, ki_le, ki_eq, ki_cl, ki_div, ki_ite, ck5, kl_0, kl_1, kl_2, kl_3, kl_4, kl_5, kl_6, kl_7, kl_8, kl_9, kl_10, kl_11, kl_12, kl_13, kl_14, kl_16, kl_20, kl_21, kl_24, kl_29, kl_30, kl_31, kl_33, kl_35, kl_37, kl_38, kl_39, kl_40, kl_41, kl_42, kl_43, kl_44, kl_45, kl_46, kl_47, kl_48, kl_49, kl_50, kl_51, kl_52, kl_53, kl_54, kl_55, kl_56, kl_57, kl_58, kl_59, kl_60, kl_61, kl_62, kl_63, kl_64, kl_70, kl_80, kl_81, kl_97, kl_98, kl_99, kl_100, kl_101, kl_102, kl_103, kl_104, kl_105, kl_106, kl_107, kl_108, kl_109, kl_110, kl_111, kl_112, kl_113, kl_114, kl_115, kl_120, kl_124, kl_126, kl_130, kl_255, kl_720, kl_2048, kl_10000, kl_12345, kl_252645135, kl_858993459, kl_1103515245, kl_1431655765, kl_1640531535, kl_2000000000, h3, xsi_r])
              rfl
          | with_reducible apply wp_so
        refine ⟨h1, by rw [List.length_append]; exact hl, ?_, fun z z0 z1 => ?_, fun k j hk => ?_⟩
        · rw [xsi_r, if_pos ⟨rfl, rfl⟩, List.length_append]; rfl
        · rw [List.length_append] at z1
          rw [gd_app _ _ _ z1, xsi_r, if_neg (by omega), xsi_r]
          by_cases e : z < L.length
          · rw [if_neg (by omega), if_pos e]; exact h4 z z0 e
          · have ez : z = L.length := by have : [c].length = 1 := rfl; omega
            rw [if_pos (by omega), if_neg e]
        · rw [xsi_r, if_neg (by omega), xsi_r, if_neg (by omega)]; exact h5 k j hk
      · repeat' first
          | with_reducible apply wp_bd
            · (try simp (disch := omega) only [bi, Int.add_zero, Int.zero_add, true_or, or_true, true_and, and_true, not_false_eq_true, not_true_eq_false, if_true, if_false, if_pos, if_neg, ki_add, ki_sub, ki_mul, ki_neg, ki_lt, ki_le, ki_eq, ki_cl, ki_div, ki_ite, ck5, kl_0, kl_1, kl_2, kl_3, kl_4, kl_5, kl_6, kl_7, kl_8, kl_9, kl_10, kl_11, kl_12, kl_13, kl_14, kl_16, kl_20, kl_21, kl_24, kl_29, kl_30, kl_31, kl_33, kl_35, kl_37, kl_38, kl_39, kl_40, kl_41, kl_42, kl_43, kl_44, kl_45, kl_46, kl_47, kl_48, kl_49, kl_50, kl_51, kl_52, kl_53, kl_54, kl_55, kl_56, kl_57, kl_58, kl_59, kl_60, kl_61, kl_62, kl_63, kl_64, kl_70, kl_80, kl_81, kl_97, kl_98, kl_99, kl_100, kl_101, kl_102, kl_103, kl_104, kl_105, kl_106, kl_107, kl_108, kl_109, kl_110, kl_111, kl_112, kl_113, kl_114, kl_115, kl_120, kl_124, kl_126, kl_130, kl_255, kl_720, kl_2048, kl_10000, kl_12345, kl_252645135, kl_858993459, kl_1103515245, kl_1431655765, kl_1640531535, kl_2000000000, h3, xsi_r])
              rfl
          | with_reducible apply wp_in
            · (try simp (disch := omega) only [bi, Int.add_zero, Int.zero_add, true_or, or_true, true_and, and_true, not_false_eq_true, not_true_eq_false, if_true, if_false, if_pos, if_neg, ki_add, ki_sub, ki_mul, ki_neg, ki_lt, ki_le, ki_eq, ki_cl, ki_div, ki_ite, ck5, kl_0, kl_1, kl_2, kl_3, kl_4, kl_5, kl_6, kl_7, kl_8, kl_9, kl_10, kl_11, kl_12, kl_13, kl_14, kl_16, kl_20, kl_21, kl_24, kl_29, kl_30, kl_31, kl_33, kl_35, kl_37, kl_38, kl_39, kl_40, kl_41, kl_42, kl_43, kl_44, kl_45, kl_46, kl_47, kl_48, kl_49, kl_50, kl_51, kl_52, kl_53, kl_54, kl_55, kl_56, kl_57, kl_58, kl_59, kl_60, kl_61, kl_62, kl_63, kl_64, kl_70, kl_80, kl_81, kl_97, kl_98, kl_99, kl_100, kl_101, kl_102, kl_103, kl_104, kl_105, kl_106, kl_107, kl_108, kl_109, kl_110, kl_111, kl_112, kl_113, kl_114, kl_115, kl_120, kl_124, kl_126, kl_130, kl_255, kl_720, kl_2048, kl_10000, kl_12345, kl_252645135, kl_858993459, kl_1103515245, kl_1431655765, kl_1640531535, kl_2000000000, h3, xsi_r])
              rfl
            · decide
            · omega
            · omega
          | with_reducible apply wp_gd
            · (try simp (disch := omega) only [bi, Int.add_zero, Int.zero_add, true_or, or_true, true_and, and_true, not_false_eq_true, not_true_eq_false, if_true, if_false, if_pos, if_neg, ki_add, ki_sub, ki_mul, ki_neg, ki_lt, ki_le, ki_eq, ki_cl, ki_div, ki_ite, ck5, kl_0, kl_1, kl_2, kl_3, kl_4, kl_5, kl_6, kl_7, kl_8, kl_9, kl_10, kl_11, kl_12, kl_13, kl_14, kl_16, kl_20, kl_21, kl_24, kl_29, kl_30, kl_31, kl_33, kl_35, kl_37, kl_38, kl_39, kl_40, kl_41, kl_42, kl_43, kl_44, kl_45, kl_46, kl_47, kl_48, kl_49, kl_50, kl_51, kl_52, kl_53, kl_54, kl_55, kl_56, kl_57, kl_58, kl_59, kl_60, kl_61, kl_62, kl_63, kl_64, kl_70, kl_80, kl_81, kl_97, kl_98, kl_99, kl_100, kl_101, kl_102, kl_103, kl_104, kl_105, kl_106, kl_107, kl_108, kl_109, kl_110, kl_111, kl_112, kl_113, kl_114, kl_115, kl_120, kl_124, kl_126, kl_130, kl_255, kl_720, kl_2048, kl_10000, kl_12345, kl_252645135, kl_858993459, kl_1103515245, kl_1431655765, kl_1640531535, kl_2000000000, h3, xsi_r])
              rfl
            · first | exact True.intro | omega | assumption
          | with_reducible apply wp_is
            · (try simp (disch := omega) only [bi, Int.add_zero, Int.zero_add, true_or, or_true, true_and, and_true, not_false_eq_true, not_true_eq_false, if_true, if_false, if_pos, if_neg, ki_add, ki_sub, ki_mul, ki_neg, ki_lt, ki_le, ki_eq, ki_cl, ki_div, ki_ite, ck5, kl_0, kl_1, kl_2, kl_3, kl_4, kl_5, kl_6, kl_7, kl_8, kl_9, kl_10, kl_11, kl_12, kl_13, kl_14, kl_16, kl_20, kl_21, kl_24, kl_29, kl_30, kl_31, kl_33, kl_35, kl_37, kl_38, kl_39, kl_40, kl_41, kl_42, kl_43, kl_44, kl_45, kl_46, kl_47, kl_48, kl_49, kl_50, kl_51, kl_52, kl_53, kl_54, kl_55, kl_56, kl_57, kl_58, kl_59, kl_60, kl_61, kl_62, kl_63, kl_64, kl_70, kl_80, kl_81, kl_97, kl_98, kl_99, kl_100, kl_101, kl_102, kl_103, kl_104, kl_105, kl_106, kl_107, kl_108, kl_109, kl_110, kl_111, kl_112, kl_113, kl_114, kl_115, kl_120, kl_124, kl_126, kl_130, kl_255, kl_720, kl_2048, kl_10000, kl_12345, kl_252645135, kl_858993459, kl_1103515245, kl_1431655765, kl_1640531535, kl_2000000000, h3, xsi_r])
              rfl
            all_goals intro _
            all_goals try (exfalso; first | (rename_i q; exact q trivial) | (rename_i q; exact q) | omega)
          | with_reducible apply wp_mr
          | with_reducible apply wp_b
            · simp (disch := omega) only [Int.add_zero, Int.zero_add, true_or, or_true, true_and, and_true, not_false_eq_true, not_true_eq_false, if_true, if_false, if_pos, if_neg, ki_add, ki_sub, ki_mul, ki_neg, ki_lt, ki_le, ki_eq, ki_cl, ki_div, ki_ite, ck5, kl_0, kl_1, kl_2, kl_3, kl_4, kl_5, kl_6, kl_7, kl_8, kl_9, kl_10, kl_11, kl_12, kl_13, kl_14, kl_16, kl_20, kl_21, kl_24, kl_29, kl_30, kl_31, kl_33, kl_35, kl_37, kl_38, kl_39, kl_40, kl_41, kl_42, kl_43, kl_44, kl_45, kl_46, kl_47, kl_48, kl_49, kl_50, kl_51, kl_52, kl_53, kl_54, kl_55, kl_56, kl_57, kl_58, kl_59, kl_60, kl_61, kl_62, kl_63, kl_64, kl_70, kl_80, kl_81, kl_97, kl_98, kl_99, kl_100, kl_101, kl_102, kl_103, kl_104, kl_105, kl_106, kl_107, kl_108, kl_109, kl_110, kl_111, kl_112, kl_113, kl_114, kl_115, kl_120, kl_124, kl_126, kl_130, kl_255, kl_720, kl_2048, kl_10000, kl_12345, kl_252645135, kl_858993459, kl_1103515245, kl_1431655765, kl_1640531535, kl_2000000000, h3, xsi_r]
              rfl
            all_goals intro _
            all_goals try (exfalso; first | (rename_i q; exact q trivial) | (rename_i q; exact q) | omega)
          | with_reducible apply wp_oe
            · simp (disch := omega) only [Int.add_zero, Int.zero_add, true_or, or_true, true_and, and_true, not_false_eq_true, not_true_eq_false, if_true, if_false, if_pos, if_neg, ki_add, ki_sub, ki_mul, ki_neg, ki_lt, ki_le, ki_eq, ki_cl, ki_div, ki_ite, ck5, kl_0, kl_1, kl_2, kl_3, kl_4, kl_5, kl_6, kl_7, kl_8, kl_9, kl_10, kl_11, kl_12, kl_13, kl_14, kl_16, kl_20, kl_21, kl_24, kl_29, kl_30, kl_31, kl_33, kl_35, kl_37, kl_38, kl_39, kl_40, kl_41, kl_42, kl_43, kl_44, kl_45, kl_46, kl_47, kl_48, kl_49, kl_50, kl_51, kl_52, kl_53, kl_54, kl_55, kl_56, kl_57, kl_58, kl_59, kl_60, kl_61, kl_62, kl_63, kl_64, kl_70, kl_80, kl_81, kl_97, kl_98, kl_99, kl_100, kl_101, kl_102, kl_103, kl_104, kl_105, kl_106, kl_107, kl_108, kl_109, kl_110, kl_111, kl_112, kl_113, kl_114, kl_115, kl_120, kl_124, kl_126, kl_130, kl_255, kl_720, kl_2048, kl_10000, kl_12345, kl_252645135, kl_858993459, kl_1103515245, kl_1431655765, kl_1640531535, kl_2000000000, h3, xsi_r]
              try rfl
          | with_reducible apply wp_sv
            · (try simp (disch := omega) only [bi, Int.add_zero, Int.zero_add, true_or, or_true, true_and, and_true, not_false_eq_true, not_true_eq_false, if_true, if_false, if_pos, if_neg, ki_add, ki_sub, ki_mul, ki_neg, ki_lt, ki_le, ki_eq, ki_cl, ki_div, ki_ite, ck5, kl_0, kl_1, kl_2, kl_3, kl_4, kl_5, kl_6, kl_7, kl_8, kl_9, kl_10, kl_11, kl_12, kl_13, kl_14, kl_16, kl_20, kl_21, kl_24, kl_29, kl_30, kl_31, kl_33, kl_35, kl_37, kl_38, kl_39, kl_40, kl_41, kl_42, kl_43, kl_44, kl_45, kl_46, kl_47, kl_48, kl_49, kl_50, kl_51, kl_52, kl_53, kl_54, kl_55, kl_56, kl_57, kl_58, kl_59, kl_60, kl_61, kl_62, kl_63, kl_64, kl_70, kl_80, kl_81, kl_97, kl_98, kl_99, kl_100, kl_101, kl_102, kl_103, kl_104, kl_105, kl_106, kl_107, kl_108, kl_109, kl_110, kl_111, kl_112, kl_113, kl_114, kl_115, kl_120, kl_124, kl_126, kl_130, kl_255, kl_720, kl_2048, kl_10000, kl_12345, kl_252645135, kl_858993459, kl_1103515245, kl_1431655765, kl_1640531535, kl_2000000000, h3, xsi_r])
              rfl
          | with_reducible apply wp_so
        refine ⟨h1, by rw [List.length_append]; exact hl, ?_, fun z z0 z1 => ?_, fun k j hk => ?_⟩
        · rw [xsi_r, if_pos ⟨rfl, rfl⟩, List.length_append]; rfl
        · rw [List.length_append] at z1
          rw [gd_app _ _ _ z1, xsi_r, if_neg (by omega), if_pos (by omega)]; exact h4 z z0 (by omega)
        · rw [xsi_r, if_neg (by omega)]; exact h5 k j hk
    obtain ⟨r, er, hr⟩ := g
    exact ⟨r, er, hr, rfl⟩
  · rw [if_neg hl] at e; cases e
theorem xin_t' {z : Int} {n : Nat} (h0 : 0 ≤ z) (hn : n ≤ 2147483648) (h1 : z < (n : Int)) : xin (ki z) n := by
  by_cases hc : xin (ki z) n
  · exact hc
  · exfalso
    have g : wp (xgd (xin (ki z) n) (some ())) (fun _ => True) := wp_in rfl hn h0 h1 ⟨(), rfl, trivial⟩
    obtain ⟨r, er, _⟩ := g
    unfold xgd at er
    rw [if_neg hc] at er
    cases er
theorem x_log {S0 S : xSt} {L : List Int32} {c x3 x4 x5 : Int32} {gb gr : xSt → Int32 → Int32 → Int32 → Int32 → Option (xSt × Int32)} {R : (List Int32 × Int32) → (xSt × Int32) → Prop} {ke : List Int32 → Option (List Int32 × Int32)} (h : tX S0 L S) (hk : ∀ L' S', tX S0 L' S' → sm R (ke L') (xbd (x4 + (1 : Int32)) (fun v_4 => xob (gr S' c x5 x3 v_4) (fun S_5 v_6 => some (S_5, v_6))))) :
    sm R (xob (eap L c) (fun L' _ => ke L')) (xbd (S.1 101 3) (fun v_6 => if (24 : Int32) ≤ v_6 then (f_X0_begin_91 gb gr x3 x4 x5 c S) else (xbd (S.1 101 3) (fun v_8 => xgd (xin v_8 24) (xbd (xsi S 103 v_8.toNatClampNeg c) (fun S_9 => f_X0_begin_91 gb gr x3 x4 x5 c S_9)))))) := by
  obtain ⟨h1, h2, h3, h4, h5⟩ := h
  intro q e
  unfold eap at e
  have hn : (0 : Int) ≤ (L.length : Int) := Int.natCast_nonneg _
  have e24 : (24 : Int32) = ki 24 := rfl
  have e1 : (1 : Int32) = ki 1 := rfl
  by_cases hl : L.length < 900
  · rw [if_pos hl] at e
    have e' : ke (L ++ [c]) = some q := e
    unfold f_X0_begin_91
    by_cases h24 : L.length < 24
    · have T : tX S0 (L ++ [c]) (xsi (xsi S 103 L.length c) 101 3 (ki ((L.length : Int) + 1))) := by
        refine ⟨h1, by rw [List.length_append]; exact hl, ?_, fun z z0 z1 => ?_, fun k j hk => ?_⟩
        · rw [xsi_r, if_pos ⟨rfl, rfl⟩, List.length_append]; rfl
        · rw [List.length_append] at z1
          rw [gd_app _ _ _ z1, xsi_r, if_neg (by omega), xsi_r]
          by_cases e : z < L.length
          · rw [if_neg (by omega), if_pos e]; exact h4 z z0 e
          · have ez : z = L.length := by have : [c].length = 1 := rfl; omega
            rw [if_pos (by omega), if_neg e]
        · rw [xsi_r, if_neg (by omega), xsi_r, if_neg (by omega)]; exact h5 k j hk
      obtain ⟨r, er, hr⟩ := hk _ _ T q e'
      refine ⟨r, ?_, hr⟩
      rw [← er]
      show (if (24 : Int32) ≤ S.1 101 3 then _ else xgd (xin (S.1 101 3) 24) _) = _
      rw [if_neg (by rw [h3, e24, ki_le (by omega) (by omega) (by omega) (by omega)]; omega)]
      rw [h3, xgd_t (xin_t' (by omega) (by omega) (by omega))]
      simp only [xbd]
      rw [ki_cl (by omega) (by omega), xsi_r, if_neg (by omega), h3, e1, ki_add]
      rfl
    · have T : tX S0 (L ++ [c]) (xsi S 101 3 (ki ((L.length : Int) + 1))) := by
        refine ⟨h1, by rw [List.length_append]; exact hl, ?_, fun z z0 z1 => ?_, fun k j hk => ?_⟩
        · rw [xsi_r, if_pos ⟨rfl, rfl⟩, List.length_append]; rfl
        · rw [List.length_append] at z1
          rw [gd_app _ _ _ z1, xsi_r, if_neg (by omega), if_pos (by omega)]; exact h4 z z0 (by omega)
        · rw [xsi_r, if_neg (by omega)]; exact h5 k j hk
      obtain ⟨r, er, hr⟩ := hk _ _ T q e'
      refine ⟨r, ?_, hr⟩
      rw [← er]
      show (if (24 : Int32) ≤ S.1 101 3 then _ else _) = _
      rw [if_pos (by rw [h3, e24, ki_le (by omega) (by omega) (by omega) (by omega)]; omega)]
      simp only [xbd]
      rw [h3, e1, ki_add]
  · rw [if_neg hl] at e; cases e
theorem sm_45 {S0 S : xSt} {L : List Int32} {x2 x3 x4 x5 : Int32} {gb gr : xSt → Int32 → Int32 → Int32 → Int32 → Option (xSt × Int32)} {er : eG} (hr : ∀ L S x1 x2 x3 x4, tX S0 L S → sm (sR (tX S0)) (er L x1 x2 x3 x4) (gr S x1 x2 x3 x4)) (h : tX S0 L S) : sm (sR (tX S0)) (e45 er x2 x3 x4 x5 L) (f_X0_begin_45 gb gr x2 x3 x4 x5 S) := by
  unfold e45 f_X0_begin_45
  refine sm_if (sm_some ⟨h, rfl⟩) (sm_if ?_ (sm_some ⟨h, rfl⟩))
  refine sm_bd (sm_bd (sm_gd (sm_bd ?_)))
  refine x_log h (fun L' S' h' => ?_)
  refine sm_bd ?_
  exact sm_ob (hr _ _ _ _ _ _ h') (fun L S v h => sm_some ⟨h, rfl⟩)
theorem sm_B0 {S0 S : xSt} {L : List Int32} {x1 x2 x3 x4 : Int32} {gb gr : xSt → Int32 → Int32 → Int32 → Int32 → Option (xSt × Int32)} {er : eG} (hr : ∀ L S x1 x2 x3 x4, tX S0 L S → sm (sR (tX S0)) (er L x1 x2 x3 x4) (gr S x1 x2 x3 x4)) (h : tX S0 L S) : sm (sR (tX S0)) (eB0 er x1 x2 x3 x4 L) (f_X0_begin_0 gb gr x1 x2 x3 x4 S) := by
  unfold eB0 f_X0_begin_0
  refine sm_lp (I := fun q r => tX S0 q.1 r.1 ∧ q.2 = r.2) (fun s t hI => ?_) _ _ _ ⟨h, rfl⟩
  obtain ⟨L1, a⟩ := s
  obtain ⟨S1, b⟩ := t
  obtain ⟨h1, h2⟩ := hI
  dsimp only at h1 h2
  subst h2
  obtain ⟨x5, x6⟩ := a
  show sm _ (e6 er x2 x3 x4 L1 x5 x6) (f_X0_begin_6 gb gr x2 x3 x4 S1 x5 x6)
  unfold e6 f_X0_begin_6
  refine sm_if (sm_mr (sm_45 hr h1)) (sm_if (sm_mr (sm_45 hr h1)) ?_)
  refine sm_bd (sm_bd (sm_gd (sm_bd (sm_if (sm_mr (sm_45 hr h1)) ?_))))
  exact sm_gd (sm_bd (sm_bd (sm_some ⟨h1, rfl⟩)))
theorem sm_R0 {S0 S : xSt} {L : List Int32} {b : Int} {kk x1 x2 x3 x4 : Int32} {gb gr : xSt → Int32 → Int32 → Int32 → Int32 → Option (xSt × Int32)} {ge : eG} (b0 : 0 ≤ b) (b1 : b < 50) (e4 : S0.1 101 4 = ki b) (ek : S0.1 102 b.toNat = kk) (hr : ∀ L S x1 x2 x3 x4, tX S0 L S → sm (sR (tX S0)) (ge L x1 x2 x3 x4) (gb S x1 x2 x3 x4)) (h : tX S0 L S) : sm (sR (tX S0)) (eR0 (ki b) kk ge x1 x2 x3 x4 L) (f_X0_run_0 gb gr x1 x2 x3 x4 S) := by
  have q4 : ki b = S.1 101 4 := by rw [h.2.2.2.2 101 4 (by omega)]; exact e4.symm
  have qk : kk = S.1 102 (ki b).toNatClampNeg := by rw [ki_cl (by omega) (by omega), h.2.2.2.2 102 _ (by omega)]; exact ek.symm
  unfold eR0 f_X0_run_0
  refine sm_bd2 q4 (sm_gdT (xin_t' (by omega) (by omega) (by omega)) (sm_bd2 qk (sm_gd (sm_bd ?_))))
  repeat' first
    | with_reducible refine sm_if ?_ ?_
    | with_reducible exact sm_ret (by assumption)
    | with_reducible refine sm_ob (hr _ _ _ _ _ _ (by assumption)) (fun _ _ _ _ => ?_)
    | with_reducible refine sm_bd ?_
    | with_reducible refine sm_bd2 q4 ?_
theorem sm_F {S0 : xSt} {b : Int} {kk : Int32} (b0 : 0 ≤ b) (b1 : b < 50) (e4 : S0.1 101 4 = ki b) (ek : S0.1 102 b.toNat = kk) : ∀ d : Nat, (∀ L S x1 x2 x3 x4, tX S0 L S → sm (sR (tX S0)) ((eF (ki b) kk d).1 L x1 x2 x3 x4) ((F_X0_begin d).1 S x1 x2 x3 x4)) ∧ (∀ L S x1 x2 x3 x4, tX S0 L S → sm (sR (tX S0)) ((eF (ki b) kk d).2 L x1 x2 x3 x4) ((F_X0_begin d).2 S x1 x2 x3 x4)) := by
  intro d
  induction d with
  | zero => exact ⟨fun L S x1 x2 x3 x4 h q e => absurd (show (none : Option (List Int32 × Int32)) = some q from e) (by simp), fun L S x1 x2 x3 x4 h q e => absurd (show (none : Option (List Int32 × Int32)) = some q from e) (by simp)⟩
  | succ d ih => exact ⟨fun L S x1 x2 x3 x4 h => sm_B0 ih.2 h, fun L S x1 x2 x3 x4 h => sm_R0 (gr := (F_X0_begin d).2) b0 b1 e4 ek ih.1 h⟩

theorem sm_un {T : List Int32 → xSt → Prop} {L : List Int32} {S : xSt} {k w : Int32} (h : T L S) : sm (sR T) (eM_isUnder L k w) (f_X12_isUnder S k w) := by
  unfold eM_isUnder f_X12_isUnder eM_isUnder_0 f_X12_isUnder_0 eM_isUnder_19 f_X12_isUnder_19 eM_isUnder_34 f_X12_isUnder_34 eM_isUnder_44 f_X12_isUnder_44 eM_isUnder_56 f_X12_isUnder_56 eM_isUnder_60 f_X12_isUnder_60
  repeat' first
    | with_reducible refine sm_if ?_ ?_
    | with_reducible exact sm_ret h
    | with_reducible refine sm_gd ?_
theorem tM_k {S0 S : xSt} {L : List Int32} {b : Int} {kk : Int32} (h : tM S0 L S) (b0 : 0 ≤ b) (b1 : b < 50) (ek : S0.1 35 b.toNat = kk) : kk = S.1 35 (ki b).toNatClampNeg := by
  rw [ki_cl (by omega) (by omega), h.2.2.2.2 35 _ (by omega)]; exact ek.symm
theorem sm_plainReads {S0 S : xSt} {L : List Int32} {b : Int} {kk x : Int32} (b0 : 0 ≤ b) (b1 : b < 50) (ek : S0.1 35 b.toNat = kk) (h : tM S0 L S) : sm (sR (tM S0)) (eM_plainReads kk L (ki b) x) (f_X12_plainReads S (ki b) x) := by
  unfold eM_plainReads f_X12_plainReads eM_plainReads_0 f_X12_plainReads_0
  repeat' first
    | with_reducible refine sm_if ?_ ?_
    | with_reducible exact sm_ret (by assumption)
    | with_reducible refine sm_gdT (xin_t' (by omega) (by omega) (by omega)) ?_
    | with_reducible refine sm_bd2 (tM_k (by assumption) b0 b1 ek) ?_
    | with_reducible refine sm_ob (m_ran (by assumption)) (fun _ _ _ _ => ?_)
    | with_reducible refine sm_ob (sm_un (by assumption)) (fun _ _ _ _ => ?_)
    | with_reducible refine sm_bd ?_
theorem sm_saltReads {S0 S : xSt} {L : List Int32} {b : Int} {kk x : Int32} (b0 : 0 ≤ b) (b1 : b < 50) (ek : S0.1 35 b.toNat = kk) (h : tM S0 L S) : sm (sR (tM S0)) (eM_saltReads kk L (ki b) x) (f_X12_saltReads S (ki b) x) := by
  unfold eM_saltReads f_X12_saltReads eM_saltReads_0 f_X12_saltReads_0
  repeat' first
    | with_reducible refine sm_if ?_ ?_
    | with_reducible exact sm_ret (by assumption)
    | with_reducible refine sm_gdT (xin_t' (by omega) (by omega) (by omega)) ?_
    | with_reducible refine sm_bd2 (tM_k (by assumption) b0 b1 ek) ?_
    | with_reducible refine sm_ob (m_ran (by assumption)) (fun _ _ _ _ => ?_)
    | with_reducible refine sm_ob (sm_un (by assumption)) (fun _ _ _ _ => ?_)
    | with_reducible refine sm_ob (sm_plainReads b0 b1 ek (by assumption)) (fun _ _ _ _ => ?_)
    | with_reducible refine sm_bd ?_
theorem sm_reading {S0 S : xSt} {L : List Int32} {b : Int} {kk x : Int32} (b0 : 0 ≤ b) (b1 : b < 50) (ek : S0.1 35 b.toNat = kk) (h : tM S0 L S) : sm (sR (tM S0)) (eM_reading kk L (ki b) x) (f_X12_reading S (ki b) x) := by
  unfold eM_reading f_X12_reading eM_reading_0 f_X12_reading_0
  repeat' first
    | with_reducible refine sm_if ?_ ?_
    | with_reducible exact sm_ret (by assumption)
    | with_reducible refine sm_gdT (xin_t' (by omega) (by omega) (by omega)) ?_
    | with_reducible refine sm_bd2 (tM_k (by assumption) b0 b1 ek) ?_
    | with_reducible refine sm_ob (m_ran (by assumption)) (fun _ _ _ _ => ?_)
    | with_reducible refine sm_ob (sm_un (by assumption)) (fun _ _ _ _ => ?_)
    | with_reducible refine sm_ob (sm_plainReads b0 b1 ek (by assumption)) (fun _ _ _ _ => ?_)
    | with_reducible refine sm_ob (sm_saltReads b0 b1 ek (by assumption)) (fun _ _ _ _ => ?_)
    | with_reducible refine sm_bd ?_
theorem sm_plainHeats {S0 S : xSt} {L : List Int32} {b : Int} {kk x : Int32} (b0 : 0 ≤ b) (b1 : b < 50) (ek : S0.1 35 b.toNat = kk) (h : tM S0 L S) : sm (sR (tM S0)) (eM_plainHeats kk L (ki b) x) (f_X12_plainHeats S (ki b) x) := by
  unfold eM_plainHeats f_X12_plainHeats eM_plainHeats_0 f_X12_plainHeats_0
  repeat' first
    | with_reducible refine sm_if ?_ ?_
    | with_reducible exact sm_ret (by assumption)
    | with_reducible refine sm_gdT (xin_t' (by omega) (by omega) (by omega)) ?_
    | with_reducible refine sm_bd2 (tM_k (by assumption) b0 b1 ek) ?_
    | with_reducible refine sm_ob (m_ran (by assumption)) (fun _ _ _ _ => ?_)
    | with_reducible refine sm_ob (sm_un (by assumption)) (fun _ _ _ _ => ?_)
    | with_reducible refine sm_ob (sm_reading b0 b1 ek (by assumption)) (fun _ _ _ _ => ?_)
    | with_reducible refine sm_bd ?_
theorem sm_smokeHeats {S0 S : xSt} {L : List Int32} {b : Int} {kk x : Int32} (b0 : 0 ≤ b) (b1 : b < 50) (ek : S0.1 35 b.toNat = kk) (h : tM S0 L S) : sm (sR (tM S0)) (eM_smokeHeats kk L (ki b) x) (f_X12_smokeHeats S (ki b) x) := by
  unfold eM_smokeHeats f_X12_smokeHeats eM_smokeHeats_0 f_X12_smokeHeats_0
  repeat' first
    | with_reducible refine sm_if ?_ ?_
    | with_reducible exact sm_ret (by assumption)
    | with_reducible refine sm_gdT (xin_t' (by omega) (by omega) (by omega)) ?_
    | with_reducible refine sm_bd2 (tM_k (by assumption) b0 b1 ek) ?_
    | with_reducible refine sm_ob (m_ran (by assumption)) (fun _ _ _ _ => ?_)
    | with_reducible refine sm_ob (sm_un (by assumption)) (fun _ _ _ _ => ?_)
    | with_reducible refine sm_ob (sm_plainHeats b0 b1 ek (by assumption)) (fun _ _ _ _ => ?_)
    | with_reducible refine sm_bd ?_
theorem sm_plainOpens {S0 S : xSt} {L : List Int32} {b : Int} {kk x : Int32} (b0 : 0 ≤ b) (b1 : b < 50) (ek : S0.1 35 b.toNat = kk) (h : tM S0 L S) : sm (sR (tM S0)) (eM_plainOpens kk L (ki b) x) (f_X12_plainOpens S (ki b) x) := by
  unfold eM_plainOpens f_X12_plainOpens eM_plainOpens_0 f_X12_plainOpens_0
  repeat' first
    | with_reducible refine sm_if ?_ ?_
    | with_reducible exact sm_ret (by assumption)
    | with_reducible refine sm_gdT (xin_t' (by omega) (by omega) (by omega)) ?_
    | with_reducible refine sm_bd2 (tM_k (by assumption) b0 b1 ek) ?_
    | with_reducible refine sm_ob (m_ran (by assumption)) (fun _ _ _ _ => ?_)
    | with_reducible refine sm_ob (sm_un (by assumption)) (fun _ _ _ _ => ?_)
    | with_reducible refine sm_bd ?_
theorem sm_chimneyOpens {S0 S : xSt} {L : List Int32} {b : Int} {kk x : Int32} (b0 : 0 ≤ b) (b1 : b < 50) (ek : S0.1 35 b.toNat = kk) (h : tM S0 L S) : sm (sR (tM S0)) (eM_chimneyOpens kk L (ki b) x) (f_X12_chimneyOpens S (ki b) x) := by
  unfold eM_chimneyOpens f_X12_chimneyOpens eM_chimneyOpens_0 f_X12_chimneyOpens_0
  repeat' first
    | with_reducible refine sm_if ?_ ?_
    | with_reducible exact sm_ret (by assumption)
    | with_reducible refine sm_gdT (xin_t' (by omega) (by omega) (by omega)) ?_
    | with_reducible refine sm_bd2 (tM_k (by assumption) b0 b1 ek) ?_
    | with_reducible refine sm_ob (m_ran (by assumption)) (fun _ _ _ _ => ?_)
    | with_reducible refine sm_ob (sm_un (by assumption)) (fun _ _ _ _ => ?_)
    | with_reducible refine sm_ob (sm_plainOpens b0 b1 ek (by assumption)) (fun _ _ _ _ => ?_)
    | with_reducible refine sm_bd ?_
theorem sm_opening {S0 S : xSt} {L : List Int32} {b : Int} {kk x : Int32} (b0 : 0 ≤ b) (b1 : b < 50) (ek : S0.1 35 b.toNat = kk) (h : tM S0 L S) : sm (sR (tM S0)) (eM_opening kk L (ki b) x) (f_X12_opening S (ki b) x) := by
  unfold eM_opening f_X12_opening eM_opening_0 f_X12_opening_0
  repeat' first
    | with_reducible refine sm_if ?_ ?_
    | with_reducible exact sm_ret (by assumption)
    | with_reducible refine sm_gdT (xin_t' (by omega) (by omega) (by omega)) ?_
    | with_reducible refine sm_bd2 (tM_k (by assumption) b0 b1 ek) ?_
    | with_reducible refine sm_ob (m_ran (by assumption)) (fun _ _ _ _ => ?_)
    | with_reducible refine sm_ob (sm_un (by assumption)) (fun _ _ _ _ => ?_)
    | with_reducible refine sm_ob (sm_plainOpens b0 b1 ek (by assumption)) (fun _ _ _ _ => ?_)
    | with_reducible refine sm_ob (sm_chimneyOpens b0 b1 ek (by assumption)) (fun _ _ _ _ => ?_)
    | with_reducible refine sm_ob (sm_reading b0 b1 ek (by assumption)) (fun _ _ _ _ => ?_)
    | with_reducible refine sm_bd ?_
theorem sm_heating {S0 S : xSt} {L : List Int32} {b : Int} {kk x : Int32} (b0 : 0 ≤ b) (b1 : b < 50) (ek : S0.1 35 b.toNat = kk) (h : tM S0 L S) : sm (sR (tM S0)) (eM_heating kk L (ki b) x) (f_X12_heating S (ki b) x) := by
  unfold eM_heating f_X12_heating eM_heating_0 f_X12_heating_0
  repeat' first
    | with_reducible refine sm_if ?_ ?_
    | with_reducible exact sm_ret (by assumption)
    | with_reducible refine sm_gdT (xin_t' (by omega) (by omega) (by omega)) ?_
    | with_reducible refine sm_bd2 (tM_k (by assumption) b0 b1 ek) ?_
    | with_reducible refine sm_ob (m_ran (by assumption)) (fun _ _ _ _ => ?_)
    | with_reducible refine sm_ob (sm_un (by assumption)) (fun _ _ _ _ => ?_)
    | with_reducible refine sm_ob (sm_plainHeats b0 b1 ek (by assumption)) (fun _ _ _ _ => ?_)
    | with_reducible refine sm_ob (sm_smokeHeats b0 b1 ek (by assumption)) (fun _ _ _ _ => ?_)
    | with_reducible refine sm_ob (sm_opening b0 b1 ek (by assumption)) (fun _ _ _ _ => ?_)
    | with_reducible refine sm_bd ?_
theorem sm_plainTells {S0 S : xSt} {L : List Int32} {b : Int} {kk x : Int32} (b0 : 0 ≤ b) (b1 : b < 50) (ek : S0.1 35 b.toNat = kk) (h : tM S0 L S) : sm (sR (tM S0)) (eM_plainTells kk L (ki b) x) (f_X12_plainTells S (ki b) x) := by
  unfold eM_plainTells f_X12_plainTells eM_plainTells_0 f_X12_plainTells_0
  repeat' first
    | with_reducible refine sm_if ?_ ?_
    | with_reducible exact sm_ret (by assumption)
    | with_reducible refine sm_gdT (xin_t' (by omega) (by omega) (by omega)) ?_
    | with_reducible refine sm_bd2 (tM_k (by assumption) b0 b1 ek) ?_
    | with_reducible refine sm_ob (m_ran (by assumption)) (fun _ _ _ _ => ?_)
    | with_reducible refine sm_ob (sm_un (by assumption)) (fun _ _ _ _ => ?_)
    | with_reducible refine sm_ob (sm_heating b0 b1 ek (by assumption)) (fun _ _ _ _ => ?_)
    | with_reducible refine sm_ob (sm_opening b0 b1 ek (by assumption)) (fun _ _ _ _ => ?_)
    | with_reducible refine sm_bd ?_
theorem sm_telling {S0 S : xSt} {L : List Int32} {b : Int} {kk x : Int32} (b0 : 0 ≤ b) (b1 : b < 50) (ek : S0.1 35 b.toNat = kk) (h : tM S0 L S) : sm (sR (tM S0)) (eM_telling kk L (ki b) x) (f_X12_telling S (ki b) x) := by
  unfold eM_telling f_X12_telling eM_telling_0 f_X12_telling_0
  repeat' first
    | with_reducible refine sm_if ?_ ?_
    | with_reducible exact sm_ret (by assumption)
    | with_reducible refine sm_gdT (xin_t' (by omega) (by omega) (by omega)) ?_
    | with_reducible refine sm_bd2 (tM_k (by assumption) b0 b1 ek) ?_
    | with_reducible refine sm_ob (m_ran (by assumption)) (fun _ _ _ _ => ?_)
    | with_reducible refine sm_ob (sm_un (by assumption)) (fun _ _ _ _ => ?_)
    | with_reducible refine sm_ob (sm_plainTells b0 b1 ek (by assumption)) (fun _ _ _ _ => ?_)
    | with_reducible refine sm_bd ?_
