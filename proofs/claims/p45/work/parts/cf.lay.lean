/-! part cf: what lay says -/
section LAYF
variable {gn : (Int → Int) → Int} {N m : Nat} {rd : Int → Int} {η : Hy}
theorem fol_sp {v : List Nat → Int} : ∀ (A : List (List Nat)) (st : Int × List Nat), (st.1 = -2 ∨ (∃ p, st = (v p, p) ∧ 0 ≤ v p)) → ((A.foldl (lsv v) st).1 = -2 ∨ (∃ p, (p ∈ A ∨ st = (v p, p)) ∧ A.foldl (lsv v) st = (v p, p) ∧ 0 ≤ v p))
  | [], st, h => by
    rcases h with h | ⟨p, h1, h2⟩
    · exact Or.inl h
    · exact Or.inr ⟨p, Or.inr h1, h1, h2⟩
  | q :: A, st, h => by
    show ((A.foldl (lsv v) (lsv v st q)).1 = -2 ∨ _)
    by_cases c : v q < 0 ∨ (0 ≤ st.1 ∧ st.1 ≤ v q)
    · have e : lsv v st q = st := by unfold lsv; exact if_pos c
      rw [show (q :: A).foldl (lsv v) st = A.foldl (lsv v) (lsv v st q) from rfl, e]
      rcases fol_sp A st h with h1 | ⟨p, h1, h2, h3⟩
      · exact Or.inl h1
      · refine Or.inr ⟨p, ?_, h2, h3⟩
        rcases h1 with h1 | h1
        · exact Or.inl (List.mem_cons_of_mem _ h1)
        · exact Or.inr h1
    · have e : lsv v st q = (v q, q) := by unfold lsv; exact if_neg c
      rw [show (q :: A).foldl (lsv v) st = A.foldl (lsv v) (lsv v st q) from rfl, e]
      rcases fol_sp (v := v) A (v q, q) (Or.inr ⟨q, rfl, by omega⟩) with h1 | ⟨p, h1, h2, h3⟩
      · exact Or.inl h1
      · refine Or.inr ⟨p, Or.inl ?_, h2, h3⟩
        rcases h1 with h1 | h1
        · exact List.mem_cons_of_mem _ h1
        · have : q = p := congrArg Prod.snd h1
          rw [← this]; exact List.mem_cons_self
theorem fol_0 (hm : m ≤ 6) : (foL gn N m rd η).1 = -2 ∨ ∃ p, p ∈ P_ m ∧ foL gn N m rd η = (vL gn N m rd η p, p) ∧ 0 ≤ vL gn N m rd η p ∧ (vL gn N m rd η (List.range m) < 0 ∨ vL gn N m rd η p ≤ vL gn N m rd η (List.range m)) := by
  rcases fol_sp (v := vL gn N m rd η) (P_ m) (-2, []) (Or.inl rfl) with h | ⟨p, h1, h2, h3⟩
  · exact Or.inl h
  · have hid : List.range m ∈ P_ m := by
      have e := (P_al hm).2.2.2.2
      exact List.mem_of_mem_head? (by rw [e]; rfl)
    rcases h1 with h1 | h1
    · refine Or.inr ⟨p, h1, h2, h3, ?_⟩
      rcases lsv_in (v := vL gn N m rd η) (P_ m) (-2, []) hid with q | ⟨_, q⟩
      · exact Or.inl q
      · rw [h2] at q; exact Or.inr q
    · have : (-2 : Int) = vL gn N m rd η p := congrArg Prod.fst h1
      omega
theorem lyS_cq {dm dm' : Nat → Int} : ∀ k, (∀ c, c < k → dm c = dm' c) → lyS dm k η = lyS dm' k η
  | 0, _ => rfl
  | k + 1, h => by
    show carS k (dm k) 0 (lyS dm k η) = carS k (dm' k) 0 (lyS dm' k η)
    rw [lyS_cq k (fun c hc => h c (by omega)), h k (by omega)]
theorem lyS_hs (dm dm' : Nat → Int) : ∀ k, lyS dm k η 1 = lyS dm' k η 1
  | 0 => rfl
  | k + 1 => by
    show up (lyS dm k η 1) k (lyS dm k η 1 k + 1) = up (lyS dm' k η 1) k (lyS dm' k η 1 k + 1)
    rw [lyS_hs dm dm' k]
theorem lyS_2 (dm : Nat → Int) : ∀ k, lyS dm k η 2 = η 2
  | 0 => rfl
  | k + 1 => lyS_2 dm k
theorem lyS_10 (dm : Nat → Int) : ∀ k, lyS dm k η 0 10 = η 0 10
  | 0 => rfl
  | k + 1 => lyS_10 dm k
theorem gp_id {c : Nat} (h : c < m) : gp (List.range m) (c : Int) = (c : Int) := by
  unfold gp gN
  rw [Int.toNat_natCast, List.getElem?_range h]
  rfl
theorem vL_id : vL gn N m rd η (List.range m) = hhS (daysN gn N (lyS (fun c => rd (c : Int)) m η)) := by
  unfold vL
  rw [lyS_cq (dm' := fun c => rd (c : Int)) m (fun c hc => by rw [gp_id hc])]
theorem vL_nn {p : List Nat} {g : Int → Int} (hw : wf (uh (lyS (fun c => rd (c : Int)) m η) 8 g)) (h : 0 ≤ vL gn N m rd η p) : 0 ≤ vL gn N m rd η (List.range m) := by
  rw [vL_id]
  have h1 : ¬ ncS (lyS (fun c => rd (gp p c)) m η) := fun q => by
    have e : hhS (daysN gn N (lyS (fun c => rd (gp p c)) m η)) = -2 := hh_nc (fun c c0 c1 => by
      rw [days_1]; exact q c c0 c1)
    have h : 0 ≤ hhS (daysN gn N (lyS (fun c => rd (gp p c)) m η)) := h
    omega
  have h2 : ¬ ncS (daysN gn N (uh (lyS (fun c => rd (c : Int)) m η) 8 g)) := fun q => h1 (fun c c0 c1 => by
    have x := q c c0 c1
    rw [days_1] at x
    rw [lyS_hs _ (fun c => rd (c : Int))]
    exact x)
  have h3 := (hh_nn (wf_days hw N) h2).1
  rw [days_u8] at h3
  exact h3
def sbN (p : List Nat) : Nat → Nat
  | 0 => 0
  | i + 1 => sbN p i ||| 2 ^ gN p i
def sbA (m : Nat) : Bool := (P_ m).all (fun p => (List.range m).all (fun i => decide (gN p i < m ∧ sbN p i < 16 ∧ sbN p i / 2 ^ gN p i % 2 = 0)))
theorem sbA_t : sbA 0 = true ∧ sbA 1 = true ∧ sbA 2 = true ∧ sbA 3 = true ∧ sbA 4 = true := by decide +kernel
theorem sb_ok (hm : m ≤ 4) {p : List Nat} (hp : p ∈ P_ m) {i : Nat} (hi : i < m) : gN p i < m ∧ sbN p i < 16 ∧ sbN p i / 2 ^ gN p i % 2 = 0 := by
  have h : sbA m = true := by
    have hq : m = 0 ∨ m = 1 ∨ m = 2 ∨ m = 3 ∨ m = 4 := by omega
    rcases hq with rfl | rfl | rfl | rfl | rfl
    · exact sbA_t.1
    · exact sbA_t.2.1
    · exact sbA_t.2.2.1
    · exact sbA_t.2.2.2.1
    · exact sbA_t.2.2.2.2
  unfold sbA at h
  have h1 := List.all_eq_true.mp h p hp
  exact of_decide_eq_true (List.all_eq_true.mp h1 i (List.mem_range.mpr hi))
theorem sb_or : ∀ x : Nat, x < 16 → ∀ j : Nat, j < 4 → ki (x : Int) ||| ki ((2 ^ j : Nat) : Int) = ki ((x ||| 2 ^ j : Nat) : Int) := by decide +kernel
end LAYF
def avS (L : Nat) (xs : Nat → Int32) (i : Int) : Int := ceS L xs 17 / ((2 ^ (3 * i).toNat : Nat) : Int) % 10
theorem avS_b {L : Nat} {xs : Nat → Int32} (i : Int) : 0 ≤ avS L xs i ∧ avS L xs i ≤ 9 := by unfold avS; omega
theorem ld_all {rd : Int → Int} {n : Int} : ∀ (f : Nat) (k : Int), 0 ≤ k → k ≤ n → n ≤ k + f → (∀ z, 0 ≤ z → z < n → 0 ≤ rd z ∧ rd z ≤ 9) → ldS rd n f k = n
  | 0, k, k0, h1, h2, _ => by show k = n; omega
  | f + 1, k, k0, h1, h2, h3 => by
    unfold ldS
    by_cases c : n ≤ k
    · rw [if_pos c]; omega
    · rw [if_neg c, if_pos (h3 k k0 (by omega))]
      exact ld_all f (k + 1) (by omega) (by omega) (by omega) h3
