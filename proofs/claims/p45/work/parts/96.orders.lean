/-! part 96: orders of loads: all of them in a row, the next one, the first least one -/
def dfsL (m : Nat) : Nat → List Nat → List (List Nat)
  | 0, pre => [pre]
  | r + 1, pre => (List.range' 0 m).flatMap (fun i => if pre.elem i then [] else dfsL m r (pre ++ [i]))
def gN (p : List Nat) (i : Nat) : Nat := (p[i]?).getD 0
def gp (p : List Nat) (z : Int) : Int := ((gN p z.toNat : Nat) : Int)
def tbN (g : Nat → Nat) : Nat → List Nat
  | 0 => []
  | k + 1 => tbN g k ++ [g k]
def rsO (g : Int → Int) : Nat → Int → Int
  | 0, r => r
  | f + 1, r => if r < 0 then r else if g r ≤ g (r + 1) then r else rsO g f (r - 1)
def laO (g : Int → Int) (r : Int) : Nat → Int → Int
  | 0, l => l
  | f + 1, l => if l ≤ r then l else if g r ≤ g l then l else laO g r f (l - 1)
def swO (g : Int → Int) (a b : Int) : Int → Int := up (up g a (g b)) b (g a)
def rvO : Nat → Int → Int → (Int → Int) → Int → Int
  | 0, _, _, g => g
  | f + 1, a, b, g => if b ≤ a then g else rvO f (a + 1) (b - 1) (swO g a b)
def nxO (m : Int) (g : Int → Int) : Option (Int → Int) := if rsO g 7 (m - 2) < 0 then none else some (rvO 7 (rsO g 7 (m - 2) + 1) (m - 1) (swO g (rsO g 7 (m - 2)) (laO g (rsO g 7 (m - 2)) 7 (m - 1))))
def cqE (m : Nat) (g h : Int → Int) : Bool := (List.range m).all (fun i => decide (g (i : Int) = h (i : Int)))
def cqN (m : Nat) : List (List Nat) → Bool
  | [] => false
  | [p] => (nxO m (gp p)).isNone
  | p :: q :: t => (match nxO m (gp p) with | some g => cqE m g (gp q) | none => false) && cqN m (q :: t)
def cqP (m : Nat) (p : List Nat) : Bool := decide (p = tbN (gN p) m) && (List.range m).all (fun i => decide (gN p i < m) && (List.range i).all (fun j => decide (gN p j ≠ gN p i)))
def cdL (p : List Nat) : Nat := gN p 0 * 32768 + gN p 1 * 4096 + gN p 2 * 512 + gN p 3 * 64 + gN p 4 * 8 + gN p 5
def cqS : Nat → List (List Nat) → Bool
  | _, [] => true
  | c, p :: t => decide (c < cdL p + 1) && cqS (cdL p + 1) t
def P_ (m : Nat) : List (List Nat) := dfsL m m []
def cqA (m : Nat) : Bool := cqN m (P_ m) && (P_ m).all (cqP m) && cqS 0 (P_ m) && decide ((P_ m).length ≤ 720) && decide ((P_ m).head? = some (List.range m))
theorem cqA_0 : cqA 0 = true ∧ cqA 1 = true ∧ cqA 2 = true ∧ cqA 3 = true ∧ cqA 4 = true := by decide +kernel
theorem cqA_5 : cqA 5 = true := by decide +kernel
theorem cqA_6 : cqA 6 = true := by decide +kernel
theorem cqA_t {m : Nat} (h : m ≤ 6) : cqA m = true := by
  have hm : m = 0 ∨ m = 1 ∨ m = 2 ∨ m = 3 ∨ m = 4 ∨ m = 5 ∨ m = 6 := by omega
  obtain ⟨a0, a1, a2, a3, a4⟩ := cqA_0
  rcases hm with rfl | rfl | rfl | rfl | rfl | rfl | rfl
  · exact a0
  · exact a1
  · exact a2
  · exact a3
  · exact a4
  · exact cqA_5
  · exact cqA_6
theorem P_al {m : Nat} (h : m ≤ 6) : cqN m (P_ m) = true ∧ (∀ p, p ∈ P_ m → cqP m p = true) ∧ cqS 0 (P_ m) = true ∧ (P_ m).length ≤ 720 ∧ (P_ m).head? = some (List.range m) := by
  have a := cqA_t h
  unfold cqA at a
  simp only [Bool.and_eq_true, decide_eq_true_eq, List.all_eq_true] at a
  exact ⟨a.1.1.1.1, a.1.1.1.2, a.1.1.2, a.1.2, a.2⟩
theorem cqP_t {m : Nat} {p : List Nat} (h : cqP m p = true) : p = tbN (gN p) m ∧ (∀ i, i < m → gN p i < m) ∧ (∀ i j, j < i → i < m → gN p j ≠ gN p i) := by
  unfold cqP at h
  simp only [Bool.and_eq_true, decide_eq_true_eq, List.all_eq_true, List.mem_range] at h
  exact ⟨h.1, fun i hi => (h.2 i hi).1, fun i j hj hi => (h.2 i hi).2 j hj⟩
theorem cqE_t {m : Nat} {g h : Int → Int} (e : cqE m g h = true) : ∀ z : Int, 0 ≤ z → z < m → g z = h z := by
  unfold cqE at e
  simp only [decide_eq_true_eq, List.all_eq_true, List.mem_range] at e
  intro z z0 z1
  have := e z.toNat (by omega)
  rwa [show ((z.toNat : Nat) : Int) = z by omega] at this
theorem tbN_len (g : Nat → Nat) : ∀ k, (tbN g k).length = k
  | 0 => rfl
  | k + 1 => by
    show (tbN g k ++ [g k]).length = k + 1
    rw [List.length_append, tbN_len g k]
    rfl
theorem tbN_g (g : Nat → Nat) : ∀ k i, gN (tbN g k) i = if i < k then g i else 0
  | 0, i => by rw [if_neg (by omega)]; rfl
  | k + 1, i => by
    have ih := tbN_g g k i
    have hl := tbN_len g k
    show ((tbN g k ++ [g k])[i]?).getD 0 = _
    unfold gN at ih
    by_cases h : i < k
    · rw [if_pos h] at ih
      rw [if_pos (by omega), List.getElem?_append_left (by omega)]
      exact ih
    · rw [List.getElem?_append_right (by omega), hl]
      by_cases h2 : i = k
      · subst h2
        rw [if_pos (by omega), Nat.sub_self]
        rfl
      · rw [if_neg (by omega)]
        obtain ⟨d, hd⟩ : ∃ d, i - k = d + 1 := ⟨i - k - 1, by omega⟩
        rw [hd]
        rfl
theorem tbN_mem {g : Nat → Nat} {x : Nat} : ∀ k, x ∈ tbN g k → ∃ i, i < k ∧ x = g i
  | 0, h => absurd h (List.not_mem_nil)
  | k + 1, h => by
    rcases List.mem_append.mp h with h | h
    · obtain ⟨i, h1, h2⟩ := tbN_mem k h
      exact ⟨i, by omega, h2⟩
    · exact ⟨k, by omega, List.mem_singleton.mp h⟩
theorem mem_dfs {g : Nat → Nat} {m : Nat} (h1 : ∀ i, i < m → g i < m) (h2 : ∀ i j, j < i → i < m → g j ≠ g i) : ∀ r k, k + r = m → tbN g m ∈ dfsL m r (tbN g k)
  | 0, k, hk => by
    have e : k = m := by omega
    subst e
    exact List.mem_singleton.mpr rfl
  | r + 1, k, hk => by
    have ih := mem_dfs h1 h2 r (k + 1) (by omega)
    refine List.mem_flatMap.mpr ⟨g k, List.mem_range'_1.mpr ⟨by omega, by have := h1 k (by omega); omega⟩, ?_⟩
    rw [if_neg]
    · exact ih
    · intro hq
      obtain ⟨i, i1, i2⟩ := tbN_mem k (List.elem_iff.mp hq)
      exact h2 k i i1 (by omega) i2.symm
theorem cqS_t {c : Nat} {l : List (List Nat)} (h : cqS c l = true) : ∀ p, p ∈ l → c ≤ cdL p := by
  induction l generalizing c with
  | nil => intro p hp; exact absurd hp List.not_mem_nil
  | cons q t ih =>
    intro p hp
    have h' : (decide (c < cdL q + 1) && cqS (cdL q + 1) t) = true := h
    simp only [Bool.and_eq_true, decide_eq_true_eq] at h'
    rcases List.mem_cons.mp hp with rfl | hp
    · omega
    · have := ih h'.2 p hp
      omega
theorem cqS_a {l : List (List Nat)} : ∀ {c : Nat} {A : List (List Nat)}, cqS c (A ++ l) = true → ∃ c', cqS c' l = true
  | c, [], h => ⟨c, h⟩
  | c, a :: A, h => by
    have h' : (decide (c < cdL a + 1) && cqS (cdL a + 1) (A ++ l)) = true := h
    simp only [Bool.and_eq_true] at h'
    exact cqS_a h'.2
theorem cqS_b {A B : List (List Nat)} {p : List Nat} {c : Nat} (h : cqS c (A ++ p :: B) = true) {q : List Nat} (hq : q ∈ A ++ p :: B) (hl : cdL q < cdL p) : q ∈ A := by
  obtain ⟨c', h'⟩ := cqS_a h
  have h2 : (decide (c' < cdL p + 1) && cqS (cdL p + 1) B) = true := h'
  simp only [Bool.and_eq_true, decide_eq_true_eq] at h2
  rcases List.mem_append.mp hq with hq | hq
  · exact hq
  · rcases List.mem_cons.mp hq with rfl | hq
    · omega
    · have := cqS_t h2.2 q hq
      omega
def swN (g : Nat → Nat) (a c : Nat) (i : Nat) : Nat := if i = a then g c else if i = c then g a else g i
theorem swN_a (g : Nat → Nat) (a c : Nat) : swN g a c a = g c := if_pos rfl
theorem swN_c {g : Nat → Nat} {a c : Nat} (h : a < c) : swN g a c c = g a := by unfold swN; rw [if_neg (by omega), if_pos rfl]
theorem swN_o {g : Nat → Nat} {a c i : Nat} (h1 : i ≠ a) (h2 : i ≠ c) : swN g a c i = g i := by unfold swN; rw [if_neg h1, if_neg h2]
theorem swN_lt {g : Nat → Nat} {a c m : Nat} (ac : a < c) (cm : c < m) (h1 : ∀ i, i < m → g i < m) : ∀ i, i < m → swN g a c i < m := by
  intro i hi
  unfold swN
  by_cases e : i = a
  · rw [if_pos e]; exact h1 c cm
  · rw [if_neg e]
    by_cases e2 : i = c
    · rw [if_pos e2]; exact h1 a (by omega)
    · rw [if_neg e2]; exact h1 i hi
theorem swN_ne {g : Nat → Nat} {a c m : Nat} (ac : a < c) (cm : c < m) (h2 : ∀ i j, j < i → i < m → g j ≠ g i) : ∀ i j, j < i → i < m → swN g a c j ≠ swN g a c i := by
  have hn : ∀ i j, i < m → j < m → i ≠ j → g i ≠ g j := fun i j hi hj e => by
    rcases Nat.lt_or_ge j i with h | h
    · exact fun q => h2 i j h hi q.symm
    · exact h2 j i (by omega) hj
  intro i j hj hi
  by_cases a1 : j = a
  · subst a1
    rw [swN_a]
    by_cases b1 : i = c
    · subst b1; rw [swN_c ac]; exact hn _ _ cm (by omega) (by omega)
    · rw [swN_o (by omega) b1]; exact hn _ _ cm hi (fun q => b1 q.symm)
  · by_cases a2 : j = c
    · subst a2
      rw [swN_c ac, swN_o (by omega) (by omega)]
      exact hn _ _ (by omega) hi (by omega)
    · rw [swN_o a1 a2]
      by_cases b1 : i = a
      · subst b1; rw [swN_a]; exact hn _ _ (by omega) cm a2
      · by_cases b2 : i = c
        · subst b2; rw [swN_c ac]; exact hn _ _ (by omega) (by omega) a1
        · rw [swN_o b1 b2]; exact hn _ _ (by omega) hi (by omega)
theorem cd_sw {p : List Nat} {m a c : Nat} (hm : m ≤ 6) (hp : p = tbN (gN p) m) (ac : a < c) (cm : c < m) (hl : gN p c < gN p a) : cdL (tbN (swN (gN p) a c) m) < cdL p := by
  have e1 : ∀ i, gN (tbN (swN (gN p) a c) m) i = if i = a then gN p c else if i = c then gN p a else gN p i := fun i => by
    rw [tbN_g]
    by_cases h : i < m
    · rw [if_pos h]; rfl
    · rw [if_neg h, if_neg (by omega), if_neg (by omega), hp, tbN_g, if_neg h]
  unfold cdL
  rw [e1, e1, e1, e1, e1, e1]
  have hc : c = 1 ∨ c = 2 ∨ c = 3 ∨ c = 4 ∨ c = 5 := by omega
  have ha : a = 0 ∨ a = 1 ∨ a = 2 ∨ a = 3 ∨ a = 4 := by omega
  clear e1 hp
  generalize gN p = g at *
  rcases hc with rfl | rfl | rfl | rfl | rfl <;> rcases ha with rfl | rfl | rfl | rfl | rfl <;> first | omega | (simp only [Nat.reduceEqDiff, if_true, if_false, reduceIte]; omega)
/-- an order that lays the same as one ahead of it -/
theorem P_rep {m : Nat} (hm : m ≤ 6) {A B : List (List Nat)} {p : List Nat} (h : P_ m = A ++ p :: B) {a c : Nat} (ac : a < c) (cm : c < m) (hl : gN p c < gN p a) : tbN (swN (gN p) a c) m ∈ A := by
  obtain ⟨_, k2, k3, _⟩ := P_al hm
  obtain ⟨p1, p2, p3⟩ := cqP_t (k2 p (by rw [h]; exact List.mem_append.mpr (Or.inr (List.mem_cons_self))))
  have hq := mem_dfs (swN_lt ac cm p2) (swN_ne ac cm p3) m 0 (by omega)
  have hq' : tbN (swN (gN p) a c) m ∈ P_ m := hq
  rw [h] at hq' k3
  exact cqS_b k3 hq' (cd_sw hm p1 ac cm hl)
/-- the first least one -/
def lsv (v : List Nat → Int) (st : Int × List Nat) (p : List Nat) : Int × List Nat := if v p < 0 ∨ (0 ≤ st.1 ∧ st.1 ≤ v p) then st else (v p, p)
theorem lsv_m {v : List Nat → Int} : ∀ (A : List (List Nat)) (st : Int × List Nat), 0 ≤ st.1 → 0 ≤ (A.foldl (lsv v) st).1 ∧ (A.foldl (lsv v) st).1 ≤ st.1
  | [], _, h => ⟨h, Int.le_refl _⟩
  | p :: A, st, h => by
    show 0 ≤ (A.foldl (lsv v) (lsv v st p)).1 ∧ (A.foldl (lsv v) (lsv v st p)).1 ≤ st.1
    by_cases hc : v p < 0 ∨ (0 ≤ st.1 ∧ st.1 ≤ v p)
    · have e : lsv v st p = st := by unfold lsv; rw [if_pos hc]
      rw [e]; exact lsv_m A st h
    · have e : lsv v st p = (v p, p) := by unfold lsv; rw [if_neg hc]
      rw [e]
      have := lsv_m (v := v) A (v p, p) (by show 0 ≤ v p; omega)
      have h2 : v p ≤ st.1 := by omega
      exact ⟨this.1, Int.le_trans this.2 h2⟩
theorem lsv_in {v : List Nat → Int} {q : List Nat} : ∀ (A : List (List Nat)) (st : Int × List Nat), q ∈ A → v q < 0 ∨ (0 ≤ (A.foldl (lsv v) st).1 ∧ (A.foldl (lsv v) st).1 ≤ v q)
  | [], _, h => absurd h List.not_mem_nil
  | p :: A, st, h => by
    show v q < 0 ∨ (0 ≤ (A.foldl (lsv v) (lsv v st p)).1 ∧ (A.foldl (lsv v) (lsv v st p)).1 ≤ v q)
    rcases List.mem_cons.mp h with rfl | h
    · by_cases hn : v q < 0
      · exact Or.inl hn
      · right
        by_cases hc : v q < 0 ∨ (0 ≤ st.1 ∧ st.1 ≤ v q)
        · have e : lsv v st q = st := by unfold lsv; rw [if_pos hc]
          rw [e]
          have hc' : 0 ≤ st.1 ∧ st.1 ≤ v q := by rcases hc with hc | hc; exact absurd hc hn; exact hc
          have := lsv_m (v := v) A st hc'.1
          exact ⟨this.1, Int.le_trans this.2 hc'.2⟩
        · have e : lsv v st q = (v q, q) := by unfold lsv; rw [if_neg hc]
          rw [e]
          exact lsv_m A (v q, q) (by show 0 ≤ v q; omega)
    · exact lsv_in A _ h
theorem lsv_sk {v : List Nat → Int} {A : List (List Nat)} {st : Int × List Nat} {p q : List Nat} (hq : q ∈ A) (e : v q = v p) : lsv v (A.foldl (lsv v) st) p = A.foldl (lsv v) st := by
  have h := lsv_in (v := v) A st hq
  rw [e] at h
  unfold lsv
  exact if_pos h
