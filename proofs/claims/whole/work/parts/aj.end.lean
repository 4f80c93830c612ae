/-! part aj: the worlds that the constructors leave -/
theorem xW_fst {cy : Nat → ClassId} {tb : xTb} {a : Nat → Nat} {S : xSt} : (xW cy tb a S).map Prod.fst = (List.range tb.length).map a := by
  apply List.ext_getElem?
  intro k
  rw [List.getElem?_map, List.getElem?_map, xW_at]
  by_cases h : k < tb.length
  · rw [List.getElem?_range h, List.getElem?_eq_getElem h]; rfl
  · rw [List.getElem?_eq_none (by omega), List.getElem?_eq_none (by simpa using h)]; rfl
def is_X12 (cy : Nat → ClassId) (h0 : Nat) (w : va_W) : Prop := ∃ q1 q2 q3 q4 q5 q6 q7 q8 q9 q10 q11 q12 q13 q14 q15 q16 q17 q18 q19 q20 q21 q22 q23 q24 q25 q26 q27 q28 q29 q30 q31 q32 q33 q34 q35 q36 q37 q38 q39 q40 : Nat, w = [(h0, .inr (12, [.int 0, .ref q1, .ref q2, .ref q3, .ref q4, .ref q5, .ref q6, .ref q7, .ref q8, .ref q9, .int 0, .int 0, .ref q10, .ref q11, .ref q12, .ref q13, .ref q14, .int 0, .int 0, .int 0, .int 0, .int 0, .ref q15, .ref q16, .ref q17, .ref q18, .ref q19, .ref q20, .ref q21, .int 0, .ref q22, .ref q23, .ref q24, .ref q25, .ref q26, .ref q27, .ref q28, .long 0, .long 0, .ref q29, .ref q30, .int 0, .int 0, .ref q31, .int 0, .int 0, .int (-2), .int 0, .int 0, .int 0, .ref q32, .ref q33, .ref q34, .int 0, .ref q35, .int 0, .ref q36, .ref q37, .ref q38, .ref q39, .ref q40])), (q1, .inl (cy 0, 6, .inl (fun _ => (0 : Int32)))), (q2, .inl (cy 0, 30, .inl (fun _ => (0 : Int32)))), (q3, .inl (cy 0, 30, .inl (fun _ => (0 : Int32)))), (q4, .inl (cy 0, 30, .inl (fun _ => (0 : Int32)))), (q5, .inl (cy 0, 30, .inl (fun _ => (0 : Int32)))), (q6, .inl (cy 0, 30, .inl (fun _ => (0 : Int32)))), (q7, .inl (cy 0, 6, .inl (fun _ => (0 : Int32)))), (q8, .inl (cy 0, 2, .inl (upd (upd (fun _ => (0 : Int32)) (0 : Int32).toNatClampNeg (90 : Int32)) (1 : Int32).toNatClampNeg (0 : Int32)))), (q9, .inl (cy 0, 5, .inl (fun _ => (0 : Int32)))), (q10, .inl (cy 0, 40, .inl (fun _ => (0 : Int32)))), (q11, .inl (cy 0, 40, .inl (fun _ => (0 : Int32)))), (q12, .inl (cy 0, 40, .inl (fun _ => (0 : Int32)))), (q13, .inl (cy 0, 40, .inl (fun _ => (0 : Int32)))), (q14, .inl (cy 1, 120, .inl (fun _ => (0 : Int32)))), (q15, .inl (cy 1, 260, .inl (fun _ => (0 : Int32)))), (q16, .inl (cy 0, 260, .inl (fun _ => (0 : Int32)))), (q17, .inl (cy 0, 2, .inl (fun _ => (0 : Int32)))), (q18, .inl (cy 2, 122, .inl (fun _ => (0 : Int32)))), (q19, .inl (cy 2, 122, .inl (fun _ => (0 : Int32)))), (q20, .inl (cy 0, 6, .inl (fun _ => (0 : Int32)))), (q21, .inl (cy 0, 130, .inl (fun _ => (0 : Int32)))), (q22, .inl (cy 0, 6, .inl (fun _ => (0 : Int32)))), (q23, .inl (cy 0, 30, .inl (fun _ => (0 : Int32)))), (q24, .inl (cy 0, 30, .inl (fun _ => (0 : Int32)))), (q25, .inl (cy 0, 30, .inl (fun _ => (0 : Int32)))), (q26, .inl (cy 0, 30, .inl (fun _ => (0 : Int32)))), (q27, .inl (cy 0, 6, .inl (fun _ => (0 : Int32)))), (q28, .inl (cy 0, 30, .inl (fun _ => (0 : Int32)))), (q29, .inl (cy 0, 6, .inl (fun _ => (0 : Int32)))), (q30, .inl (cy 0, 6, .inl (fun _ => (0 : Int32)))), (q31, .inl (cy 0, 3, .inl (fun _ => (0 : Int32)))), (q32, .inl (cy 0, 6, .inl (fun _ => (0 : Int32)))), (q33, .inl (cy 0, 150, .inl (fun _ => (0 : Int32)))), (q34, .inl (cy 0, 5, .inl (fun _ => (0 : Int32)))), (q35, .inl (cy 0, 50, .inl (fun _ => (0 : Int32)))), (q36, .inl (cy 0, 24, .inl (fun _ => (0 : Int32)))), (q37, .inl (cy 0, 6, .inl (upd (upd (upd (upd (upd (upd (fun _ => (0 : Int32)) (0 : Int32).toNatClampNeg (-1 : Int32)) (1 : Int32).toNatClampNeg (-1 : Int32)) (2 : Int32).toNatClampNeg (-1 : Int32)) (3 : Int32).toNatClampNeg (-1 : Int32)) (4 : Int32).toNatClampNeg (-1 : Int32)) (5 : Int32).toNatClampNeg (-1 : Int32)))), (q38, .inl (cy 0, 6, .inl (fun _ => (0 : Int32)))), (q39, .inl (cy 3, 360, .inr (.inl (fun _ => (0 : Int64))))), (q40, .inl (cy 3, 60, .inr (.inl (fun _ => (0 : Int64)))))]
def g_m2 : Nat → Int32 := fun j => if j = 5 then -2 else 0
def g_90 : Nat → Int32 := fun j => if j = 10 then 90 else 0
def S1X : xSt := (fun k => if k = 16 then g_90 else if k = 26 then g_90 else if k = 36 then g_90 else if k = 46 then g_90 else if k = 56 then g_90 else if k = 66 then g_90 else if k = 76 then g_90 else if k = 24 then g_m2 else if k = 34 then g_m2 else if k = 44 then g_m2 else if k = 54 then g_m2 else if k = 64 then g_m2 else if k = 74 then g_m2 else if k = 84 then g_m2 else fun _ => 0, fun _ _ => 0)
def g_m0 : Nat → Int32 := fun j => if j = 0 then 90 else 0
def g_m46 : Nat → Int32 := fun j => if j = 46 then -2 else 0
def g_m1 : Nat → Int32 := fun j => if j < 6 then -1 else 0
def S1M : xSt := (fun k => if k = 8 then g_m0 else if k = 0 then g_m46 else if k = 37 then g_m1 else fun _ => 0, fun _ _ => 0)
theorem g_m2_eq : (upd (upd (upd (upd (upd (upd (fun _ => (0 : Int32)) (0 : Int32).toNatClampNeg (0 : Int32)) (1 : Int32).toNatClampNeg (0 : Int32)) (2 : Int32).toNatClampNeg (0 : Int32)) (3 : Int32).toNatClampNeg (0 : Int32)) (4 : Int32).toNatClampNeg (0 : Int32)) (5 : Int32).toNatClampNeg (-2 : Int32)) = g_m2 := by
  funext j
  simp only [upd, g_m2]
  by_cases h : j = 5
  · subst h; rfl
  · have e0 : (0 : Int32).toNatClampNeg = 0 := rfl
    have e1 : (1 : Int32).toNatClampNeg = 1 := rfl
    have e2 : (2 : Int32).toNatClampNeg = 2 := rfl
    have e3 : (3 : Int32).toNatClampNeg = 3 := rfl
    have e4 : (4 : Int32).toNatClampNeg = 4 := rfl
    have e5 : (5 : Int32).toNatClampNeg = 5 := rfl
    simp [e0, e1, e2, e3, e4, e5, h]
theorem g_m0_eq : (upd (upd (fun _ => (0 : Int32)) (0 : Int32).toNatClampNeg (90 : Int32)) (1 : Int32).toNatClampNeg (0 : Int32)) = g_m0 := by
  funext j
  have e0 : (0 : Int32).toNatClampNeg = 0 := rfl
  have e1 : (1 : Int32).toNatClampNeg = 1 := rfl
  simp only [upd, g_m0, e0, e1]
  by_cases h1 : j = 1
  · subst h1; rfl
  · simp [h1]
theorem g_m1_eq : (upd (upd (upd (upd (upd (upd (fun _ => (0 : Int32)) (0 : Int32).toNatClampNeg (-1 : Int32)) (1 : Int32).toNatClampNeg (-1 : Int32)) (2 : Int32).toNatClampNeg (-1 : Int32)) (3 : Int32).toNatClampNeg (-1 : Int32)) (4 : Int32).toNatClampNeg (-1 : Int32)) (5 : Int32).toNatClampNeg (-1 : Int32)) = g_m1 := by
  funext j
  have e0 : (0 : Int32).toNatClampNeg = 0 := rfl
  have e1 : (1 : Int32).toNatClampNeg = 1 := rfl
  have e2 : (2 : Int32).toNatClampNeg = 2 := rfl
  have e3 : (3 : Int32).toNatClampNeg = 3 := rfl
  have e4 : (4 : Int32).toNatClampNeg = 4 := rfl
  have e5 : (5 : Int32).toNatClampNeg = 5 := rfl
  simp only [upd, g_m1, e0, e1, e2, e3, e4, e5]
  by_cases h : j < 6
  · have h2 : j = 0 ∨ j = 1 ∨ j = 2 ∨ j = 3 ∨ j = 4 ∨ j = 5 := by omega
    rcases h2 with rfl | rfl | rfl | rfl | rfl | rfl <;> rfl
  · have k0 : ¬ j = 0 := by omega
    have k1 : ¬ j = 1 := by omega
    have k2 : ¬ j = 2 := by omega
    have k3 : ¬ j = 3 := by omega
    have k4 : ¬ j = 4 := by omega
    have k5 : ¬ j = 5 := by omega
    simp [h, k0, k1, k2, k3, k4, k5]
theorem x_cellq {cA : ClassId} {n : Nat} {f g : Nat → Option Nat} (h : ∀ j, j < n → f j = g j) : vp_cell cA (n, .inr (.inr (.inr (.inr f)))) = vp_cell cA (n, .inr (.inr (.inr (.inr g)))) := by
  rw [vp_cell_q, vp_cell_q]
  unfold arrV
  have e : (fun j : Fin n => va_rf (f j.val)) = fun j : Fin n => va_rf (g j.val) := funext fun j => by rw [h j.val j.isLt]
  rw [e]
theorem xP_setq {D : va_G} {cl : List vw_C} {ws : va_W} {H : Heap} (k : Nat) {q : Nat} {cA : ClassId} {n : Nat} {f : Nat → Option Nat} (g : Nat → Option Nat) (hP : va_P D cl ws H) (ha : ws[k]? = some (q, .inl (cA, n, .inr (.inr (.inr (.inr f)))))) (h : ∀ j, j < n → f j = g j) : va_P D cl (ws.set k (q, .inl (cA, n, .inr (.inr (.inr (.inr g)))))) H := by
  intro i x hx
  have hl := (List.getElem?_eq_some_iff.mp ha).1
  by_cases hi : i = k
  · subst hi
    rw [List.getElem?_set_self hl] at hx
    cases hx
    have h2 := hP i _ ha
    show H[q]? = some (vp_cell cA (n, .inr (.inr (.inr (.inr g)))))
    rw [← x_cellq h]
    exact h2
  · rw [List.getElem?_set_ne (Ne.symm hi)] at hx
    exact hP i x hx
theorem S0X_eq : S0X = S1X := by
  refine Prod.ext (funext fun k => funext fun j => ?_) rfl
  show ki (i0X k j) = S1X.1 k j
  unfold i0X S1X g_90 g_m2
  by_cases h : k = 16 ∨ k = 26 ∨ k = 36 ∨ k = 46 ∨ k = 56 ∨ k = 66 ∨ k = 76
  · rcases h with rfl | rfl | rfl | rfl | rfl | rfl | rfl <;> by_cases hj : j = 10 <;> simp [hj] <;> rfl
  · by_cases h2 : k = 24 ∨ k = 34 ∨ k = 44 ∨ k = 54 ∨ k = 64 ∨ k = 74 ∨ k = 84
    · rcases h2 with rfl | rfl | rfl | rfl | rfl | rfl | rfl <;> by_cases hj : j = 5 <;> simp [hj] <;> rfl
    · rw [if_neg (fun q => h q.1), if_neg (fun q => h2 q.1)]
      have hn2 : ∀ n, (n = 16 ∨ n = 26 ∨ n = 36 ∨ n = 46 ∨ n = 56 ∨ n = 66 ∨ n = 76 ∨ n = 24 ∨ n = 34 ∨ n = 44 ∨ n = 54 ∨ n = 64 ∨ n = 74 ∨ n = 84) → ¬ k = n := by omega
      simp only [hn2 16 (by decide), hn2 26 (by decide), hn2 36 (by decide), hn2 46 (by decide), hn2 56 (by decide), hn2 66 (by decide), hn2 76 (by decide), hn2 24 (by decide), hn2 34 (by decide), hn2 44 (by decide), hn2 54 (by decide), hn2 64 (by decide), hn2 74 (by decide), hn2 84 (by decide), if_false]
      rfl
theorem S0M_eq : S0M = S1M := by
  refine Prod.ext (funext fun k => funext fun j => ?_) rfl
  show ki (i0M k j) = S1M.1 k j
  unfold i0M S1M g_m0 g_m46 g_m1
  by_cases h8 : k = 8
  · subst h8; by_cases hj : j = 0 <;> simp [hj] <;> rfl
  · by_cases h0 : k = 0
    · subst h0; by_cases hj : j = 46 <;> simp [hj] <;> rfl
    · by_cases h37 : k = 37
      · subst h37; by_cases hj : j < 6 <;> simp [hj] <;> rfl
      · simp [h8, h0, h37]; rfl
def xFr (a : Nat → Nat) (S : xSt) (k : Nat) : Nat → List Nat → List Value
  | _, [] => []
  | j, c :: t => xV a S k j c :: xFr a S k (j + 1) t
theorem xF_rg (a : Nat → Nat) (S : xSt) (k : Nat) : ∀ (l : List Nat) (j : Nat), l.mapIdx (fun i c => xV a S k (j + i) c) = xFr a S k j l
  | [], _ => rfl
  | c :: t, j => by
    rw [List.mapIdx_cons, xFr, ← xF_rg a S k t (j + 1)]
    have e : (fun i c => xV a S k (j + (i + 1)) c) = fun i c => xV a S k (j + 1 + i) c := funext fun i => funext fun c => by rw [show j + (i + 1) = j + 1 + i by omega]
    rw [Nat.add_zero, e]
theorem xF_r (a : Nat → Nat) (S : xSt) (k : Nat) (l : List Nat) : xF a S k l = xFr a S k 0 l := by
  rw [← xF_rg]
  unfold xF
  simp only [Nat.zero_add]
def xWr (cy : Nat → ClassId) (a : Nat → Nat) (S : xSt) : Nat → xTb → va_W
  | _, [] => []
  | k, q :: t => (a k, xE cy a S k q) :: xWr cy a S (k + 1) t
theorem xW_rg (cy : Nat → ClassId) (a : Nat → Nat) (S : xSt) : ∀ (l : xTb) (k : Nat), l.mapIdx (fun i q => (a (k + i), xE cy a S (k + i) q)) = xWr cy a S k l
  | [], _ => rfl
  | q :: t, k => by
    rw [List.mapIdx_cons, xWr, ← xW_rg cy a S t (k + 1)]
    have e : (fun i q => (a (k + (i + 1)), xE cy a S (k + (i + 1)) q)) = fun i q => (a (k + 1 + i), xE cy a S (k + 1 + i) q) := funext fun i => funext fun c => by rw [show k + (i + 1) = k + 1 + i by omega]
    rw [Nat.add_zero, e]
theorem xW_r (cy : Nat → ClassId) (a : Nat → Nat) (S : xSt) (l : xTb) : xW cy l a S = xWr cy a S 0 l := by
  rw [← xW_rg]
  unfold xW
  simp only [Nat.zero_add]
theorem xEo {cy : Nat → ClassId} {a : Nat → Nat} {S : xSt} {k ci n : Nat} {l : List Nat} (h : ci < 100) : xE cy a S k (ci, n, l) = .inr (ci, xFr a S k 0 l) := by
  unfold xE
  rw [if_pos h, xF_r]
theorem xPr {D : va_G} {cy : Nat → ClassId} {a : Nat → Nat} {S : xSt} {H : Heap} {k : Nat} (k' : Nat) {q : Nat × Nat × List Nat} {t : xTb} (hk : k + 1 = k') (h1 : va_at D vwCl (a k, xE cy a S k q) H) (h2 : va_P D vwCl (xWr cy a S k' t) H) : va_P D vwCl (xWr cy a S k (q :: t)) H := by
  subst hk
  intro i x hx
  cases i with
  | zero => cases hx; exact h1
  | succ i => exact h2 i x hx
theorem xPo {D : va_G} {cy : Nat → ClassId} {a : Nat → Nat} {S : xSt} {H : Heap} {k q ci n : Nat} {l : List Nat} (h : ci < 100) (h1 : va_at D vwCl (q, .inr (ci, xFr a S k 0 l)) H) : va_at D vwCl (q, xE cy a S k (ci, n, l)) H := by
  rw [xEo h]
  exact h1
theorem xP0 {D : va_G} {cy : Nat → ClassId} {a : Nat → Nat} {S : xSt} {H : Heap} {k q n : Nat} {l : List Nat} (h1 : va_at D vwCl (q, .inl (cy 0, n, .inl (S.1 k))) H) : va_at D vwCl (q, xE cy a S k (100, n, l)) H := h1
theorem xP3 {D : va_G} {cy : Nat → ClassId} {a : Nat → Nat} {S : xSt} {H : Heap} {k q n : Nat} {l : List Nat} (h1 : va_at D vwCl (q, .inl (cy 3, n, .inr (.inl (S.2 k)))) H) : va_at D vwCl (q, xE cy a S k (103, n, l)) H := h1
theorem xP4 {D : va_G} {cy : Nat → ClassId} {a : Nat → Nat} {S : xSt} {H : Heap} {k q n b0 b1 : Nat} {f : Nat → Option Nat} (h1 : va_at D vwCl (q, .inl (cy 4, n, .inr (.inr (.inr (.inr f))))) H) (h : ∀ j, j < n → f j = some (a (b0 + b1 * j))) : va_at D vwCl (q, xE cy a S k (104, n, [b0, b1])) H := by
  have h2 : H[q]? = some (vp_cell (cy 4) (n, .inr (.inr (.inr (.inr f))))) := h1
  rw [x_cellq h] at h2
  exact h2
theorem xP5 {D : va_G} {cy : Nat → ClassId} {a : Nat → Nat} {S : xSt} {H : Heap} {k q n b0 b1 : Nat} {f : Nat → Option Nat} (h1 : va_at D vwCl (q, .inl (cy 5, n, .inr (.inr (.inr (.inr f))))) H) (h : ∀ j, j < n → f j = some (a (b0 + b1 * j))) : va_at D vwCl (q, xE cy a S k (105, n, [b0, b1])) H := by
  have h2 : H[q]? = some (vp_cell (cy 5) (n, .inr (.inr (.inr (.inr f))))) := h1
  rw [x_cellq h] at h2
  exact h2
theorem xWe {cy : Nat → ClassId} {a : Nat → Nat} {S : xSt} {k : Nat} (k' : Nat) {q : Nat × Nat × List Nat} {t : xTb} {x : Nat × va_E} {w : va_W} (hk : k + 1 = k') (h1 : x = (a k, xE cy a S k q)) (h2 : w = xWr cy a S k' t) : x :: w = xWr cy a S k (q :: t) := by
  subst hk
  rw [h1, h2]
  rfl
theorem xWo {cy : Nat → ClassId} {a : Nat → Nat} {S : xSt} {k ci n : Nat} {l : List Nat} {q : Nat} {fs : List Value} (h : ci < 100) (hq : q = a k) (hf : fs = xFr a S k 0 l) : ((q, .inr (ci, fs)) : Nat × va_E) = (a k, xE cy a S k (ci, n, l)) := by
  rw [xEo h, hq, hf]
theorem xD_pm {A : Nat → Prop} {cy : Nat → ClassId} {tb : xTb} {S : xSt} {ws : va_W} (hD : va_D A ws) (pm : List Nat) (h1 : pm.Nodup) (h2 : ∀ i ∈ pm, i < ws.length) (h3 : pm.length = tb.length) : va_D A (xW cy tb (fun k => (ws.map Prod.fst).getD (pm.getD k 0) 0) S) := by
  rw [xD_nd] at hD ⊢
  obtain ⟨hn, hA⟩ := hD
  have hm : ∀ k, k < tb.length → ∃ (i : Nat) (hi : i < ws.length), pm[k]? = some i ∧ (ws.map Prod.fst).getD (pm.getD k 0) 0 = ws[i].1 := by
    intro k hk
    have hk2 : k < pm.length := by omega
    have hi : pm[k] < ws.length := h2 _ (List.getElem_mem hk2)
    refine ⟨pm[k], hi, List.getElem?_eq_getElem hk2, ?_⟩
    rw [List.getD_eq_getElem?_getD, List.getD_eq_getElem?_getD, List.getElem?_eq_getElem hk2, Option.getD_some, List.getElem?_map, List.getElem?_eq_getElem hi]
    rfl
  rw [xW_fst]
  refine ⟨?_, fun q hq => ?_⟩
  · refine List.pairwise_iff_getElem.mpr fun i j hi hj hij e => ?_
    rw [List.length_map, List.length_range] at hi hj
    rw [List.getElem_map, List.getElem_map, List.getElem_range, List.getElem_range] at e
    obtain ⟨x, hx, ex, ex2⟩ := hm i hi
    obtain ⟨y, hy, ey, ey2⟩ := hm j hj
    rw [ex2, ey2] at e
    have hxy : x = y := by
      have key : ∀ (x y : Nat) (hx : x < ws.length) (hy : y < ws.length), ws[x].1 = ws[y].1 → ¬ x < y := fun x y hx hy e hl => List.pairwise_iff_getElem.mp hn x y (by rw [List.length_map]; exact hx) (by rw [List.length_map]; exact hy) hl (by rw [List.getElem_map, List.getElem_map]; exact e)
      have k1 := key x y hx hy e
      have k2 := key y x hy hx e.symm
      omega
    subst hxy
    have hp := List.pairwise_iff_getElem.mp h1 i j (by omega) (by omega) hij
    rw [List.getElem?_eq_getElem (by omega)] at ex ey
    exact hp (Option.some.inj (ex.trans ey.symm))
  · have hq2 : q.1 ∈ (xW cy tb (fun k => (ws.map Prod.fst).getD (pm.getD k 0) 0) S).map Prod.fst := List.mem_map_of_mem hq
    rw [xW_fst] at hq2
    obtain ⟨k, hk, e⟩ := List.mem_map.mp hq2
    obtain ⟨x, hx, ex, ex2⟩ := hm k (List.mem_range.mp hk)
    rw [← e, ex2]
    exact hA _ (List.getElem_mem hx)
set_option maxHeartbeats 4000000 in
set_option maxRecDepth 100000 in
theorem xM_eq {cy : Nat → ClassId} {h0 : Nat} {w : va_W} (h : is_X12 cy h0 w) : ∃ a : Nat → Nat, a 0 = h0 ∧ w = xW cy xmb a S0M := by
  obtain ⟨q1, q2, q3, q4, q5, q6, q7, q8, q9, q10, q11, q12, q13, q14, q15, q16, q17, q18, q19, q20, q21, q22, q23, q24, q25, q26, q27, q28, q29, q30, q31, q32, q33, q34, q35, q36, q37, q38, q39, q40, rfl⟩ := h
  rw [g_m0_eq, g_m1_eq, S0M_eq]
  obtain ⟨a, ha⟩ : ∃ a : Nat → Nat, a = fun k => ([h0, q1, q2, q3, q4, q5, q6, q7, q8, q9, q10, q11, q12, q13, q14, q15, q16, q17, q18, q19, q20, q21, q22, q23, q24, q25, q26, q27, q28, q29, q30, q31, q32, q33, q34, q35, q36, q37, q38, q39, q40] : List Nat).getD k 0 := ⟨_, rfl⟩
  have e0 : a 0 = h0 := by rw [ha]; rfl
  have e1 : a 1 = q1 := by rw [ha]; rfl
  have e2 : a 2 = q2 := by rw [ha]; rfl
  have e3 : a 3 = q3 := by rw [ha]; rfl
  have e4 : a 4 = q4 := by rw [ha]; rfl
  have e5 : a 5 = q5 := by rw [ha]; rfl
  have e6 : a 6 = q6 := by rw [ha]; rfl
  have e7 : a 7 = q7 := by rw [ha]; rfl
  have e8 : a 8 = q8 := by rw [ha]; rfl
  have e9 : a 9 = q9 := by rw [ha]; rfl
  have e10 : a 10 = q10 := by rw [ha]; rfl
  have e11 : a 11 = q11 := by rw [ha]; rfl
  have e12 : a 12 = q12 := by rw [ha]; rfl
  have e13 : a 13 = q13 := by rw [ha]; rfl
  have e14 : a 14 = q14 := by rw [ha]; rfl
  have e15 : a 15 = q15 := by rw [ha]; rfl
  have e16 : a 16 = q16 := by rw [ha]; rfl
  have e17 : a 17 = q17 := by rw [ha]; rfl
  have e18 : a 18 = q18 := by rw [ha]; rfl
  have e19 : a 19 = q19 := by rw [ha]; rfl
  have e20 : a 20 = q20 := by rw [ha]; rfl
  have e21 : a 21 = q21 := by rw [ha]; rfl
  have e22 : a 22 = q22 := by rw [ha]; rfl
  have e23 : a 23 = q23 := by rw [ha]; rfl
  have e24 : a 24 = q24 := by rw [ha]; rfl
  have e25 : a 25 = q25 := by rw [ha]; rfl
  have e26 : a 26 = q26 := by rw [ha]; rfl
  have e27 : a 27 = q27 := by rw [ha]; rfl
  have e28 : a 28 = q28 := by rw [ha]; rfl
  have e29 : a 29 = q29 := by rw [ha]; rfl
  have e30 : a 30 = q30 := by rw [ha]; rfl
  have e31 : a 31 = q31 := by rw [ha]; rfl
  have e32 : a 32 = q32 := by rw [ha]; rfl
  have e33 : a 33 = q33 := by rw [ha]; rfl
  have e34 : a 34 = q34 := by rw [ha]; rfl
  have e35 : a 35 = q35 := by rw [ha]; rfl
  have e36 : a 36 = q36 := by rw [ha]; rfl
  have e37 : a 37 = q37 := by rw [ha]; rfl
  have e38 : a 38 = q38 := by rw [ha]; rfl
  have e39 : a 39 = q39 := by rw [ha]; rfl
  have e40 : a 40 = q40 := by rw [ha]; rfl
  clear ha
  subst e0
  subst e1
  subst e2
  subst e3
  subst e4
  subst e5
  subst e6
  subst e7
  subst e8
  subst e9
  subst e10
  subst e11
  subst e12
  subst e13
  subst e14
  subst e15
  subst e16
  subst e17
  subst e18
  subst e19
  subst e20
  subst e21
  subst e22
  subst e23
  subst e24
  subst e25
  subst e26
  subst e27
  subst e28
  subst e29
  subst e30
  subst e31
  subst e32
  subst e33
  subst e34
  subst e35
  subst e36
  subst e37
  subst e38
  subst e39
  subst e40
  refine ⟨a, rfl, ?_⟩
  rw [xW_r]
  unfold xmb
  refine xWe 1 rfl (xWo (by decide) rfl rfl) ?_
  refine xWe 2 rfl rfl ?_
  refine xWe 3 rfl rfl ?_
  refine xWe 4 rfl rfl ?_
  refine xWe 5 rfl rfl ?_
  refine xWe 6 rfl rfl ?_
  refine xWe 7 rfl rfl ?_
  refine xWe 8 rfl rfl ?_
  refine xWe 9 rfl rfl ?_
  refine xWe 10 rfl rfl ?_
  refine xWe 11 rfl rfl ?_
  refine xWe 12 rfl rfl ?_
  refine xWe 13 rfl rfl ?_
  refine xWe 14 rfl rfl ?_
  refine xWe 15 rfl rfl ?_
  refine xWe 16 rfl rfl ?_
  refine xWe 17 rfl rfl ?_
  refine xWe 18 rfl rfl ?_
  refine xWe 19 rfl rfl ?_
  refine xWe 20 rfl rfl ?_
  refine xWe 21 rfl rfl ?_
  refine xWe 22 rfl rfl ?_
  refine xWe 23 rfl rfl ?_
  refine xWe 24 rfl rfl ?_
  refine xWe 25 rfl rfl ?_
  refine xWe 26 rfl rfl ?_
  refine xWe 27 rfl rfl ?_
  refine xWe 28 rfl rfl ?_
  refine xWe 29 rfl rfl ?_
  refine xWe 30 rfl rfl ?_
  refine xWe 31 rfl rfl ?_
  refine xWe 32 rfl rfl ?_
  refine xWe 33 rfl rfl ?_
  refine xWe 34 rfl rfl ?_
  refine xWe 35 rfl rfl ?_
  refine xWe 36 rfl rfl ?_
  refine xWe 37 rfl rfl ?_
  refine xWe 38 rfl rfl ?_
  refine xWe 39 rfl rfl ?_
  refine xWe 40 rfl rfl ?_
  refine xWe 41 rfl rfl ?_
  rfl
