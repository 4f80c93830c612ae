/-! part aj: the worlds that the constructors leave -/
theorem xW_fst {cy : Nat → ClassId} {tb : xTb} {a : Nat → Nat} {S : xSt} : (xW cy tb a S).map Prod.fst = (List.range tb.length).map a := by
  apply List.ext_getElem?
  intro k
  rw [List.getElem?_map, List.getElem?_map, xW_at]
  by_cases h : k < tb.length
  · rw [List.getElem?_range h, List.getElem?_eq_getElem h]; rfl
  · rw [List.getElem?_eq_none (by omega), List.getElem?_eq_none (by simpa using h)]; rfl
def g_m2 : Nat → Int32 := fun j => if j = 5 then -2 else 0
def g_90 : Nat → Int32 := fun j => if j = 10 then 90 else 0
def S1X : xSt := (fun k => if k = 16 then g_90 else if k = 26 then g_90 else if k = 36 then g_90 else if k = 46 then g_90 else if k = 56 then g_90 else if k = 66 then g_90 else if k = 76 then g_90 else if k = 24 then g_m2 else if k = 34 then g_m2 else if k = 44 then g_m2 else if k = 54 then g_m2 else if k = 64 then g_m2 else if k = 74 then g_m2 else if k = 84 then g_m2 else fun _ => 0, fun _ _ => 0)
theorem g_m2_eq : (upd (upd (upd (upd (upd (upd (fun _ => (0 : Int32)) (0 : Int32).toNatClampNeg (0 : Int32)) (1 : Int32).toNatClampNeg (0 : Int32)) (2 : Int32).toNatClampNeg (0 : Int32)) (3 : Int32).toNatClampNeg (0 : Int32)) (4 : Int32).toNatClampNeg (0 : Int32)) (5 : Int32).toNatClampNeg (-2 : Int32)) = g_m2 := by
  funext j
  simp only [upd, g_m2]
  by_cases h : j = 5
  · subst h; rfl
  · have e0 : (0 : Int32).toNatClampNeg = 0 := rfl
    have e1 : (1 : Int32).toNatClampNeg = 1 := rfl
    have e2 : (2 : Int32).toNatClampNeg = 2 := rfl
    have e3 : (3 : Int32).toNatClampNeg = 3 := rfl
    have e4 : (4 : Int32).toNatClampNeg = 4 := rfl
    have e5 : (5 : Int32).toNatClampNeg = 5 := rfl
    simp [e0, e1, e2, e3, e4, e5, h]
theorem x_cellq {cA : ClassId} {n : Nat} {f g : Nat → Option Nat} (h : ∀ j, j < n → f j = g j) : vp_cell cA (n, .inr (.inr (.inr (.inr f)))) = vp_cell cA (n, .inr (.inr (.inr (.inr g)))) := by
  rw [vp_cell_q, vp_cell_q]
  unfold arrV
  have e : (fun j : Fin n => va_rf (f j.val)) = fun j : Fin n => va_rf (g j.val) := funext fun j => by rw [h j.val j.isLt]
  rw [e]
theorem xP_setq {D : va_G} {cl : List vw_C} {ws : va_W} {H : Heap} (k : Nat) {q : Nat} {cA : ClassId} {n : Nat} {f : Nat → Option Nat} (g : Nat → Option Nat) (hP : va_P D cl ws H) (ha : ws[k]? = some (q, .inl (cA, n, .inr (.inr (.inr (.inr f)))))) (h : ∀ j, j < n → f j = g j) : va_P D cl (ws.set k (q, .inl (cA, n, .inr (.inr (.inr (.inr g)))))) H := by
  intro i x hx
  have hl := (List.getElem?_eq_some_iff.mp ha).1
  by_cases hi : i = k
  · subst hi
    rw [List.getElem?_set_self hl] at hx
    cases hx
    have h2 := hP i _ ha
    show H[q]? = some (vp_cell cA (n, .inr (.inr (.inr (.inr g)))))
    rw [← x_cellq h]
    exact h2
  · rw [List.getElem?_set_ne (Ne.symm hi)] at hx
    exact hP i x hx
theorem S0X_eq : S0X = S1X := by
  refine Prod.ext (funext fun k => funext fun j => ?_) rfl
  show ki (i0X k j) = S1X.1 k j
  unfold i0X S1X g_90 g_m2
  by_cases h : k = 16 ∨ k = 26 ∨ k = 36 ∨ k = 46 ∨ k = 56 ∨ k = 66 ∨ k = 76
  · rcases h with rfl | rfl | rfl | rfl | rfl | rfl | rfl <;> by_cases hj : j = 10 <;> simp [hj] <;> rfl
  · by_cases h2 : k = 24 ∨ k = 34 ∨ k = 44 ∨ k = 54 ∨ k = 64 ∨ k = 74 ∨ k = 84
    · rcases h2 with rfl | rfl | rfl | rfl | rfl | rfl | rfl <;> by_cases hj : j = 5 <;> simp [hj] <;> rfl
    · rw [if_neg (fun q => h q.1), if_neg (fun q => h2 q.1)]
      have hn2 : ∀ n, (n = 16 ∨ n = 26 ∨ n = 36 ∨ n = 46 ∨ n = 56 ∨ n = 66 ∨ n = 76 ∨ n = 24 ∨ n = 34 ∨ n = 44 ∨ n = 54 ∨ n = 64 ∨ n = 74 ∨ n = 84) → ¬ k = n := by omega
      simp only [hn2 16 (by decide), hn2 26 (by decide), hn2 36 (by decide), hn2 46 (by decide), hn2 56 (by decide), hn2 66 (by decide), hn2 76 (by decide), hn2 24 (by decide), hn2 34 (by decide), hn2 44 (by decide), hn2 54 (by decide), hn2 64 (by decide), hn2 74 (by decide), hn2 84 (by decide), if_false]
      rfl
def xFr (a : Nat → Nat) (S : xSt) (k : Nat) : Nat → List Nat → List Value
  | _, [] => []
  | j, c :: t => xV a S k j c :: xFr a S k (j + 1) t
theorem xF_rg (a : Nat → Nat) (S : xSt) (k : Nat) : ∀ (l : List Nat) (j : Nat), l.mapIdx (fun i c => xV a S k (j + i) c) = xFr a S k j l
  | [], _ => rfl
  | c :: t, j => by
    rw [List.mapIdx_cons, xFr, ← xF_rg a S k t (j + 1)]
    have e : (fun i c => xV a S k (j + (i + 1)) c) = fun i c => xV a S k (j + 1 + i) c := funext fun i => funext fun c => by rw [show j + (i + 1) = j + 1 + i by omega]
    rw [Nat.add_zero, e]
theorem xF_r (a : Nat → Nat) (S : xSt) (k : Nat) (l : List Nat) : xF a S k l = xFr a S k 0 l := by
  rw [← xF_rg]
  unfold xF
  simp only [Nat.zero_add]
def xWr (cy : Nat → ClassId) (a : Nat → Nat) (S : xSt) : Nat → xTb → va_W
  | _, [] => []
  | k, q :: t => (a k, xE cy a S k q) :: xWr cy a S (k + 1) t
theorem xW_rg (cy : Nat → ClassId) (a : Nat → Nat) (S : xSt) : ∀ (l : xTb) (k : Nat), l.mapIdx (fun i q => (a (k + i), xE cy a S (k + i) q)) = xWr cy a S k l
  | [], _ => rfl
  | q :: t, k => by
    rw [List.mapIdx_cons, xWr, ← xW_rg cy a S t (k + 1)]
    have e : (fun i q => (a (k + (i + 1)), xE cy a S (k + (i + 1)) q)) = fun i q => (a (k + 1 + i), xE cy a S (k + 1 + i) q) := funext fun i => funext fun c => by rw [show k + (i + 1) = k + 1 + i by omega]
    rw [Nat.add_zero, e]
theorem xW_r (cy : Nat → ClassId) (a : Nat → Nat) (S : xSt) (l : xTb) : xW cy l a S = xWr cy a S 0 l := by
  rw [← xW_rg]
  unfold xW
  simp only [Nat.zero_add]
theorem xEo {cy : Nat → ClassId} {a : Nat → Nat} {S : xSt} {k ci n : Nat} {l : List Nat} (h : ci < 100) : xE cy a S k (ci, n, l) = .inr (ci, xFr a S k 0 l) := by
  unfold xE
  rw [if_pos h, xF_r]
theorem xPr {D : va_G} {cy : Nat → ClassId} {a : Nat → Nat} {S : xSt} {H : Heap} {k : Nat} (k' : Nat) {q : Nat × Nat × List Nat} {t : xTb} (hk : k + 1 = k') (h1 : va_at D vwCl (a k, xE cy a S k q) H) (h2 : va_P D vwCl (xWr cy a S k' t) H) : va_P D vwCl (xWr cy a S k (q :: t)) H := by
  subst hk
  intro i x hx
  cases i with
  | zero => cases hx; exact h1
  | succ i => exact h2 i x hx
theorem xPo {D : va_G} {cy : Nat → ClassId} {a : Nat → Nat} {S : xSt} {H : Heap} {k q ci n : Nat} {l : List Nat} (h : ci < 100) (h1 : va_at D vwCl (q, .inr (ci, xFr a S k 0 l)) H) : va_at D vwCl (q, xE cy a S k (ci, n, l)) H := by
  rw [xEo h]
  exact h1
theorem xP0 {D : va_G} {cy : Nat → ClassId} {a : Nat → Nat} {S : xSt} {H : Heap} {k q n : Nat} {l : List Nat} (h1 : va_at D vwCl (q, .inl (cy 0, n, .inl (S.1 k))) H) : va_at D vwCl (q, xE cy a S k (100, n, l)) H := h1
theorem xP3 {D : va_G} {cy : Nat → ClassId} {a : Nat → Nat} {S : xSt} {H : Heap} {k q n : Nat} {l : List Nat} (h1 : va_at D vwCl (q, .inl (cy 3, n, .inr (.inl (S.2 k)))) H) : va_at D vwCl (q, xE cy a S k (103, n, l)) H := h1
theorem xP4 {D : va_G} {cy : Nat → ClassId} {a : Nat → Nat} {S : xSt} {H : Heap} {k q n b0 b1 : Nat} {f : Nat → Option Nat} (h1 : va_at D vwCl (q, .inl (cy 4, n, .inr (.inr (.inr (.inr f))))) H) (h : ∀ j, j < n → f j = some (a (b0 + b1 * j))) : va_at D vwCl (q, xE cy a S k (104, n, [b0, b1])) H := by
  have h2 : H[q]? = some (vp_cell (cy 4) (n, .inr (.inr (.inr (.inr f))))) := h1
  rw [x_cellq h] at h2
  exact h2
theorem xP5 {D : va_G} {cy : Nat → ClassId} {a : Nat → Nat} {S : xSt} {H : Heap} {k q n b0 b1 : Nat} {f : Nat → Option Nat} (h1 : va_at D vwCl (q, .inl (cy 5, n, .inr (.inr (.inr (.inr f))))) H) (h : ∀ j, j < n → f j = some (a (b0 + b1 * j))) : va_at D vwCl (q, xE cy a S k (105, n, [b0, b1])) H := by
  have h2 : H[q]? = some (vp_cell (cy 5) (n, .inr (.inr (.inr (.inr f))))) := h1
  rw [x_cellq h] at h2
  exact h2
theorem xWe {cy : Nat → ClassId} {a : Nat → Nat} {S : xSt} {k : Nat} (k' : Nat) {q : Nat × Nat × List Nat} {t : xTb} {x : Nat × va_E} {w : va_W} (hk : k + 1 = k') (h1 : x = (a k, xE cy a S k q)) (h2 : w = xWr cy a S k' t) : x :: w = xWr cy a S k (q :: t) := by
  subst hk
  rw [h1, h2]
  rfl
theorem xWo {cy : Nat → ClassId} {a : Nat → Nat} {S : xSt} {k ci n : Nat} {l : List Nat} {q : Nat} {fs : List Value} (h : ci < 100) (hq : q = a k) (hf : fs = xFr a S k 0 l) : ((q, .inr (ci, fs)) : Nat × va_E) = (a k, xE cy a S k (ci, n, l)) := by
  rw [xEo h, hq, hf]
theorem xD_pm {A : Nat → Prop} {cy : Nat → ClassId} {tb : xTb} {S : xSt} {ws : va_W} (hD : va_D A ws) (pm : List Nat) (h1 : pm.Nodup) (h2 : ∀ i ∈ pm, i < ws.length) (h3 : pm.length = tb.length) : va_D A (xW cy tb (fun k => (ws.map Prod.fst).getD (pm.getD k 0) 0) S) := by
  rw [xD_nd] at hD ⊢
  obtain ⟨hn, hA⟩ := hD
  have hm : ∀ k, k < tb.length → ∃ (i : Nat) (hi : i < ws.length), pm[k]? = some i ∧ (ws.map Prod.fst).getD (pm.getD k 0) 0 = ws[i].1 := by
    intro k hk
    have hk2 : k < pm.length := by omega
    have hi : pm[k] < ws.length := h2 _ (List.getElem_mem hk2)
    refine ⟨pm[k], hi, List.getElem?_eq_getElem hk2, ?_⟩
    rw [List.getD_eq_getElem?_getD, List.getD_eq_getElem?_getD, List.getElem?_eq_getElem hk2, Option.getD_some, List.getElem?_map, List.getElem?_eq_getElem hi]
    rfl
  rw [xW_fst]
  refine ⟨?_, fun q hq => ?_⟩
  · refine List.pairwise_iff_getElem.mpr fun i j hi hj hij e => ?_
    rw [List.length_map, List.length_range] at hi hj
    rw [List.getElem_map, List.getElem_map, List.getElem_range, List.getElem_range] at e
    obtain ⟨x, hx, ex, ex2⟩ := hm i hi
    obtain ⟨y, hy, ey, ey2⟩ := hm j hj
    rw [ex2, ey2] at e
    have hxy : x = y := by
      have key : ∀ (x y : Nat) (hx : x < ws.length) (hy : y < ws.length), ws[x].1 = ws[y].1 → ¬ x < y := fun x y hx hy e hl => List.pairwise_iff_getElem.mp hn x y (by rw [List.length_map]; exact hx) (by rw [List.length_map]; exact hy) hl (by rw [List.getElem_map, List.getElem_map]; exact e)
      have k1 := key x y hx hy e
      have k2 := key y x hy hx e.symm
      omega
    subst hxy
    have hp := List.pairwise_iff_getElem.mp h1 i j (by omega) (by omega) hij
    rw [List.getElem?_eq_getElem (by omega)] at ex ey
    exact hp (Option.some.inj (ex.trans ey.symm))
  · have hq2 : q.1 ∈ (xW cy tb (fun k => (ws.map Prod.fst).getD (pm.getD k 0) 0) S).map Prod.fst := List.mem_map_of_mem hq
    rw [xW_fst] at hq2
    obtain ⟨k, hk, e⟩ := List.mem_map.mp hq2
    obtain ⟨x, hx, ex, ex2⟩ := hm k (List.mem_range.mp hk)
    rw [← e, ex2]
    exact hA _ (List.getElem_mem hx)
