/-! part 9j: how a law's text is read, on paper: fault or steps -/
abbrev Sp2 : Type := Int × Int
abbrev Prs : Type := Int ⊕ (Int × List Sp2)
def nmO (b : Int) : Int := if b = 100 then 0 else if b = 104 then 1 else if b = 97 then 2 else if b = 115 then 3 else if b = 110 then 4 else if b = 108 then 5 else -1
def lvO (b : Int) : Int := if b = 124 then 0 else if b = 38 then 1 else if b = 60 ∨ b = 61 ∨ b = 62 then 2 else if b = 43 ∨ b = 45 then 3 else if b = 42 ∨ b = 47 ∨ b = 37 then 4 else -1
def chT (t : Int → Int) (T h : Int) : Int := if h < T then t h else -1
abbrev isd (b : Int) : Prop := 48 ≤ b ∧ b ≤ 57
def dgT (t : Int → Int) (T : Int) : Nat → Int → Int → Int × Int
  | 0, h, v => (h, v)
  | n + 1, h, v => if isd (chT t T h) then dgT t T n (h + 1) (10 * v + chT t T h - 48) else (h, v)
def lpz (t : Int → Int) (T : Int) (rc : Int → Prs) (L : Int) : Nat → Int → List Sp2 → Prs
  | 0, h, o => .inr (h, o)
  | n + 1, h, o => if lvO (chT t T h) = L then (match rc (h + 1) with | .inl x => .inl x | .inr p => lpz t T rc L n p.1 (o ++ (p.2 ++ [(chT t T h, 0)]))) else .inr (h, o)
def mst (L : Int) : Nat := if L = 2 then 1 else 120
def lev (t : Int → Int) (T : Int) (u : Int → Prs) : Nat → Int → Prs
  | 0, h => u h
  | j + 1, h => match lev t T u j h with | .inl x => .inl x | .inr p => lpz t T (lev t T u j) (4 - (j : Int)) (mst (4 - (j : Int))) p.1 p.2
def opP (t : Int → Int) (T : Int) (r : Prs) : Prs := match r with | .inl x => .inl x | .inr p => if chT t T p.1 = 41 then .inr (p.1 + 1, p.2) else .inl p.1
def opM (a : Int) (r : Prs) : Prs := match r with | .inl x => .inl x | .inr p => .inr (p.1, p.2 ++ [(a, 0)])
def lvN (t : Int → Int) (T : Int) (rc : Int → Prs) (L : Int) (r : Prs) : Prs := match r with | .inl x => .inl x | .inr p => lpz t T rc L (mst L) p.1 p.2
def pU (t : Int → Int) (T : Int) (can : Bool) (ru r0 : Int → Prs) (h : Int) : Prs :=
  if isd (chT t T h) then (if isd (chT t T (dgT t T 4 h 0).1) then .inl (dgT t T 4 h 0).1 else .inr ((dgT t T 4 h 0).1, [(35, (dgT t T 4 h 0).2)]))
  else if 0 ≤ nmO (chT t T h) then .inr (h + 1, [(64, nmO (chT t T h))])
  else if chT t T h = 40 then (if can = true then opP t T (r0 (h + 1)) else .inl h)
  else if chT t T h = 33 ∨ chT t T h = 45 then (if can = true then opM (if chT t T h = 33 then 33 else 126) (ru (h + 1)) else .inl h)
  else .inl h
def un (t : Int → Int) (T : Int) : Nat → Int → Prs
  | 0, h => pU t T false (fun _ => .inl 0) (fun _ => .inl 0) h
  | f + 1, h => pU t T true (un t T f) (lev t T (un t T f) 5) h
/-- steps that work on a pile: from n places to m -/
def sgL : List Sp2 → Int → Int → Prop
  | [], n, m => n = m
  | s :: l, n, m => (s.1 = 35 ∧ 0 ≤ n ∧ n < 60 ∧ -2147483648 ≤ s.2 ∧ s.2 < 2147483648 ∧ sgL l (n + 1) m) ∨ (s.1 = 64 ∧ 0 ≤ s.2 ∧ s.2 < 6 ∧ 0 ≤ n ∧ n < 60 ∧ sgL l (n + 1) m) ∨ ((s.1 = 33 ∨ s.1 = 126) ∧ 1 ≤ n ∧ n ≤ 60 ∧ sgL l n m) ∨ (isop s.1 ∧ 2 ≤ n ∧ n ≤ 60 ∧ sgL l (n - 1) m)
theorem sgL_ap : ∀ {l l' : List Sp2} {n m k : Int}, sgL l n m → sgL l' m k → sgL (l ++ l') n k
  | [], l', n, m, k, h, h' => by
    have e : n = m := h
    subst e; exact h'
  | s :: l, l', n, m, k, h, h' => by
    rcases h with ⟨a, b, c, d, e, h⟩ | ⟨a, b, c, d, e, h⟩ | ⟨a, b, c, h⟩ | ⟨a, b, c, h⟩
    · exact Or.inl ⟨a, b, c, d, e, sgL_ap h h'⟩
    · exact Or.inr (Or.inl ⟨a, b, c, d, e, sgL_ap h h'⟩)
    · exact Or.inr (Or.inr (Or.inl ⟨a, b, c, sgL_ap h h'⟩))
    · exact Or.inr (Or.inr (Or.inr ⟨a, b, c, sgL_ap h h'⟩))
/-- steps in arrays -/
theorem sg_of {cd ag : Int → Int} : ∀ {l : List Sp2} {i n m : Int}, (∀ (j : Nat) (s : Sp2), l[j]? = some s → cd (i + j) = s.1 ∧ ag (i + j) = s.2) → sgL l n m → sg cd ag l.length i n m
  | [], i, n, m, _, h => h
  | s :: l, i, n, m, ha, h => by
    have h0 := ha 0 s rfl
    rw [show i + ((0 : Nat) : Int) = i by omega] at h0
    have hl : ∀ {n m : Int}, sgL l n m → sg cd ag l.length (i + 1) n m := fun q => sg_of (fun j s' hj => by
      have := ha (j + 1) s' hj
      rwa [show i + ((j + 1 : Nat) : Int) = i + 1 + (j : Int) by omega] at this) q
    show (cd i = 35 ∧ 0 ≤ n ∧ n < 60 ∧ -2147483648 ≤ ag i ∧ ag i < 2147483648 ∧ sg cd ag l.length (i + 1) (n + 1) m) ∨ (cd i = 64 ∧ 0 ≤ ag i ∧ ag i < 6 ∧ 0 ≤ n ∧ n < 60 ∧ sg cd ag l.length (i + 1) (n + 1) m) ∨ ((cd i = 33 ∨ cd i = 126) ∧ 1 ≤ n ∧ n ≤ 60 ∧ sg cd ag l.length (i + 1) n m) ∨ (isop (cd i) ∧ 2 ≤ n ∧ n ≤ 60 ∧ sg cd ag l.length (i + 1) (n - 1) m)
    rw [h0.1, h0.2]
    rcases h with ⟨a, b, c, d, e, h⟩ | ⟨a, b, c, d, e, h⟩ | ⟨a, b, c, h⟩ | ⟨a, b, c, h⟩
    · exact Or.inl ⟨a, b, c, d, e, hl h⟩
    · exact Or.inr (Or.inl ⟨a, b, c, d, e, hl h⟩)
    · exact Or.inr (Or.inr (Or.inl ⟨a, b, c, hl h⟩))
    · exact Or.inr (Or.inr (Or.inr ⟨a, b, c, hl h⟩))
/-- what a reading gives: a fault from h on, or steps for what was read, one place more on the pile -/
def gdR (B T h : Int) (r : Prs) : Prop := match r with | .inl x => h ≤ x ∧ x ≤ T | .inr p => h < p.1 ∧ p.1 ≤ T ∧ (p.2.length : Int) ≤ p.1 - h ∧ ∀ n, 0 ≤ n → n ≤ B → sgL p.2 n (n + 1)
theorem lv_op {b L : Int} (h : lvO b = L) (hL : 0 ≤ L) : isop b := by
  unfold lvO at h
  unfold isop
  omega
theorem ch_in {t : Int → Int} {T h b : Int} (e : chT t T h = b) (hb : b ≠ -1) : h < T ∧ t h = b := by
  unfold chT at e
  by_cases hh : h < T
  · rw [if_pos hh] at e; exact ⟨hh, e⟩
  · rw [if_neg hh] at e; exact absurd e.symm hb
theorem lv_in {t : Int → Int} {T h L : Int} (e : lvO (chT t T h) = L) (hL : 0 ≤ L) : h < T := by
  have h1 : chT t T h ≠ -1 := fun q => by
    rw [q] at e
    have e' : (-1 : Int) = L := e
    omega
  exact (ch_in rfl h1).1
theorem lpz_gd {t : Int → Int} {T B L h0 : Int} {rc : Int → Prs} (hL : 0 ≤ L) (B1 : B ≤ 50) (hr : ∀ h, h0 ≤ h → h ≤ T → gdR (B + 1) T h (rc h)) : ∀ (n : Nat) (h : Int) (o : List Sp2), h0 < h → h ≤ T → (o.length : Int) ≤ h - h0 → (∀ n, 0 ≤ n → n ≤ B → sgL o n (n + 1)) → gdR B T h0 (lpz t T rc L n h o)
  | 0, h, o, a1, a2, a3, a4 => ⟨a1, a2, a3, a4⟩
  | n + 1, h, o, a1, a2, a3, a4 => by
    show gdR B T h0 (if lvO (chT t T h) = L then (match rc (h + 1) with | .inl x => .inl x | .inr p => lpz t T rc L n p.1 (o ++ (p.2 ++ [(chT t T h, 0)]))) else .inr (h, o))
    by_cases hc : lvO (chT t T h) = L
    · rw [if_pos hc]
      have hin := lv_in hc hL
      have hop := lv_op hc hL
      have q := hr (h + 1) (by omega) (by omega)
      cases e : rc (h + 1) with
      | inl x =>
        rw [e] at q
        have q' : h + 1 ≤ x ∧ x ≤ T := q
        exact ⟨by omega, q'.2⟩
      | inr p =>
        rw [e] at q
        obtain ⟨q1, q2, q3, q4⟩ := q
        refine lpz_gd hL B1 hr n p.1 _ (by omega) q2 ?_ (fun n n0 n1 => ?_)
        · rw [List.length_append, List.length_append]
          show ((o.length + (p.2.length + 1) : Nat) : Int) ≤ _
          omega
        · refine sgL_ap (a4 n n0 n1) (sgL_ap (q4 (n + 1) (by omega) (by omega)) ?_)
          refine Or.inr (Or.inr (Or.inr ⟨hop, by omega, by omega, ?_⟩))
          show n + 1 + 1 - 1 = n + 1
          omega
    · rw [if_neg hc]
      exact ⟨a1, a2, a3, a4⟩
theorem lev_gd {t : Int → Int} {T B : Int} {u : Int → Prs} (B1 : B ≤ 45) (hu : ∀ h, 0 ≤ h → h ≤ T → gdR (B + 5) T h (u h)) : ∀ (j : Nat), j ≤ 5 → ∀ h, 0 ≤ h → h ≤ T → gdR (B + 5 - j) T h (lev t T u j h)
  | 0, _, h, h0, h1 => by rw [show B + 5 - ((0 : Nat) : Int) = B + 5 by omega]; exact hu h h0 h1
  | j + 1, hj, h, h0, h1 => by
    have ih := lev_gd (t := t) B1 hu j (by omega)
    have q := ih h h0 h1
    show gdR (B + 5 - (j + 1 : Nat)) T h (match lev t T u j h with | .inl x => .inl x | .inr p => lpz t T (lev t T u j) (4 - (j : Int)) (mst (4 - (j : Int))) p.1 p.2)
    cases e : lev t T u j h with
    | inl x => rw [e] at q; exact q
    | inr p =>
      rw [e] at q
      obtain ⟨q1, q2, q3, q4⟩ := q
      exact lpz_gd (by omega) (by omega) (fun h' a1 a2 => by rw [show B + 5 - ((j + 1 : Nat) : Int) + 1 = B + 5 - (j : Int) by omega]; exact ih h' (by omega) a2) _ p.1 p.2 q1 q2 q3 (fun n n0 n1 => q4 n n0 (by omega))
theorem dg_b {t : Int → Int} {T : Int} : ∀ (n : Nat) (h v : Int), 0 ≤ h → h ≤ T → 0 ≤ v → h ≤ (dgT t T n h v).1 ∧ (dgT t T n h v).1 ≤ T ∧ 0 ≤ (dgT t T n h v).2 ∧ (v < 10 ^ (4 - n) → n ≤ 4 → (dgT t T n h v).2 < 10000)
  | 0, h, v, h0, h1, v0 => ⟨Int.le_refl _, h1, v0, fun q _ => q⟩
  | n + 1, h, v, h0, h1, v0 => by
    show h ≤ (if isd (chT t T h) then dgT t T n (h + 1) (10 * v + chT t T h - 48) else (h, v)).1 ∧ (if isd (chT t T h) then dgT t T n (h + 1) (10 * v + chT t T h - 48) else (h, v)).1 ≤ T ∧ 0 ≤ (if isd (chT t T h) then dgT t T n (h + 1) (10 * v + chT t T h - 48) else (h, v)).2 ∧ (v < 10 ^ (4 - (n + 1)) → n + 1 ≤ 4 → (if isd (chT t T h) then dgT t T n (h + 1) (10 * v + chT t T h - 48) else (h, v)).2 < 10000)
    by_cases hd : isd (chT t T h)
    · rw [if_pos hd]
      have hin := (ch_in (t := t) (T := T) (h := h) rfl (by omega)).1
      obtain ⟨a1, a2, a3, a4⟩ := dg_b (t := t) (T := T) n (h + 1) (10 * v + chT t T h - 48) (by omega) (by omega) (by omega)
      refine ⟨by omega, a2, a3, fun q hn => a4 ?_ (by omega)⟩
      have hn' : n = 0 ∨ n = 1 ∨ n = 2 ∨ n = 3 := by omega
      rcases hn' with rfl | rfl | rfl | rfl
      · have q' : v < 1000 := q
        show 10 * v + chT t T h - 48 < 10000
        omega
      · have q' : v < 100 := q
        show 10 * v + chT t T h - 48 < 1000
        omega
      · have q' : v < 10 := q
        show 10 * v + chT t T h - 48 < 100
        omega
      · have q' : v < 1 := q
        show 10 * v + chT t T h - 48 < 10
        omega
    · rw [if_neg hd]
      refine ⟨Int.le_refl _, h1, v0, fun q hn => ?_⟩
      have hn' : n = 0 ∨ n = 1 ∨ n = 2 ∨ n = 3 := by omega
      rcases hn' with rfl | rfl | rfl | rfl
      · have q' : v < 1000 := q
        show v < 10000
        omega
      · have q' : v < 100 := q
        show v < 10000
        omega
      · have q' : v < 10 := q
        show v < 10000
        omega
      · have q' : v < 1 := q
        show v < 10000
        omega
theorem nm_b (b : Int) : nmO b = -1 ∨ (0 ≤ nmO b ∧ nmO b < 6 ∧ b ≠ -1) := by unfold nmO; omega
theorem dg_1 {t : Int → Int} {T h : Int} (h0 : 0 ≤ h) (hT : h ≤ T) (hd : isd (chT t T h)) : h < (dgT t T 4 h 0).1 ∧ (dgT t T 4 h 0).1 ≤ T ∧ 0 ≤ (dgT t T 4 h 0).2 ∧ (dgT t T 4 h 0).2 < 10000 := by
  have e : dgT t T 4 h 0 = dgT t T 3 (h + 1) (10 * 0 + chT t T h - 48) := if_pos hd
  have hin := (ch_in (t := t) (T := T) (h := h) rfl (by omega)).1
  obtain ⟨a1, a2, a3, a4⟩ := dg_b (t := t) (T := T) 3 (h + 1) (10 * 0 + chT t T h - 48) (by omega) (by omega) (by omega)
  rw [e]
  refine ⟨by omega, a2, a3, a4 ?_ (by omega)⟩
  show 10 * 0 + chT t T h - 48 < 10
  omega
theorem pU_gd {t : Int → Int} {T B : Int} {can : Bool} {ru r0 : Int → Prs} (B1 : B ≤ 50) (h1 : can = true → ∀ h, 0 ≤ h → h ≤ T → gdR B T h (ru h) ∧ gdR B T h (r0 h)) {h : Int} (h0 : 0 ≤ h) (hT : h ≤ T) : gdR B T h (pU t T can ru r0 h) := by
  unfold pU
  by_cases hd : isd (chT t T h)
  · rw [if_pos hd]
    obtain ⟨a1, a2, a3, a4⟩ := dg_1 h0 hT hd
    by_cases hd2 : isd (chT t T (dgT t T 4 h 0).1)
    · rw [if_pos hd2]; exact ⟨by omega, a2⟩
    · rw [if_neg hd2]
      refine ⟨a1, a2, ?_, fun n n0 n1 => Or.inl ⟨rfl, n0, by omega, ?_, ?_, rfl⟩⟩
      · show ((1 : Nat) : Int) ≤ _
        omega
      · show -2147483648 ≤ (dgT t T 4 h 0).2
        omega
      · show (dgT t T 4 h 0).2 < 2147483648
        omega
  · rw [if_neg hd]
    by_cases hn : 0 ≤ nmO (chT t T h)
    · rw [if_pos hn]
      have b := nm_b (chT t T h)
      have b' : nmO (chT t T h) < 6 ∧ chT t T h ≠ -1 := by
        rcases b with b | b
        · omega
        · exact b.2
      have hin := (ch_in (t := t) (T := T) (h := h) rfl b'.2).1
      refine ⟨?_, ?_, ?_, fun n n0 n1 => Or.inr (Or.inl ⟨rfl, hn, b'.1, n0, by omega, rfl⟩)⟩
      · show h < h + 1
        omega
      · show h + 1 ≤ T
        omega
      · show ((1 : Nat) : Int) ≤ h + 1 - h
        omega
    · rw [if_neg hn]
      by_cases hp : chT t T h = 40
      · rw [if_pos hp]
        have hin := (ch_in hp (by decide)).1
        by_cases hc : can = true
        · rw [if_pos hc]
          have q := (h1 hc (h + 1) (by omega) (by omega)).2
          cases e : r0 (h + 1) with
          | inl x =>
            rw [e] at q
            have q' : h + 1 ≤ x ∧ x ≤ T := q
            exact ⟨by omega, q'.2⟩
          | inr p =>
            rw [e] at q
            obtain ⟨q1, q2, q3, q4⟩ := q
            show gdR B T h (if chT t T p.1 = 41 then .inr (p.1 + 1, p.2) else .inl p.1)
            by_cases hr : chT t T p.1 = 41
            · rw [if_pos hr]
              have hin2 := (ch_in hr (by decide)).1
              refine ⟨?_, ?_, ?_, q4⟩
              · show h < p.1 + 1
                omega
              · show p.1 + 1 ≤ T
                omega
              · show (p.2.length : Int) ≤ p.1 + 1 - h
                omega
            · rw [if_neg hr]; exact ⟨by omega, q2⟩
        · rw [if_neg hc]; exact ⟨Int.le_refl _, hT⟩
      · rw [if_neg hp]
        by_cases hm : chT t T h = 33 ∨ chT t T h = 45
        · rw [if_pos hm]
          have hin := (ch_in (t := t) (T := T) (h := h) rfl (by omega)).1
          by_cases hc : can = true
          · rw [if_pos hc]
            have q := (h1 hc (h + 1) (by omega) (by omega)).1
            cases e : ru (h + 1) with
            | inl x =>
              rw [e] at q
              have q' : h + 1 ≤ x ∧ x ≤ T := q
              exact ⟨by omega, q'.2⟩
            | inr p =>
              rw [e] at q
              obtain ⟨q1, q2, q3, q4⟩ := q
              refine ⟨?_, q2, ?_, fun n n0 n1 => sgL_ap (q4 n n0 n1) (Or.inr (Or.inr (Or.inl ⟨?_, by omega, by omega, rfl⟩)))⟩
              · show h < p.1
                omega
              · rw [List.length_append]
                show ((p.2.length + 1 : Nat) : Int) ≤ p.1 - h
                omega
              · show (if chT t T h = 33 then (33 : Int) else 126) = 33 ∨ (if chT t T h = 33 then (33 : Int) else 126) = 126
                by_cases e3 : chT t T h = 33
                · rw [if_pos e3]; exact Or.inl rfl
                · rw [if_neg e3]; exact Or.inr rfl
          · rw [if_neg hc]; exact ⟨Int.le_refl _, hT⟩
        · rw [if_neg hm]; exact ⟨Int.le_refl _, hT⟩
theorem un_gd {t : Int → Int} {T : Int} : ∀ (f : Nat), f ≤ 6 → ∀ h, 0 ≤ h → h ≤ T → gdR (35 - 5 * (f : Int)) T h (un t T f h)
  | 0, _, h, h0, hT => pU_gd (by omega) (fun q => absurd q (by decide)) h0 hT
  | f + 1, hf, h, h0, hT => by
    have ih := un_gd (t := t) (T := T) f (by omega)
    have e1 : (35 : Int) - 5 * (f : Int) = 35 - 5 * ((f + 1 : Nat) : Int) + 5 := by omega
    refine pU_gd (by omega) (fun _ h' a0 a1 => ⟨?_, ?_⟩) h0 hT
    · have q := ih h' a0 a1
      cases e : un t T f h' with
      | inl x => rw [e] at q; exact q
      | inr p =>
        rw [e] at q
        exact ⟨q.1, q.2.1, q.2.2.1, fun n n0 n1 => q.2.2.2 n n0 (by omega)⟩
    · have q := lev_gd (t := t) (B := 35 - 5 * ((f + 1 : Nat) : Int)) (u := un t T f) (by omega) (fun h'' b0 b1 => by rw [← e1]; exact ih h'' b0 b1) 5 (by omega) h' a0 a1
      rw [show 35 - 5 * ((f + 1 : Nat) : Int) + 5 - ((5 : Nat) : Int) = 35 - 5 * ((f + 1 : Nat) : Int) by omega] at q
      exact q
