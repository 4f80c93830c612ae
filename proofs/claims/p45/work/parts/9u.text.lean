/-! part 9u: a law's text: what it gives, line by line -/
theorem mc_mc (v : Int) : mc (mc v) = v := by unfold mc; omega
def okS (s : Sp2) : Prop := 0 ≤ s.1 ∧ s.1 < 128 ∧ 0 ≤ mc s.1 ∧ mc s.1 < 128
theorem sgL_c : ∀ {l : List Sp2} {n m : Int}, sgL l n m → ∀ (j : Nat) (s : Sp2), l[j]? = some s → okS s
  | [], _, _, _, _, _, h => by cases h
  | a :: l, n, m, h, j, s, hj => by
    have ha : okS a ∧ ∃ n', sgL l n' m := by
      unfold okS mc
      rcases h with ⟨a1, _, _, _, _, h⟩ | ⟨a1, _, _, _, _, h⟩ | ⟨a1, _, _, h⟩ | ⟨a1, _, _, h⟩
      · exact ⟨by omega, _, h⟩
      · exact ⟨by omega, _, h⟩
      · exact ⟨by omega, _, h⟩
      · unfold isop at a1
        exact ⟨by omega, _, h⟩
    obtain ⟨h1, n', h2⟩ := ha
    cases j with
    | zero =>
      have e : some a = some s := hj
      cases e
      exact h1
    | succ j => exact sgL_c h2 j s hj
/-- lines one behind another, from place i on -/
def lnF : Nat → List Sp2 → List (Int × Int) → Prop
  | _, o, [] => o = []
  | i, o, e :: es => ∃ g b rest : List Sp2, o = g ++ (b ++ rest) ∧ e = (((i + g.length : Nat) : Int), ((i + g.length + b.length : Nat) : Int)) ∧ (g = [] ∨ sgL g 0 1) ∧ sgL b 0 1 ∧ lnF (i + g.length + b.length) rest es
theorem lnF_ap {g b : List Sp2} (hg : g = [] ∨ sgL g 0 1) (hb : sgL b 0 1) : ∀ {es : List (Int × Int)} {i : Nat} {o : List Sp2}, lnF i o es → lnF i (o ++ (g ++ b)) (es ++ [(((i + o.length + g.length : Nat) : Int), ((i + o.length + g.length + b.length : Nat) : Int))])
  | [], i, o, h => by
    have e : o = [] := h
    subst e
    refine ⟨g, b, [], ?_, ?_, hg, hb, rfl⟩
    · rw [List.nil_append, List.append_nil]
    · show _ = _
      rw [show i + ([] : List Sp2).length = i from rfl]
  | e :: es, i, o, h => by
    obtain ⟨g', b', rest, e1, e2, h1, h2, h3⟩ := h
    have ih := lnF_ap hg hb h3
    refine ⟨g', b', rest ++ (g ++ b), ?_, e2, h1, h2, ?_⟩
    · rw [e1, List.append_assoc, List.append_assoc]
    · have el : o.length = g'.length + b'.length + rest.length := by rw [e1, List.length_append, List.length_append]; omega
      rw [el, show i + (g'.length + b'.length + rest.length) = i + g'.length + b'.length + rest.length by omega]
      exact ih
theorem get_ri {o g : List Sp2} {j : Nat} : (g ++ o)[g.length + j]? = o[j]? := by
  rw [List.getElem?_append_right (by omega), show g.length + j - g.length = j by omega]
theorem get_le {o g : List Sp2} {j : Nat} (h : j < g.length) : (g ++ o)[j]? = g[j]? := List.getElem?_append_left h
theorem get_lt {g : List Sp2} {j : Nat} {s : Sp2} (h : g[j]? = some s) : j < g.length := by
  refine Classical.byContradiction (fun q => ?_)
  rw [List.getElem?_eq_none (by omega)] at h
  cases h
def agO (cd ag : Int → Int) (i : Nat) (o : List Sp2) : Prop := ∀ (j : Nat) (s : Sp2), o[j]? = some s → cd ((i + j : Nat) : Int) = s.1 ∧ ag ((i + j : Nat) : Int) = s.2
def agE (gE lE : Int → Int) (l : Nat) (es : List (Int × Int)) : Prop := ∀ (j : Nat) (e : Int × Int), es[j]? = some e → gE ((l + j : Nat) : Int) = e.1 ∧ lE ((l + j : Nat) : Int) = e.2
theorem agO_l {cd ag : Int → Int} {i : Nat} {g o : List Sp2} (h : agO cd ag i (g ++ o)) : agO cd ag i g := fun j s hj => h j s (by rw [get_le (get_lt hj)]; exact hj)
theorem agO_r {cd ag : Int → Int} {i : Nat} {g o : List Sp2} (h : agO cd ag i (g ++ o)) : agO cd ag (i + g.length) o := fun j s hj => by
  have := h (g.length + j) s (by rw [get_ri]; exact hj)
  rwa [show i + (g.length + j) = i + g.length + j by omega] at this
theorem agE_t {gE lE : Int → Int} {l : Nat} {e : Int × Int} {es : List (Int × Int)} (h : agE gE lE l (e :: es)) : (gE (l : Int) = e.1 ∧ lE (l : Int) = e.2) ∧ agE gE lE (l + 1) es := ⟨h 0 e rfl, fun j e' hj => by
  have := h (j + 1) e' hj
  rwa [show l + (j + 1) = l + 1 + j by omega] at this⟩
theorem sg_ag {cd ag : Int → Int} {i : Nat} {g : List Sp2} {n m : Int} (h : agO cd ag i g) (hs : sgL g n m) : sg cd ag g.length (i : Int) n m := sg_of (fun j s hj => by have := h j s hj; rwa [Int.natCast_add] at this) hs
theorem lw_of {cd ag gE lE : Int → Int} : ∀ {es : List (Int × Int)} {i l : Nat} {o : List Sp2}, lnF i o es → agO cd ag i o → agE gE lE l es → i + o.length ≤ 120 → lwn cd ag gE lE es.length (l : Int) (i : Int)
  | [], _, _, _, _, _, _, _ => True.intro
  | e :: es, i, l, o, h, ho, he, hl => by
    obtain ⟨g, b, rest, e1, e2, h1, h2, h3⟩ := h
    obtain ⟨⟨a1, a2⟩, a3⟩ := agE_t he
    rw [e2] at a1 a2
    dsimp only at a1 a2
    rw [e1] at ho hl
    rw [List.length_append, List.length_append] at hl
    have hog := agO_l ho
    have hor := agO_r ho
    have hob := agO_l hor
    have ho2 := agO_r hor
    have ih := lw_of h3 ho2 a3 (by omega)
    show (i : Int) ≤ gE l ∧ gE l ≤ lE l ∧ lE l ≤ 120 ∧ (gE l = i ∨ sg cd ag (gE l - i).toNat i 0 1) ∧ sg cd ag (lE l - gE l).toNat (gE l) 0 1 ∧ lwn cd ag gE lE es.length (l + 1) (lE l)
    rw [a1, a2]
    refine ⟨by omega, by omega, by omega, ?_, ?_, ?_⟩
    · rcases h1 with h1 | h1
      · left; rw [h1]; show ((i + 0 : Nat) : Int) = i; omega
      · right
        rw [show (((i + g.length : Nat) : Int) - (i : Int)).toNat = g.length by omega]
        exact sg_ag hog h1
    · rw [show (((i + g.length + b.length : Nat) : Int) - ((i + g.length : Nat) : Int)).toNat = b.length by omega]
      exact sg_ag hob h2
    · rw [show (l : Int) + 1 = ((l + 1 : Nat) : Int) by omega]
      exact ih
theorem rs_cg {cd ag cd' ag' fa : Int → Int} : ∀ {k : Nat} {i n : Int} {p : Int → Int32}, (∀ j : Nat, j < k → cd (i + j) = cd' (i + j) ∧ ag (i + j) = ag' (i + j)) → rs cd ag fa k i n p = rs cd' ag' fa k i n p
  | 0, _, _, _, _ => rfl
  | k + 1, i, n, p, h => by
    have h0 := h 0 (by omega)
    rw [show i + ((0 : Nat) : Int) = i by omega] at h0
    have hn : ∀ {n : Int} {p : Int → Int32}, rs cd ag fa k (i + 1) n p = rs cd' ag' fa k (i + 1) n p := rs_cg (fun j hj => by
      have := h (j + 1) (by omega)
      rwa [show i + ((j + 1 : Nat) : Int) = i + 1 + (j : Int) by omega] at this)
    unfold rs
    rw [h0.1, h0.2, hn, hn, hn, hn, hn]
theorem rv_ag {cd ag cd' ag' fa : Int → Int} {i : Nat} {g : List Sp2} (h : agO cd ag i g) (h' : agO cd' ag' i g) : rv cd ag fa (i : Int) ((i + g.length : Nat) : Int) = rv cd' ag' fa (i : Int) ((i + g.length : Nat) : Int) := by
  unfold rv
  rw [show (((i + g.length : Nat) : Int) - (i : Int)).toNat = g.length by omega]
  refine rs_cg (fun j hj => ?_)
  obtain ⟨s, hs⟩ : ∃ s, g[j]? = some s := ⟨_, List.getElem?_eq_getElem hj⟩
  have a := h j s hs
  have b := h' j s hs
  rw [Int.natCast_add] at a b
  exact ⟨a.1.trans b.1.symm, a.2.trans b.2.symm⟩
theorem lv_cg {cd ag gE lE cd' ag' gE' lE' fa : Int → Int} : ∀ {es : List (Int × Int)} {i l : Nat} {o : List Sp2}, lnF i o es → agO cd ag i o → agE gE lE l es → agO cd' ag' i o → agE gE' lE' l es → lvn cd ag gE lE fa es.length (l : Int) (i : Int) = lvn cd' ag' gE' lE' fa es.length (l : Int) (i : Int)
  | [], _, _, _, _, _, _, _, _ => rfl
  | e :: es, i, l, o, h, ho, he, ho', he' => by
    obtain ⟨g, b, rest, e1, e2, h1, h2, h3⟩ := h
    obtain ⟨⟨a1, a2⟩, a3⟩ := agE_t he
    obtain ⟨⟨b1, b2⟩, b3⟩ := agE_t he'
    rw [e2] at a1 a2 b1 b2
    dsimp only at a1 a2 b1 b2
    rw [e1] at ho ho'
    have q1 := rv_ag (fa := fa) (agO_l ho) (agO_l ho')
    have q2 := rv_ag (fa := fa) (agO_l (agO_r ho)) (agO_l (agO_r ho'))
    have hgb : agO cd ag i (g ++ b) := by rw [← List.append_assoc] at ho; exact agO_l ho
    have hgb' : agO cd' ag' i (g ++ b) := by rw [← List.append_assoc] at ho'; exact agO_l ho'
    have q3 := rv_ag (fa := fa) hgb hgb'
    rw [List.length_append, show i + (g.length + b.length) = i + g.length + b.length by omega] at q3
    have ih := lv_cg (fa := fa) h3 (agO_r (agO_r ho)) a3 (agO_r (agO_r ho')) b3
    rw [Int.natCast_add l 1] at ih
    show (if gE l = i then rv cd ag fa i (lE l) else if rv cd ag fa i (gE l) = ki 0 then lvn cd ag gE lE fa es.length (l + 1) (lE l) else rv cd ag fa (gE l) (lE l)) = (if gE' l = i then rv cd' ag' fa i (lE' l) else if rv cd' ag' fa i (gE' l) = ki 0 then lvn cd' ag' gE' lE' fa es.length (l + 1) (lE' l) else rv cd' ag' fa (gE' l) (lE' l))
    rw [a1, a2, b1, b2, q1, q2, q3]
    have ih' : lvn cd ag gE lE fa es.length ((l : Int) + 1) ((i + g.length + b.length : Nat) : Int) = lvn cd' ag' gE' lE' fa es.length ((l : Int) + 1) ((i + g.length + b.length : Nat) : Int) := ih
    rw [ih']
/-- a text that has no fault -/
def txG (T : Int) (R : TxR) : Prop := match R with | .inl x => 0 ≤ x ∧ x ≤ T | .inr p => lnF 0 p.1 p.2 ∧ (p.1.length : Int) ≤ T ∧ 1 ≤ p.2.length ∧ 2 * (p.2.length : Int) ≤ T + 1
theorem tx_gd {t : Int → Int} {T : Int} : ∀ (n : Nat) (h : Int) (o : List Sp2) (es : List (Int × Int)), 0 ≤ h → h ≤ T → lnF 0 o es → (o.length : Int) ≤ h → 2 * (es.length : Int) ≤ h → txG T (pzT t T n h o es)
  | 0, h, o, es, h0, hT, _, _, _ => ⟨h0, hT⟩
  | n + 1, h, o, es, h0, hT, hf, ho, he => by
    have hg := ln_gd (t := t) h0 hT
    show txG T (tzN t T (pzT t T n) o es (pzLine t T h))
    cases el : pzLine t T h with
    | inl x =>
      rw [el] at hg
      have hg' : h ≤ x ∧ x ≤ T := hg
      exact ⟨by omega, hg'.2⟩
    | inr p =>
      rw [el] at hg
      obtain ⟨g1, g2, g3, g4, g5⟩ := hg
      have hf2 := lnF_ap g4 g5 hf
      have e1 : ((0 + o.length + p.2.1.length : Nat) : Int) = (((o ++ p.2.1).length : Nat) : Int) := by rw [List.length_append]; omega
      have e2 : ((0 + o.length + p.2.1.length + p.2.2.length : Nat) : Int) = (((o ++ (p.2.1 ++ p.2.2)).length : Nat) : Int) := by rw [List.length_append, List.length_append]; omega
      rw [e1, e2] at hf2
      have hln := len_ap es ((((o ++ p.2.1).length : Nat) : Int), (((o ++ (p.2.1 ++ p.2.2)).length : Nat) : Int))
      have hlo : ((o ++ (p.2.1 ++ p.2.2)).length : Int) = o.length + (p.2.1.length + p.2.2.length) := by rw [List.length_append, List.length_append]; omega
      have et : tzN t T (pzT t T n) o es (.inr p) = if chT t T p.1 = 59 then pzT t T n (p.1 + 1) (o ++ (p.2.1 ++ p.2.2)) (es ++ [((((o ++ p.2.1).length : Nat) : Int), (((o ++ (p.2.1 ++ p.2.2)).length : Nat) : Int))]) else if p.1 < T then .inl p.1 else .inr (o ++ (p.2.1 ++ p.2.2), es ++ [((((o ++ p.2.1).length : Nat) : Int), (((o ++ (p.2.1 ++ p.2.2)).length : Nat) : Int))]) := rfl
      rw [et]
      by_cases hc : chT t T p.1 = 59
      · rw [if_pos hc]
        have hin := (ch_in hc (by decide)).1
        exact tx_gd n (p.1 + 1) _ _ (by omega) (by omega) hf2 (by omega) (by rw [hln]; omega)
      · rw [if_neg hc]
        by_cases hlt : p.1 < T
        · rw [if_pos hlt]; exact ⟨by omega, g2⟩
        · rw [if_neg hlt]
          refine ⟨hf2, ?_, ?_, ?_⟩
          · show ((o ++ (p.2.1 ++ p.2.2)).length : Int) ≤ T
            omega
          · show 1 ≤ (es ++ [((((o ++ p.2.1).length : Nat) : Int), (((o ++ (p.2.1 ++ p.2.2)).length : Nat) : Int))]).length
            omega
          · show 2 * ((es ++ [((((o ++ p.2.1).length : Nat) : Int), (((o ++ (p.2.1 ++ p.2.2)).length : Nat) : Int))]).length : Int) ≤ T + 1
            rw [hln]; omega
theorem lnF_c : ∀ {es : List (Int × Int)} {i : Nat} {o : List Sp2}, lnF i o es → ∀ (j : Nat) (s : Sp2), o[j]? = some s → okS s
  | [], _, o, h, j, s, hj => by
    have e : o = [] := h
    subst e
    cases hj
  | e :: es, i, o, h, j, s, hj => by
    obtain ⟨g, b, rest, e1, e2, h1, h2, h3⟩ := h
    rw [e1] at hj
    by_cases hg : j < g.length
    · rw [get_le hg] at hj
      rcases h1 with h1 | h1
      · rw [h1] at hg; exact absurd hg (by simp)
      · exact sgL_c h1 j s hj
    · obtain ⟨d, rfl⟩ : ∃ d, j = g.length + d := ⟨j - g.length, by omega⟩
      rw [get_ri] at hj
      by_cases hb : d < b.length
      · rw [get_le hb] at hj; exact sgL_c h2 d s hj
      · obtain ⟨d', rfl⟩ : ∃ d', d = b.length + d' := ⟨d - b.length, by omega⟩
        rw [get_ri] at hj
        exact lnF_c h3 d' s hj
theorem lnF_e : ∀ {es : List (Int × Int)} {i : Nat} {o : List Sp2}, lnF i o es → ∀ (j : Nat) (e : Int × Int), es[j]? = some e → ∃ a b : Nat, e = ((a : Int), (b : Int)) ∧ a ≤ i + o.length ∧ b ≤ i + o.length
  | [], _, _, _, _, _, hj => by cases hj
  | e :: es, i, o, h, j, e', hj => by
    obtain ⟨g, b, rest, e1, e2, h1, h2, h3⟩ := h
    have hl : o.length = g.length + (b.length + rest.length) := by rw [e1, List.length_append, List.length_append]
    cases j with
    | zero =>
      have q : some e = some e' := hj
      cases q
      exact ⟨_, _, e2, by omega, by omega⟩
    | succ j =>
      obtain ⟨a, c, q1, q2, q3⟩ := lnF_e h3 j e' hj
      exact ⟨a, c, q1, by omega, by omega⟩
