/-! part 50: ints as images of integers (made by wip/p45/gen50.py) -/
def ki (z : Int) : Int32 := Int32.ofInt z
theorem ki_ti {z : Int} (h1 : -2147483648 ≤ z) (h2 : z < 2147483648) : (ki z).toInt = z := Int32.toInt_ofInt_of_le (by omega) (by omega)
theorem ki_of (x : Int32) : ∃ z : Int, x = ki z ∧ -2147483648 ≤ z ∧ z < 2147483648 :=
  ⟨x.toInt, (Int32.ofInt_toInt x).symm, by have := x.le_toInt; omega, by have := x.toInt_lt; omega⟩
theorem ki_self (x : Int32) : ki x.toInt = x := Int32.ofInt_toInt x
theorem ki_add (a b : Int) : ki a + ki b = ki (a + b) := (Int32.ofInt_add a b).symm
theorem ki_sub (a b : Int) : ki a - ki b = ki (a - b) := (Int32.ofInt_sub a b).symm
theorem ki_mul (a b : Int) : ki a * ki b = ki (a * b) := (Int32.ofInt_mul a b).symm
theorem ki_neg (a : Int) : -ki a = ki (-a) := (Int32.ofInt_neg a).symm
theorem ki_lt {a b : Int} (a1 : -2147483648 ≤ a) (a2 : a < 2147483648) (b1 : -2147483648 ≤ b) (b2 : b < 2147483648) : (ki a < ki b) = (a < b) := by
  rw [Int32.lt_iff_toInt_lt, ki_ti a1 a2, ki_ti b1 b2]
theorem ki_le {a b : Int} (a1 : -2147483648 ≤ a) (a2 : a < 2147483648) (b1 : -2147483648 ≤ b) (b2 : b < 2147483648) : (ki a ≤ ki b) = (a ≤ b) := by
  rw [Int32.le_iff_toInt_le, ki_ti a1 a2, ki_ti b1 b2]
theorem ki_eq {a b : Int} (a1 : -2147483648 ≤ a) (a2 : a < 2147483648) (b1 : -2147483648 ≤ b) (b2 : b < 2147483648) : (ki a = ki b) = (a = b) := by
  rw [← Int32.toInt_inj, ki_ti a1 a2, ki_ti b1 b2]
theorem ki_inj {a b : Int} (h : ki a = ki b) (a1 : -2147483648 ≤ a) (a2 : a < 2147483648) (b1 : -2147483648 ≤ b) (b2 : b < 2147483648) : a = b := by
  rw [ki_eq a1 a2 b1 b2] at h; exact h
theorem ki_cl {a : Int} (a1 : -2147483648 ≤ a) (a2 : a < 2147483648) : (ki a).toNatClampNeg = a.toNat := by
  show (ki a).toInt.toNat = a.toNat
  rw [ki_ti a1 a2]
theorem ki_tdiv {a b : Int} (a1 : -2147483648 ≤ a) (a2 : a < 2147483648) (b1 : -2147483648 ≤ b) (b2 : b < 2147483648) : ki a / ki b = ki (a.tdiv b) :=
  (Int32.ofInt_tdiv (show (-2147483648 : Int) ≤ a from a1) (show a ≤ (2147483647 : Int) by omega) (show (-2147483648 : Int) ≤ b from b1) (show b ≤ (2147483647 : Int) by omega)).symm
theorem ki_div {a b : Int} (a1 : 0 ≤ a) (a2 : a < 2147483648) (b1 : 0 ≤ b) (b2 : b < 2147483648) : ki a / ki b = ki (a / b) := by
  rw [ki_tdiv (by omega) a2 (by omega) b2, Int.tdiv_eq_ediv_of_nonneg a1]
theorem xbd_e {α β : Type} (x : α) (k : α → β) : xbd x k = k x := rfl
theorem xgd_t {β : Type} {c : Prop} [Decidable c] {x : Option β} (h : c) : xgd c x = x := if_pos h
theorem xgd_T {β : Type} {x : Option β} : xgd True x = x := rfl
theorem xob_s {σ α β : Type} (u : σ) (a : α) (k : σ → α → Option β) : xob (some (u, a)) k = k u a := rfl
theorem xmr_s {σ ρ : Type} (r : ρ) : xmr (σ := σ) (some r) = some (.inr r) := rfl
theorem xsi_r (S : xSt) (k j : Nat) (v : Int32) (k' j' : Nat) : (xsi S k j v).1 k' j' = if k' = k ∧ j' = j then v else S.1 k' j' := rfl
theorem xsi_2 (S : xSt) (k j : Nat) (v : Int32) : (xsi S k j v).2 = S.2 := rfl
theorem xsl_1 (S : xSt) (k j : Nat) (v : Int64) : (xsl S k j v).1 = S.1 := rfl
theorem xsl_r (S : xSt) (k j : Nat) (v : Int64) (k' j' : Nat) : (xsl S k j v).2 k' j' = if k' = k ∧ j' = j then v else S.2 k' j' := rfl
/-- a loop: a measure that falls, what holds at its head, what holds behind it -/
theorem xlp_ind {σ ρ : Type} {body : σ → Option (σ ⊕ ρ)} (I : Nat → σ → Prop) (Q : ρ → Prop)
    (hs : ∀ n s, I n s → (∃ s', body s = some (.inl s') ∧ ∃ m, m < n ∧ I m s') ∨ (∃ r, body s = some (.inr r) ∧ Q r)) :
    ∀ fuel n s, I n s → n < fuel → ∃ r, xlp body fuel s = some r ∧ Q r := by
  intro fuel
  induction fuel with
  | zero => intro n s _ hlt; exact absurd hlt (Nat.not_lt_zero _)
  | succ f ih =>
    intro n s hI hlt
    have e : xlp body (f + 1) s = (match body s with | none => none | some (.inl s') => xlp body f s' | some (.inr r) => some r) := rfl
    rcases hs n s hI with ⟨s', hb, m, hm, hI'⟩ | ⟨r, hb, hQ⟩
    · obtain ⟨r, hr, hQ⟩ := ih m s' hI' (by omega)
      exact ⟨r, by rw [e, hb]; exact hr, hQ⟩
    · exact ⟨r, by rw [e, hb], hQ⟩
theorem xlp_s {σ ρ : Type} {body : σ → Option (σ ⊕ ρ)} {n : Nat} {s s' : σ} (h : body s = some (.inl s')) : xlp body (n + 1) s = xlp body n s' := by
  show (match body s with | none => none | some (.inl s') => xlp body n s' | some (.inr r) => some r) = _
  rw [h]
theorem xlp_e {σ ρ : Type} {body : σ → Option (σ ⊕ ρ)} {n : Nat} {s : σ} {r : ρ} (h : body s = some (.inr r)) : xlp body (n + 1) s = some r := by
  show (match body s with | none => none | some (.inl s') => xlp body n s' | some (.inr r) => some r) = _
  rw [h]
/-- 1 where it holds, else 0 -/
abbrev bi (p : Prop) [Decidable p] : Int := if p then 1 else 0
/-! walking a pure function -/
def wp {α : Type} (o : Option α) (Q : α → Prop) : Prop := ∃ r, o = some r ∧ Q r
theorem wp_bd {α β : Type} {x x' : α} {k : α → Option β} {Q : β → Prop} (h : x = x') (h2 : wp (k x') Q) : wp (xbd x k) Q := by subst h; exact h2
theorem wp_gd {β : Type} {c c' : Prop} [Decidable c] {x : Option β} {Q : β → Prop} (h : c = c') (hc : c') (h2 : wp x Q) : wp (xgd c x) Q := by subst h; rw [xgd_t hc]; exact h2
theorem wp_in {β : Type} {v : Int32} {z : Int} {n : Nat} {x : Option β} {Q : β → Prop} (h : v = ki z) (hn : n ≤ 2147483648) (h0 : 0 ≤ z) (h1 : z < (n : Int)) (h2 : wp x Q) : wp (xgd (xin v n) x) Q := by
  subst h
  rw [xgd_t]
  · exact h2
  · rw [xin, show (0 : Int32) = ki 0 from rfl, ki_lt (by omega) (by omega) (by omega) (by omega), ki_cl (by omega) (by omega)]; omega
theorem wp_it {β : Type} {c c' : Prop} [Decidable c] {x y : Option β} {Q : β → Prop} (h : c = c') (hc : c') (h2 : wp x Q) : wp (if c then x else y) Q := by subst h; rw [if_pos hc]; exact h2
theorem wp_if {β : Type} {c c' : Prop} [Decidable c] {x y : Option β} {Q : β → Prop} (h : c = c') (hc : ¬ c') (h2 : wp y Q) : wp (if c then x else y) Q := by subst h; rw [if_neg hc]; exact h2
theorem wp_is {β : Type} {c c' : Prop} [Decidable c] {x y : Option β} {Q : β → Prop} (h : c = c') (h1 : c' → wp x Q) (h2 : ¬ c' → wp y Q) : wp (if c then x else y) Q := by
  subst h
  by_cases hc : c
  · rw [if_pos hc]; exact h1 hc
  · rw [if_neg hc]; exact h2 hc
theorem wp_ob {σ α β : Type} {o : Option (σ × α)} {k : σ → α → Option β} {P : σ × α → Prop} {Q : β → Prop} (h : wp o P) (h2 : ∀ u a, P (u, a) → wp (k u a) Q) : wp (xob o k) Q := by
  obtain ⟨r, e, hp⟩ := h
  subst e
  exact h2 r.1 r.2 hp
theorem wp_oe {σ α β : Type} {o : Option (σ × α)} {u : σ} {a : α} {k : σ → α → Option β} {Q : β → Prop} (h : o = some (u, a)) (h2 : wp (k u a) Q) : wp (xob o k) Q := by
  subst h; exact h2
theorem wp_b {σ β : Type} {p : Prop} {dp : Decidable p} {o : Option (σ × Int32)} {u : σ} {k : σ → Int32 → Option β} {Q : β → Prop} (h : o = some (u, ki (@ite Int p dp 1 0))) (h1 : p → wp (k u (ki 1)) Q) (h2 : ¬ p → wp (k u (ki 0)) Q) : wp (xob o k) Q := by
  subst h
  by_cases hp : p
  · rw [if_pos hp]; exact h1 hp
  · rw [if_neg hp]; exact h2 hp
theorem wp_mr {σ ρ : Type} {o : Option ρ} {Q : σ ⊕ ρ → Prop} (h : wp o (fun r => Q (.inr r))) : wp (xmr o) Q := by
  obtain ⟨r, e, hq⟩ := h
  subst e; exact ⟨_, rfl, hq⟩
theorem wp_so {α : Type} {r : α} {Q : α → Prop} (h : Q r) : wp (some r) Q := ⟨r, rfl, h⟩
theorem wp_sv {σ : Type} {S : σ} {v v' : Int32} {Q : σ × Int32 → Prop} (h : v = v') (h2 : Q (S, v')) : wp (some (S, v)) Q := by subst h; exact ⟨_, rfl, h2⟩
theorem wp_eq {α : Type} {o : Option α} {r : α} (h : wp o (fun q => q = r)) : o = some r := by
  obtain ⟨q, e, hq⟩ := h
  rw [e, hq]
theorem wp_of {α : Type} {o o' : Option α} {Q : α → Prop} (e : o = o') (h : wp o' Q) : wp o Q := by rw [e]; exact h
theorem wp_mo {α : Type} {o : Option α} {P Q : α → Prop} (h : wp o P) (hq : ∀ r, P r → Q r) : wp o Q := by
  obtain ⟨r, e, hp⟩ := h
  exact ⟨r, e, hq r hp⟩
theorem wp_lp {σ ρ : Type} {body : σ → Option (σ ⊕ ρ)} (I : Nat → σ → Prop) {Q : ρ → Prop} {fuel : Nat} {s : σ} (n : Nat)
    (hs : ∀ n s, I n s → wp (body s) (fun q => (∀ s', q = .inl s' → ∃ m, m < n ∧ I m s') ∧ (∀ r, q = .inr r → Q r))) (h0 : I n s) (hf : n < fuel) : wp (xlp body fuel s) Q := by
  refine xlp_ind I Q (fun n s hI => ?_) fuel n s h0 hf
  obtain ⟨q, e, h1, h2⟩ := hs n s hI
  cases q with
  | inl s' => exact Or.inl ⟨s', e, h1 s' rfl⟩
  | inr r => exact Or.inr ⟨r, e, h2 r rfl⟩
theorem ki_ite {p : Prop} [Decidable p] {a b : Int} : (if p then ki a else ki b) = ki (if p then a else b) := by
  by_cases h : p
  · rw [if_pos h, if_pos h]
  · rw [if_neg h, if_neg h]
/-- an array of ints of n places -/
def vw (S : xSt) (k : Nat) (n : Int) (g : Int → Int) : Prop := ∀ z : Int, 0 ≤ z → z < n → S.1 k z.toNat = ki (g z)
/-- one place becomes another -/
def up (g : Int → Int) (i v : Int) : Int → Int := fun z => if z = i then v else g z
theorem vw_up {S : xSt} {k : Nat} {n : Int} {g : Int → Int} (h : vw S k n g) {i v : Int} (h0 : 0 ≤ i) : vw (xsi S k i.toNat (ki v)) k n (up g i v) := by
  intro z hz hn
  rw [xsi_r]
  unfold up
  by_cases e : z = i
  · subst e; rw [if_pos ⟨rfl, rfl⟩, if_pos rfl]
  · rw [if_neg (by omega), if_neg e]; exact h z hz hn
theorem vw_ne {S : xSt} {k : Nat} {n : Int} {g : Int → Int} (h : vw S k n g) {k' j : Nat} {v : Int32} (hk : k ≠ k') : vw (xsi S k' j v) k n g := by
  intro z hz hn
  rw [xsi_r, if_neg (fun q => hk q.1)]; exact h z hz hn
theorem vw_of {S S' : xSt} {k : Nat} {n : Int} {g : Int → Int} (h : vw S k n g) (e : S'.1 k = S.1 k) : vw S' k n g := by
  intro z hz hn
  rw [e]; exact h z hz hn
theorem vw_cp {S : xSt} {ks kd : Nat} {n : Int} {g : Int → Int} (h : vw S ks n g) (c : Nat) (hc : n ≤ (c : Int)) : vw (xcpi S ks 0 kd 0 c) kd n g := by
  intro z hz hn
  show (if kd = kd ∧ 0 ≤ z.toNat ∧ z.toNat < 0 + c then S.1 ks (0 + (z.toNat - 0)) else S.1 kd z.toNat) = ki (g z)
  rw [if_pos (by omega)]
  have := h z hz hn
  rw [show 0 + (z.toNat - 0) = z.toNat by omega]; exact this
/-- what a call has left alone -/
def fr (S S' : xSt) (P : Nat → Prop) : Prop := S'.2 = S.2 ∧ ∀ k, ¬ P k → S'.1 k = S.1 k
theorem fr_rf (S : xSt) (P : Nat → Prop) : fr S S P := ⟨rfl, fun _ _ => rfl⟩
theorem fr_tr {S S' S'' : xSt} {P : Nat → Prop} (h : fr S S' P) (h' : fr S' S'' P) : fr S S'' P :=
  ⟨h'.1.trans h.1, fun k hk => (h'.2 k hk).trans (h.2 k hk)⟩
theorem fr_w {S S' : xSt} {P Q : Nat → Prop} (h : fr S S' P) (hq : ∀ k, P k → Q k) : fr S S' Q := ⟨h.1, fun k hk => h.2 k (fun q => hk (hq k q))⟩
theorem fr_si {S : xSt} {P : Nat → Prop} {k j : Nat} {v : Int32} (h : P k) : fr S (xsi S k j v) P :=
  ⟨rfl, fun k' hk => funext fun j' => by rw [xsi_r, if_neg (fun q : k' = k ∧ j' = j => hk (q.1 ▸ h))]⟩
theorem fr_cp {S : xSt} {P : Nat → Prop} {ks sp kd dp n : Nat} (h : P kd) : fr S (xcpi S ks sp kd dp n) P :=
  ⟨rfl, fun k' hk => funext fun j' => by
    show (if k' = kd ∧ dp ≤ j' ∧ j' < dp + n then S.1 ks (sp + (j' - dp)) else S.1 k' j') = _
    rw [if_neg (fun q : k' = kd ∧ dp ≤ j' ∧ j' < dp + n => hk (q.1 ▸ h))]⟩

theorem kl_0 : (0 : Int32) = ki 0 := rfl
theorem kl_1 : (1 : Int32) = ki 1 := rfl
theorem kl_2 : (2 : Int32) = ki 2 := rfl
theorem kl_3 : (3 : Int32) = ki 3 := rfl
theorem kl_4 : (4 : Int32) = ki 4 := rfl
theorem kl_5 : (5 : Int32) = ki 5 := rfl
theorem kl_6 : (6 : Int32) = ki 6 := rfl
theorem kl_7 : (7 : Int32) = ki 7 := rfl
theorem kl_8 : (8 : Int32) = ki 8 := rfl
theorem kl_9 : (9 : Int32) = ki 9 := rfl
theorem kl_10 : (10 : Int32) = ki 10 := rfl
theorem kl_11 : (11 : Int32) = ki 11 := rfl
theorem kl_12 : (12 : Int32) = ki 12 := rfl
theorem kl_13 : (13 : Int32) = ki 13 := rfl
theorem kl_14 : (14 : Int32) = ki 14 := rfl
theorem kl_16 : (16 : Int32) = ki 16 := rfl
theorem kl_20 : (20 : Int32) = ki 20 := rfl
theorem kl_21 : (21 : Int32) = ki 21 := rfl
theorem kl_30 : (30 : Int32) = ki 30 := rfl
theorem kl_31 : (31 : Int32) = ki 31 := rfl
theorem kl_32 : (32 : Int32) = ki 32 := rfl
theorem kl_33 : (33 : Int32) = ki 33 := rfl
theorem kl_35 : (35 : Int32) = ki 35 := rfl
theorem kl_37 : (37 : Int32) = ki 37 := rfl
theorem kl_38 : (38 : Int32) = ki 38 := rfl
theorem kl_39 : (39 : Int32) = ki 39 := rfl
theorem kl_40 : (40 : Int32) = ki 40 := rfl
theorem kl_41 : (41 : Int32) = ki 41 := rfl
theorem kl_42 : (42 : Int32) = ki 42 := rfl
theorem kl_43 : (43 : Int32) = ki 43 := rfl
theorem kl_45 : (45 : Int32) = ki 45 := rfl
theorem kl_47 : (47 : Int32) = ki 47 := rfl
theorem kl_48 : (48 : Int32) = ki 48 := rfl
theorem kl_50 : (50 : Int32) = ki 50 := rfl
theorem kl_57 : (57 : Int32) = ki 57 := rfl
theorem kl_59 : (59 : Int32) = ki 59 := rfl
theorem kl_60 : (60 : Int32) = ki 60 := rfl
theorem kl_61 : (61 : Int32) = ki 61 := rfl
theorem kl_62 : (62 : Int32) = ki 62 := rfl
theorem kl_63 : (63 : Int32) = ki 63 := rfl
theorem kl_64 : (64 : Int32) = ki 64 := rfl
theorem kl_97 : (97 : Int32) = ki 97 := rfl
theorem kl_98 : (98 : Int32) = ki 98 := rfl
theorem kl_99 : (99 : Int32) = ki 99 := rfl
theorem kl_100 : (100 : Int32) = ki 100 := rfl
theorem kl_101 : (101 : Int32) = ki 101 := rfl
theorem kl_102 : (102 : Int32) = ki 102 := rfl
theorem kl_103 : (103 : Int32) = ki 103 := rfl
theorem kl_104 : (104 : Int32) = ki 104 := rfl
theorem kl_105 : (105 : Int32) = ki 105 := rfl
theorem kl_106 : (106 : Int32) = ki 106 := rfl
theorem kl_107 : (107 : Int32) = ki 107 := rfl
theorem kl_108 : (108 : Int32) = ki 108 := rfl
theorem kl_109 : (109 : Int32) = ki 109 := rfl
theorem kl_110 : (110 : Int32) = ki 110 := rfl
theorem kl_111 : (111 : Int32) = ki 111 := rfl
theorem kl_112 : (112 : Int32) = ki 112 := rfl
theorem kl_113 : (113 : Int32) = ki 113 := rfl
theorem kl_114 : (114 : Int32) = ki 114 := rfl
theorem kl_115 : (115 : Int32) = ki 115 := rfl
theorem kl_120 : (120 : Int32) = ki 120 := rfl
theorem kl_124 : (124 : Int32) = ki 124 := rfl
theorem kl_126 : (126 : Int32) = ki 126 := rfl
theorem kl_127 : (127 : Int32) = ki 127 := rfl
theorem kl_255 : (255 : Int32) = ki 255 := rfl
theorem kl_720 : (720 : Int32) = ki 720 := rfl
theorem kl_2048 : (2048 : Int32) = ki 2048 := rfl
theorem kl_252645135 : (252645135 : Int32) = ki 252645135 := rfl
theorem kl_858993459 : (858993459 : Int32) = ki 858993459 := rfl
theorem kl_1431655765 : (1431655765 : Int32) = ki 1431655765 := rfl
theorem kl_1640531535 : (1640531535 : Int32) = ki 1640531535 := rfl
theorem kl_2000000000 : (2000000000 : Int32) = ki 2000000000 := rfl
