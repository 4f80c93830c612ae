/-! pure side: names, guards, calls, loops -/
def xbd {α β : Type} (x : α) (k : α → β) : β := k x
def xgd {β : Type} (c : Prop) [Decidable c] (x : Option β) : Option β := if c then x else none
def xob {σ α β : Type} (o : Option (σ × α)) (k : σ → α → Option β) : Option β := match o with
  | none => none
  | some q => k q.1 q.2
def xmr {σ ρ : Type} (o : Option ρ) : Option (σ ⊕ ρ) := match o with
  | none => none
  | some r => some (.inr r)
def xlp {σ ρ : Type} (body : σ → Option (σ ⊕ ρ)) : Nat → σ → Option ρ
  | 0, _ => none
  | n + 1, s => match body s with
    | none => none
    | some (.inl s') => xlp body n s'
    | some (.inr r) => some r
theorem xgd_at {β : Type} {c : Prop} [Decidable c] {x : Option β} {r : β} (h : xgd c x = some r) : c ∧ x = some r := by
  unfold xgd at h
  by_cases hc : c
  · rw [if_pos hc] at h; exact ⟨hc, h⟩
  · rw [if_neg hc] at h; cases h
theorem xob_at {σ α β : Type} {o : Option (σ × α)} {k : σ → α → Option β} {r : β} (h : xob o k = some r) : ∃ u a, o = some (u, a) ∧ k u a = some r := by
  cases o with
  | none => cases h
  | some q => exact ⟨q.1, q.2, rfl, h⟩
theorem xmr_at {σ ρ : Type} {o : Option ρ} {r : σ ⊕ ρ} (h : xmr o = some r) : ∃ q, o = some q ∧ r = .inr q := by
  cases o with
  | none => cases h
  | some q => exact ⟨q, rfl, (Option.some.inj h).symm⟩
theorem xlp_0 {σ ρ : Type} {body : σ → Option (σ ⊕ ρ)} {s : σ} {r : ρ} (h : xlp body 0 s = some r) : False := by cases h
theorem xlp_at {σ ρ : Type} {body : σ → Option (σ ⊕ ρ)} {n : Nat} {s : σ} {r : ρ} (h : xlp body (n + 1) s = some r) : ∃ q, body s = some q ∧ (∀ s', q = .inl s' → xlp body n s' = some r) ∧ ∀ r', q = .inr r' → r' = r := by
  have e : xlp body (n + 1) s = (match body s with | none => none | some (.inl s') => xlp body n s' | some (.inr r) => some r) := rfl
  rw [e] at h
  cases hq : body s with
  | none => rw [hq] at h; cases h
  | some q =>
    rw [hq] at h
    cases q with
    | inl s' => exact ⟨_, rfl, fun s2 e2 => by cases e2; exact h, fun r' e2 => by cases e2⟩
    | inr r' => exact ⟨_, rfl, (fun s2 e2 => by cases e2), (fun r2 e2 => by cases e2; exact Option.some.inj h)⟩
abbrev xin (i : Int32) (n : Nat) : Prop := ¬ (i < 0 ∨ n ≤ i.toNatClampNeg)
/-! the state: ints and longs, by cell and place -/
abbrev xSt : Type := (Nat → Nat → Int32) × (Nat → Nat → Int64)
def xsi (S : xSt) (k j : Nat) (v : Int32) : xSt := (fun k' j' => if k' = k ∧ j' = j then v else S.1 k' j', S.2)
def xsl (S : xSt) (k j : Nat) (v : Int64) : xSt := (S.1, fun k' j' => if k' = k ∧ j' = j then v else S.2 k' j')
def xcpi (S : xSt) (ks sp kd dp n : Nat) : xSt := (fun k' j' => if k' = kd ∧ dp ≤ j' ∧ j' < dp + n then S.1 ks (sp + (j' - dp)) else S.1 k' j', S.2)
def xcpl (S : xSt) (ks sp kd dp n : Nat) : xSt := (S.1, fun k' j' => if k' = kd ∧ dp ≤ j' ∧ j' < dp + n then S.2 ks (sp + (j' - dp)) else S.2 k' j')
/-! the world: a table of cells. (class, 0, codes of its fields: 0 an int, 1 a long, r + 2 the cell r); arrays: (100 int, 101 byte, 102 short, 103 long, length, []); (104, length, [first, step]) and 105: rows of cells -/
abbrev xTb : Type := List (Nat × Nat × List Nat)
def xV (a : Nat → Nat) (S : xSt) (k j c : Nat) : Value := if c = 0 then .int (S.1 k j) else if c = 1 then .long (S.2 k j) else .ref (a (c - 2))
def xF (a : Nat → Nat) (S : xSt) (k : Nat) (l : List Nat) : List Value := l.mapIdx (fun j c => xV a S k j c)
def xE (cy : Nat → ClassId) (a : Nat → Nat) (S : xSt) (k : Nat) (q : Nat × Nat × List Nat) : va_E :=
  if q.1 < 100 then .inr (q.1, xF a S k q.2.2)
  else if q.1 < 103 then .inl (cy (q.1 - 100), q.2.1, .inl (S.1 k))
  else if q.1 = 103 then .inl (cy 3, q.2.1, .inr (.inl (S.2 k)))
  else .inl (cy (q.1 - 100), q.2.1, .inr (.inr (.inr (.inr (fun j => some (a (q.2.2.getD 0 0 + q.2.2.getD 1 0 * j)))))))
def xW (cy : Nat → ClassId) (tb : xTb) (a : Nat → Nat) (S : xSt) : va_W := tb.mapIdx (fun k q => (a k, xE cy a S k q))
abbrev xty (cy : Nat → ClassId) : List (ClassId × FieldType) := [(cy 0, .int), (cy 1, .int), (cy 2, .int), (cy 3, .long), (cy 4, .object "HotStack$Hay"), (cy 5, .object "HotStack$Shelf")]
def xA (tb : xTb) (a : Nat → Nat) (sz : Nat) : Nat → Prop := fun q => (∃ k, k < tb.length ∧ q = a k) ∨ sz ≤ q
def xI (tb : xTb) (a : Nat → Nat) : Prop := ∀ i j, i < tb.length → j < tb.length → a i = a j → i = j
theorem xW_at (cy : Nat → ClassId) (tb : xTb) (a : Nat → Nat) (S : xSt) (k : Nat) : (xW cy tb a S)[k]? = (tb[k]?).map (fun q => (a k, xE cy a S k q)) := by
  simp [xW, List.getElem?_mapIdx]
theorem xW_get {cy : Nat → ClassId} {tb : xTb} {a : Nat → Nat} {S : xSt} {k : Nat} {q : Nat × Nat × List Nat} (h : tb[k]? = some q) : (xW cy tb a S)[k]? = some (a k, xE cy a S k q) := by
  rw [xW_at, h]; rfl
theorem xF_at (a : Nat → Nat) (S : xSt) (k : Nat) (l : List Nat) (j : Nat) : (xF a S k l)[j]? = (l[j]?).map (fun c => xV a S k j c) := by
  simp [xF, List.getElem?_mapIdx]
theorem xF_len (a : Nat → Nat) (S : xSt) (k : Nat) (l : List Nat) : (xF a S k l).length = l.length := by simp [xF]
theorem xE_same {cy : Nat → ClassId} {a : Nat → Nat} {S S' : xSt} {k : Nat} (h1 : S'.1 k = S.1 k) (h2 : S'.2 k = S.2 k) (q : Nat × Nat × List Nat) : xE cy a S' k q = xE cy a S k q := by
  have e : xF a S' k q.2.2 = xF a S k q.2.2 := by
    apply List.ext_getElem?
    intro j
    rw [xF_at, xF_at]
    simp only [xV, h1, h2]
  unfold xE
  rw [e, h1, h2]
theorem xW_set {cy : Nat → ClassId} {tb : xTb} {a : Nat → Nat} {S S' : xSt} {k : Nat} {q : Nat × Nat × List Nat} (hq : tb[k]? = some q) (h : ∀ i, i ≠ k → S'.1 i = S.1 i ∧ S'.2 i = S.2 i) : (xW cy tb a S).set k (a k, xE cy a S' k q) = xW cy tb a S' := by
  apply List.ext_getElem?
  intro i
  rw [List.getElem?_set, xW_at, xW_at]
  by_cases hi : k = i
  · subst hi
    rw [if_pos rfl, hq]
    have hl : k < (xW cy tb a S).length := (List.getElem?_eq_some_iff.mp (xW_get (cy := cy) (a := a) (S := S) hq)).1
    rw [if_pos hl]; rfl
  · rw [if_neg hi]
    cases tb[i]? with
    | none => rfl
    | some q2 => 
      have := h i (fun e => hi e.symm)
      simp only [Option.map_some]
      rw [xE_same this.1 this.2]
theorem xsi_ne {S : xSt} {k j : Nat} {v : Int32} (i : Nat) (h : i ≠ k) : (xsi S k j v).1 i = S.1 i ∧ (xsi S k j v).2 i = S.2 i := by
  refine ⟨funext fun x => ?_, rfl⟩
  simp [xsi, h]
theorem xsl_ne {S : xSt} {k j : Nat} {v : Int64} (i : Nat) (h : i ≠ k) : (xsl S k j v).1 i = S.1 i ∧ (xsl S k j v).2 i = S.2 i := by
  refine ⟨rfl, funext fun x => ?_⟩
  simp [xsl, h]
theorem xcpi_ne {S : xSt} {ks sp k dp n : Nat} (i : Nat) (h : i ≠ k) : (xcpi S ks sp k dp n).1 i = S.1 i ∧ (xcpi S ks sp k dp n).2 i = S.2 i := by
  refine ⟨funext fun x => ?_, rfl⟩
  simp [xcpi, h]
theorem xcpl_ne {S : xSt} {ks sp k dp n : Nat} (i : Nat) (h : i ≠ k) : (xcpl S ks sp k dp n).1 i = S.1 i ∧ (xcpl S ks sp k dp n).2 i = S.2 i := by
  refine ⟨rfl, funext fun x => ?_⟩
  simp [xcpl, h]
theorem xW_puti {cy : Nat → ClassId} {tb : xTb} {a : Nat → Nat} {S : xSt} {k ci n j : Nat} {l : List Nat} {v : Int32} (he : tb[k]? = some (ci, n, l)) (hci : ci < 100) (hl : l[j]? = some 0) :
    (xW cy tb a S).set k (a k, .inr (ci, (xF a S k l).set j (.int v))) = xW cy tb a (xsi S k j v) := by
  rw [← xW_set (S := S) (S' := xsi S k j v) he (fun i hi => xsi_ne i hi)]
  have e : xF a (xsi S k j v) k l = (xF a S k l).set j (.int v) := by
    apply List.ext_getElem?
    intro i
    rw [List.getElem?_set, xF_at, xF_at, xF_len]
    by_cases hi : j = i
    · subst hi
      rw [if_pos rfl, if_pos (List.getElem?_eq_some_iff.mp hl).1, hl]
      simp [xV, xsi]
    · rw [if_neg hi]
      have hi2 : ¬ i = j := fun e => hi e.symm
      simp only [xV, xsi, hi2, and_false, if_false]
  simp only [xE, if_pos hci, e]
theorem xW_putl {cy : Nat → ClassId} {tb : xTb} {a : Nat → Nat} {S : xSt} {k ci n j : Nat} {l : List Nat} {v : Int64} (he : tb[k]? = some (ci, n, l)) (hci : ci < 100) (hl : l[j]? = some 1) :
    (xW cy tb a S).set k (a k, .inr (ci, (xF a S k l).set j (.long v))) = xW cy tb a (xsl S k j v) := by
  rw [← xW_set (S := S) (S' := xsl S k j v) he (fun i hi => xsl_ne i hi)]
  have e : xF a (xsl S k j v) k l = (xF a S k l).set j (.long v) := by
    apply List.ext_getElem?
    intro i
    rw [List.getElem?_set, xF_at, xF_at, xF_len]
    by_cases hi : j = i
    · subst hi
      rw [if_pos rfl, if_pos (List.getElem?_eq_some_iff.mp hl).1, hl]
      simp [xV, xsl]
    · rw [if_neg hi]
      have hi2 : ¬ i = j := fun e => hi e.symm
      simp only [xV, xsl, hi2, and_false, if_false]
  simp only [xE, if_pos hci, e]
theorem xsi_upd {S : xSt} {k j : Nat} {v : Int32} : (xsi S k j v).1 k = upd (S.1 k) j v := by
  funext x
  simp [xsi, upd]
theorem xsl_upd {S : xSt} {k j : Nat} {v : Int64} : (xsl S k j v).2 k = vp_updL (S.2 k) j v := by
  funext x
  simp [xsl, vp_updL]
theorem xcpi_upd {S : xSt} {ks sp k dp n : Nat} : (xcpi S ks sp k dp n).1 k = va_cpy (S.1 ks) (S.1 k) sp dp n := by
  funext x
  simp [xcpi, va_cpy]
theorem xcpl_upd {S : xSt} {ks sp k dp n : Nat} : (xcpl S ks sp k dp n).2 k = va_cpy (S.2 ks) (S.2 k) sp dp n := by
  funext x
  simp [xcpl, va_cpy]
/-! the words: all good words of the tables -/
def xTB : List Cond := lw_tbl.filter goodWord
theorem xgood {w : Cond} (h : w ∈ xTB) : GoodIn xTB (w :: xTB) := by
  intro v hv
  have hv : v ∈ xTB := by
    rcases List.mem_cons.mp hv with e | hv
    · rw [e]; exact h
    · exact hv
  exact ⟨hv, good_of_word (List.mem_filter.mp hv).2⟩
theorem xgoodL {w : Cond} (h : w ∈ xTB) : GoodIn lw_tbl (w :: xTB) := fun v hv => ⟨(List.mem_filter.mp (xgood h v hv).1).1, (xgood h v hv).2⟩
theorem xw_mem {w : Cond} (i : Nat) (h : lw_tbl[i]? = some w) (hg : goodWord w = true) : w ∈ xTB := List.mem_filter.mpr ⟨List.mem_of_getElem? h, hg⟩
/-! the static rows, and the words of nest mates: what holds of every state -/
def xZ1 (C n : String) (t : Nat) (N : Nat) (f : Nat → Int32) (A : Nat → Prop) (U : State) (H : Heap) : Prop := va_Z C n "[I" (.ref t) A U H ∧ va_T .int t N (fun j => .int (f j)) A U H
def xt_LEAST : Nat → Int32 := fun j => [(0 : Int32), 0, 0, 0, 0, 0, 30, 0].getD j 0
def xt_MOST : Nat → Int32 := fun j => [(9 : Int32), 99, 99, 1, 9, 1, 99, 99].getD j 0
def xN (U : State) : Prop := va_Nw (.methodLinkNest RX7 40 yX11_lowestBit RX11) U ∧ va_Nw (.fieldLinkNest RX4 87 RX11 "MOST" "[I" RX11) U ∧ va_Nw (.fieldLinkNest RX6 62 RX11 "MOST" "[I" RX11) U ∧ va_Nw (.fieldLinkNest RX1 28 RX11 "MOST" "[I" RX11) U ∧ va_Nw (.fieldLinkNest RX3 51 RX11 "MOST" "[I" RX11) U
def xEx (z : Nat → Nat) (A : Nat → Prop) (U : State) (H : Heap) : Prop := xN U ∧ xZ1 RX11 "LEAST" (z 0) 8 xt_LEAST A U H ∧ xZ1 RX11 "MOST" (z 1) 8 xt_MOST A U H
theorem xZ1.to {C n : String} {t N : Nat} {f : Nat → Int32} {A B : Nat → Prop} {u U : State} {H H1 : Heap} (h : xZ1 C n t N f A u H) (hvm : u.vm.Alike U.vm) (hq : ∀ a : Nat, a < H.size → ¬ A a → H1[a]? = H[a]?) (hAB : ∀ q, B q → A q) : xZ1 C n t N f B U H1 :=
  ⟨((h.1.moved hvm).kept hq).narrow hAB, ((h.2.moved hvm).kept hq).narrow hAB⟩
theorem xEx.to {z : Nat → Nat} {A B : Nat → Prop} {s U : State} {H H1 : Heap} (h : xEx z A s H) (hW : s.WarmedH U.vm) (hq : ∀ a : Nat, a < H.size → ¬ A a → H1[a]? = H[a]?) (hAB : ∀ q, B q → A q) : xEx z B U H1 := by
  obtain ⟨⟨n1, n2, n3, n4, n5⟩, h1, h2⟩ := h
  exact ⟨⟨va_Nw.warmM hW n1, va_Nw.warmF hW n2, va_Nw.warmF hW n3, va_Nw.warmF hW n4, va_Nw.warmF hW n5⟩, h1.to hW.alike hq hAB, h2.to hW.alike hq hAB⟩

theorem xEx.same {z : Nat → Nat} {A : Nat → Prop} {u U : State} {H : Heap} (h : xEx z A u H) (hvm : u.vm = U.vm) : xEx z A U H := by
  obtain ⟨⟨n1, n2, n3, n4, n5⟩, h1, h2⟩ := h
  have hal : u.vm.Alike U.vm := by rw [hvm]; exact Vm.Alike.refl _
  exact ⟨⟨va_Nw.same rfl hvm n1, va_Nw.same rfl hvm n2, va_Nw.same rfl hvm n3, va_Nw.same rfl hvm n4, va_Nw.same rfl hvm n5⟩, h1.to hal (fun _ _ _ => rfl) (fun _ h => h), h2.to hal (fun _ _ _ => rfl) (fun _ h => h)⟩
/-! what holds along a method; its start and end -/
def xM (p : Program) (c : Code) (cc : ByteArray) (m : MethodId) (s : State) (args : Array Value) (own : String) (nL : Nat) (D : va_G) (cy : Nat → ClassId) (tb : xTb) (a : Nat → Nat) (z : Nat → Nat) : Prop :=
  p.tables.exec = Jvm.exec ∧ c.code = cc ∧ c.maxLocals = nL ∧ s.vm.findClass own = some m.cls ∧ (∀ w ∈ xTB, w.before args s = true) ∧ va_K D vwCl (xty cy) s ∧ xI tb a ∧ xEx z (xA tb a s.heap.size) s s.heap
def xG (D : va_G) (cy : Nat → ClassId) (tb : xTb) (a : Nat → Nat) (S : xSt) (s : State) (H : Heap) (locs : List Loc) : Prop := va_P D vwCl (xW cy tb a S) H ∧ va_S (xA tb a s.heap.size) s.heap H locs
def xPre (D : va_G) (cy : Nat → ClassId) (tb : xTb) (a z : Nat → Nat) (S : xSt) (sz : Nat) (U : State) : Prop := U.heap.size = sz ∧ va_P D vwCl (xW cy tb a S) U.heap ∧ va_K D vwCl (xty cy) U ∧ xEx z (xA tb a sz) U U.heap
theorem xPre_blind {D : va_G} {cy : Nat → ClassId} {tb : xTb} {a z : Nat → Nat} {S : xSt} {sz : Nat} {av : List Value} : FrameBlind (va_Pc av (xPre D cy tb a z S sz)) := by
  intro b U g mk q
  obtain ⟨q0, q1, q2, q3, q4⟩ := q
  exact ⟨q0, q1, q2, va_K.moved (u := U) (U := U.calling g mk b) (Vm.Alike.refl U.vm) q3, q4.same (U := U.calling g mk b) rfl⟩
theorem xD_of {cy : Nat → ClassId} {tb : xTb} {a : Nat → Nat} {S : xSt} {sz : Nat} (hI : xI tb a) : va_D (xA tb a sz) (xW cy tb a S) := by
  have key : ∀ (k : Nat) (q : Nat × va_E), (xW cy tb a S)[k]? = some q → k < tb.length ∧ q.1 = a k := by
    intro k q h
    rw [xW_at] at h
    cases ht : tb[k]? with
    | none => rw [ht] at h; cases h
    | some e =>
      rw [ht] at h
      have h2 := Option.some.inj h
      exact ⟨(List.getElem?_eq_some_iff.mp ht).1, by rw [← h2]⟩
  refine ⟨fun i j p q hp hq e => ?_, fun k q h => Or.inl ⟨k, (key k q h).1, (key k q h).2⟩⟩
  have h1 := key i p hp
  have h2 := key j q hq
  exact hI i j h1.1 h2.1 (by rw [← h1.2, ← h2.2, e])
def xQi (D : va_G) (cy : Nat → ClassId) (tb : xTb) (a : Nat → Nat) (S' : xSt) (v : Int32) (sz : Nat) : Array Value → State → Outcome → State → Prop := va_Qi (S := Unit) (fun r _ => r = v) (fun _ t => va_P D vwCl (xW cy tb a S') t.heap) (xA tb a sz)
def xQl (D : va_G) (cy : Nat → ClassId) (tb : xTb) (a : Nat → Nat) (S' : xSt) (v : Int64) (sz : Nat) : Array Value → State → Outcome → State → Prop := va_Ql (S := Unit) (fun r _ => r = v) (fun _ t => va_P D vwCl (xW cy tb a S') t.heap) (xA tb a sz)
def xQv (D : va_G) (cy : Nat → ClassId) (tb : xTb) (a : Nat → Nat) (S' : xSt) (_ : Unit) (sz : Nat) : Array Value → State → Outcome → State → Prop := va_Qv (S := Unit) (fun _ => True) (fun _ t => va_P D vwCl (xW cy tb a S') t.heap) (xA tb a sz)
def xQr (D : va_G) (cy : Nat → ClassId) (tb : xTb) (a : Nat → Nat) (S' : xSt) (k : Nat) (sz : Nat) : Array Value → State → Outcome → State → Prop := va_Qr (S := Unit) (fun _ => True) (fun _ b t => b = a k ∧ va_P D vwCl (xW cy tb a S') t.heap) (xA tb a sz)
/-! links -/
def xFL (own : String) (index ci j : Nat) : Prop := ∃ (C : String) (T : u_T) (N : Nat), vwCl[ci]? = some (C, T, N) ∧ j < N ∧ (∀ w ∈ u_ws C T N, w ∈ xTB) ∧ Cond.fieldLink own index (T j).1 (T j).2.1 (T j).2.2.1 ∈ xTB
def xFP (ci j : Nat) (ty : FieldType) : Prop := ∃ (C : String) (T : u_T) (N : Nat), vwCl[ci]? = some (C, T, N) ∧ (T j).2.2.2 = false ∧ parseFieldDescriptor (T j).2.2.1 = some ty ∧ (∀ b, b < N → ∀ d, d < N → b ≠ d → (T b).2.1 ≠ (T d).2.1) ∧ ∃ ty0 : Nat → FieldType, ∀ k, k < N → parseFieldDescriptor (T k).2.2.1 = some (ty0 k)
def xML (own : String) (index : Nat) (y : MethodName) (bytes : ByteArray) (maxL : Nat) (ret : Option FieldType) (n : Nat) : Prop := Cond.code y bytes maxL ret ∈ xTB ∧ Cond.initialized y.cls ∈ xTB ∧ Cond.methodLink own index y ∈ xTB ∧ (y.cls ≠ "java/lang/invoke/MethodHandle" ∧ y.cls ≠ "java/lang/invoke/VarHandle" ∧ (parseMethodDescriptor y.desc).map (fun d => d.parameters.length) = some n)
section XI
variable {p : Program} {l : Launch} {e : Env} {R : Room} {s : State} {m : MethodId} {args : Array Value} {below : List Frame} {meth : Method} {c : Code} {H : Heap} {locs : List Loc} {Q : State → Prop}
variable {cc : ByteArray} {pc : Nat} {ls : Array Slot} {rest : List Value} {D : va_G} {cy : Nat → ClassId} {tb : xTb} {a z : Nat → Nat} {S : xSt} {own : String} {nL : Nat}
variable {τ : Type} {t : τ}
theorem x_iadd (hM : xM p c cc m s args own nL D cy tb a z) {x y : Int32} {κ : Int32 → Option τ} (h : xbd (x + y) κ = some t) (hd : decode cc pc = .ok (.iadd, 1)) (kk : ∀ v, κ v = some t → W p l e R s m args below meth c H locs 0 0 Q (F0 m (pc + 1) ls (.int v :: rest))) : W p l e R s m args below meth c H locs 0 0 Q (F0 m pc ls (.int y :: .int x :: rest)) := lv_iadd hM.1 hM.2.1 hd (kk _ h)
theorem x_isub (hM : xM p c cc m s args own nL D cy tb a z) {x y : Int32} {κ : Int32 → Option τ} (h : xbd (x - y) κ = some t) (hd : decode cc pc = .ok (.isub, 1)) (kk : ∀ v, κ v = some t → W p l e R s m args below meth c H locs 0 0 Q (F0 m (pc + 1) ls (.int v :: rest))) : W p l e R s m args below meth c H locs 0 0 Q (F0 m pc ls (.int y :: .int x :: rest)) := lv_isub hM.1 hM.2.1 hd (kk _ h)
theorem x_imul (hM : xM p c cc m s args own nL D cy tb a z) {x y : Int32} {κ : Int32 → Option τ} (h : xbd (x * y) κ = some t) (hd : decode cc pc = .ok (.imul, 1)) (kk : ∀ v, κ v = some t → W p l e R s m args below meth c H locs 0 0 Q (F0 m (pc + 1) ls (.int v :: rest))) : W p l e R s m args below meth c H locs 0 0 Q (F0 m pc ls (.int y :: .int x :: rest)) := lv_imul hM.1 hM.2.1 hd (kk _ h)
theorem x_iand (hM : xM p c cc m s args own nL D cy tb a z) {x y : Int32} {κ : Int32 → Option τ} (h : xbd (x &&& y) κ = some t) (hd : decode cc pc = .ok (.iand, 1)) (kk : ∀ v, κ v = some t → W p l e R s m args below meth c H locs 0 0 Q (F0 m (pc + 1) ls (.int v :: rest))) : W p l e R s m args below meth c H locs 0 0 Q (F0 m pc ls (.int y :: .int x :: rest)) := lv_iand hM.1 hM.2.1 hd (kk _ h)
theorem x_ior (hM : xM p c cc m s args own nL D cy tb a z) {x y : Int32} {κ : Int32 → Option τ} (h : xbd (x ||| y) κ = some t) (hd : decode cc pc = .ok (.ior, 1)) (kk : ∀ v, κ v = some t → W p l e R s m args below meth c H locs 0 0 Q (F0 m (pc + 1) ls (.int v :: rest))) : W p l e R s m args below meth c H locs 0 0 Q (F0 m pc ls (.int y :: .int x :: rest)) := lv_ior hM.1 hM.2.1 hd (kk _ h)
theorem x_ixor (hM : xM p c cc m s args own nL D cy tb a z) {x y : Int32} {κ : Int32 → Option τ} (h : xbd (x ^^^ y) κ = some t) (hd : decode cc pc = .ok (.ixor, 1)) (kk : ∀ v, κ v = some t → W p l e R s m args below meth c H locs 0 0 Q (F0 m (pc + 1) ls (.int v :: rest))) : W p l e R s m args below meth c H locs 0 0 Q (F0 m pc ls (.int y :: .int x :: rest)) := lv_ixor hM.1 hM.2.1 hd (kk _ h)
theorem x_ishl (hM : xM p c cc m s args own nL D cy tb a z) {x y : Int32} {κ : Int32 → Option τ} (h : xbd (x <<< (y &&& 31)) κ = some t) (hd : decode cc pc = .ok (.ishl, 1)) (kk : ∀ v, κ v = some t → W p l e R s m args below meth c H locs 0 0 Q (F0 m (pc + 1) ls (.int v :: rest))) : W p l e R s m args below meth c H locs 0 0 Q (F0 m pc ls (.int y :: .int x :: rest)) := lv_ishl hM.1 hM.2.1 hd (kk _ h)
theorem x_ishr (hM : xM p c cc m s args own nL D cy tb a z) {x y : Int32} {κ : Int32 → Option τ} (h : xbd (x >>> (y &&& 31)) κ = some t) (hd : decode cc pc = .ok (.ishr, 1)) (kk : ∀ v, κ v = some t → W p l e R s m args below meth c H locs 0 0 Q (F0 m (pc + 1) ls (.int v :: rest))) : W p l e R s m args below meth c H locs 0 0 Q (F0 m pc ls (.int y :: .int x :: rest)) := lv_ishr hM.1 hM.2.1 hd (kk _ h)
theorem x_iushr (hM : xM p c cc m s args own nL D cy tb a z) {x y : Int32} {κ : Int32 → Option τ} (h : xbd ((x.toUInt32 >>> (y.toUInt32 &&& Int32.toUInt32 31)).toInt32) κ = some t) (hd : decode cc pc = .ok (.iushr, 1)) (kk : ∀ v, κ v = some t → W p l e R s m args below meth c H locs 0 0 Q (F0 m (pc + 1) ls (.int v :: rest))) : W p l e R s m args below meth c H locs 0 0 Q (F0 m pc ls (.int y :: .int x :: rest)) := lv_iushr hM.1 hM.2.1 hd rfl (kk _ h)
theorem x_ineg (hM : xM p c cc m s args own nL D cy tb a z) {x : Int32} {κ : Int32 → Option τ} (h : xbd (-x) κ = some t) (hd : decode cc pc = .ok (.ineg, 1)) (kk : ∀ v, κ v = some t → W p l e R s m args below meth c H locs 0 0 Q (F0 m (pc + 1) ls (.int v :: rest))) : W p l e R s m args below meth c H locs 0 0 Q (F0 m pc ls (.int x :: rest)) := lv_ineg hM.1 hM.2.1 hd (kk _ h)
theorem x_i2b (hM : xM p c cc m s args own nL D cy tb a z) {x : Int32} {κ : Int32 → Option τ} (h : xbd (x.toInt8.toInt32) κ = some t) (hd : decode cc pc = .ok (.i2b, 1)) (kk : ∀ v, κ v = some t → W p l e R s m args below meth c H locs 0 0 Q (F0 m (pc + 1) ls (.int v :: rest))) : W p l e R s m args below meth c H locs 0 0 Q (F0 m pc ls (.int x :: rest)) := lv_i2b hM.1 hM.2.1 hd rfl (kk _ h)
theorem x_i2s (hM : xM p c cc m s args own nL D cy tb a z) {x : Int32} {κ : Int32 → Option τ} (h : xbd (x.toInt16.toInt32) κ = some t) (hd : decode cc pc = .ok (.i2s, 1)) (kk : ∀ v, κ v = some t → W p l e R s m args below meth c H locs 0 0 Q (F0 m (pc + 1) ls (.int v :: rest))) : W p l e R s m args below meth c H locs 0 0 Q (F0 m pc ls (.int x :: rest)) := lv_i2s hM.1 hM.2.1 hd rfl (kk _ h)
theorem x_idiv (hM : xM p c cc m s args own nL D cy tb a z) {x y : Int32} {κ : Int32 → Option τ} (h : xgd (¬ y = 0) (xbd (x / y) κ) = some t) (hd : decode cc pc = .ok (.idiv, 1)) (kk : ∀ v, κ v = some t → W p l e R s m args below meth c H locs 0 0 Q (F0 m (pc + 1) ls (.int v :: rest))) : W p l e R s m args below meth c H locs 0 0 Q (F0 m pc ls (.int y :: .int x :: rest)) := lv_idiv hM.1 hM.2.1 hd (xgd_at h).1 (kk _ (xgd_at h).2)
theorem x_irem (hM : xM p c cc m s args own nL D cy tb a z) {x y : Int32} {κ : Int32 → Option τ} (h : xgd (¬ y = 0) (xbd (x - x / y * y) κ) = some t) (hd : decode cc pc = .ok (.irem, 1)) (kk : ∀ v, κ v = some t → W p l e R s m args below meth c H locs 0 0 Q (F0 m (pc + 1) ls (.int v :: rest))) : W p l e R s m args below meth c H locs 0 0 Q (F0 m pc ls (.int y :: .int x :: rest)) := lv_irem hM.1 hM.2.1 hd (xgd_at h).1 (kk _ (xgd_at h).2)
theorem x_ladd (hM : xM p c cc m s args own nL D cy tb a z) {x y : Int64} {κ : Int64 → Option τ} (h : xbd (x + y) κ = some t) (hd : decode cc pc = .ok (.ladd, 1)) (kk : ∀ v, κ v = some t → W p l e R s m args below meth c H locs 0 0 Q (F0 m (pc + 1) ls (.long v :: rest))) : W p l e R s m args below meth c H locs 0 0 Q (F0 m pc ls (.long y :: .long x :: rest)) := lv_ladd hM.1 hM.2.1 hd (kk _ h)
theorem x_lsub (hM : xM p c cc m s args own nL D cy tb a z) {x y : Int64} {κ : Int64 → Option τ} (h : xbd (x - y) κ = some t) (hd : decode cc pc = .ok (.lsub, 1)) (kk : ∀ v, κ v = some t → W p l e R s m args below meth c H locs 0 0 Q (F0 m (pc + 1) ls (.long v :: rest))) : W p l e R s m args below meth c H locs 0 0 Q (F0 m pc ls (.long y :: .long x :: rest)) := lv_lsub hM.1 hM.2.1 hd (kk _ h)
theorem x_lor (hM : xM p c cc m s args own nL D cy tb a z) {x y : Int64} {κ : Int64 → Option τ} (h : xbd (x ||| y) κ = some t) (hd : decode cc pc = .ok (.lor, 1)) (kk : ∀ v, κ v = some t → W p l e R s m args below meth c H locs 0 0 Q (F0 m (pc + 1) ls (.long v :: rest))) : W p l e R s m args below meth c H locs 0 0 Q (F0 m pc ls (.long y :: .long x :: rest)) := lv_lor hM.1 hM.2.1 hd (kk _ h)
theorem x_land (hM : xM p c cc m s args own nL D cy tb a z) {x y : Int64} {κ : Int64 → Option τ} (h : xbd (x &&& y) κ = some t) (hd : decode cc pc = .ok (.land, 1)) (kk : ∀ v, κ v = some t → W p l e R s m args below meth c H locs 0 0 Q (F0 m (pc + 1) ls (.long v :: rest))) : W p l e R s m args below meth c H locs 0 0 Q (F0 m pc ls (.long y :: .long x :: rest)) := lv_land hM.1 hM.2.1 hd (kk _ h)
theorem x_lxor (hM : xM p c cc m s args own nL D cy tb a z) {x y : Int64} {κ : Int64 → Option τ} (h : xbd (x ^^^ y) κ = some t) (hd : decode cc pc = .ok (.lxor, 1)) (kk : ∀ v, κ v = some t → W p l e R s m args below meth c H locs 0 0 Q (F0 m (pc + 1) ls (.long v :: rest))) : W p l e R s m args below meth c H locs 0 0 Q (F0 m pc ls (.long y :: .long x :: rest)) := lv_lxor hM.1 hM.2.1 hd (kk _ h)
theorem x_lushr (hM : xM p c cc m s args own nL D cy tb a z) {x : Int64} {y : Int32} {κ : Int64 → Option τ} (h : xbd ((x.toUInt64 >>> (y.toInt64.toUInt64 &&& Int64.toUInt64 63)).toInt64) κ = some t) (hd : decode cc pc = .ok (.lushr, 1)) (kk : ∀ v, κ v = some t → W p l e R s m args below meth c H locs 0 0 Q (F0 m (pc + 1) ls (.long v :: rest))) : W p l e R s m args below meth c H locs 0 0 Q (F0 m pc ls (.int y :: .long x :: rest)) := lv_lushr hM.1 hM.2.1 hd rfl (kk _ h)
theorem x_lshl (hM : xM p c cc m s args own nL D cy tb a z) {x : Int64} {y : Int32} {κ : Int64 → Option τ} (h : xbd (x <<< (y.toInt64 &&& 63)) κ = some t) (hd : decode cc pc = .ok (.lshl, 1)) (kk : ∀ v, κ v = some t → W p l e R s m args below meth c H locs 0 0 Q (F0 m (pc + 1) ls (.long v :: rest))) : W p l e R s m args below meth c H locs 0 0 Q (F0 m pc ls (.int y :: .long x :: rest)) := lv_lshl hM.1 hM.2.1 hd rfl (kk _ h)
theorem x_lcmp (hM : xM p c cc m s args own nL D cy tb a z) {x y : Int64} {κ : Int32 → Option τ} (h : xbd (lg_cmp x y) κ = some t) (hd : decode cc pc = .ok (.lcmp, 1)) (kk : ∀ v, κ v = some t → W p l e R s m args below meth c H locs 0 0 Q (F0 m (pc + 1) ls (.int v :: rest))) : W p l e R s m args below meth c H locs 0 0 Q (F0 m pc ls (.long y :: .long x :: rest)) := W.lcmp hM.1 hM.2.1 hd (kk _ h)
theorem x_i2l (hM : xM p c cc m s args own nL D cy tb a z) {x : Int32} {κ : Int64 → Option τ} (h : xbd x.toInt64 κ = some t) (hd : decode cc pc = .ok (.i2l, 1)) (kk : ∀ v, κ v = some t → W p l e R s m args below meth c H locs 0 0 Q (F0 m (pc + 1) ls (.long v :: rest))) : W p l e R s m args below meth c H locs 0 0 Q (F0 m pc ls (.int x :: rest)) := lv_i2l hM.1 hM.2.1 hd rfl (kk _ h)
theorem x_l2i (hM : xM p c cc m s args own nL D cy tb a z) {x : Int64} {κ : Int32 → Option τ} (h : xbd x.toInt32 κ = some t) (hd : decode cc pc = .ok (.l2i, 1)) (kk : ∀ v, κ v = some t → W p l e R s m args below meth c H locs 0 0 Q (F0 m (pc + 1) ls (.int v :: rest))) : W p l e R s m args below meth c H locs 0 0 Q (F0 m pc ls (.long x :: rest)) := lv_l2i hM.1 hM.2.1 hd rfl (kk _ h)
theorem x_if_eq (hM : xM p c cc m s args own nL D cy tb a z) {x : Int32} {off : Int} {tgt : Nat} {α β : Option τ} (h : (if x = 0 then α else β) = some t) (hd : decode cc pc = .ok (.ifCond .eq off, 3)) (ht : (pc : Int) + off = (tgt : Int)) (kt : x = 0 → α = some t → W p l e R s m args below meth c H locs 0 0 Q (F0 m tgt ls rest)) (kf : ¬ x = 0 → β = some t → W p l e R s m args below meth c H locs 0 0 Q (F0 m (pc + 3) ls rest)) : W p l e R s m args below meth c H locs 0 0 Q (F0 m pc ls (.int x :: rest)) := lv_if_eq hM.1 hM.2.1 hd ht (fun hc => kt hc ((if_pos hc).symm.trans h)) (fun hc => kf hc ((if_neg hc).symm.trans h))
theorem x_icmp_eq (hM : xM p c cc m s args own nL D cy tb a z) {x y : Int32} {off : Int} {tgt : Nat} {α β : Option τ} (h : (if x = y then α else β) = some t) (hd : decode cc pc = .ok (.if_icmp .eq off, 3)) (ht : (pc : Int) + off = (tgt : Int)) (kt : x = y → α = some t → W p l e R s m args below meth c H locs 0 0 Q (F0 m tgt ls rest)) (kf : ¬ x = y → β = some t → W p l e R s m args below meth c H locs 0 0 Q (F0 m (pc + 3) ls rest)) : W p l e R s m args below meth c H locs 0 0 Q (F0 m pc ls (.int y :: .int x :: rest)) := lv_icmp_eq hM.1 hM.2.1 hd ht (fun hc => kt hc ((if_pos hc).symm.trans h)) (fun hc => kf hc ((if_neg hc).symm.trans h))
theorem x_if_ne (hM : xM p c cc m s args own nL D cy tb a z) {x : Int32} {off : Int} {tgt : Nat} {α β : Option τ} (h : (if ¬ x = 0 then α else β) = some t) (hd : decode cc pc = .ok (.ifCond .ne off, 3)) (ht : (pc : Int) + off = (tgt : Int)) (kt : ¬ x = 0 → α = some t → W p l e R s m args below meth c H locs 0 0 Q (F0 m tgt ls rest)) (kf : x = 0 → β = some t → W p l e R s m args below meth c H locs 0 0 Q (F0 m (pc + 3) ls rest)) : W p l e R s m args below meth c H locs 0 0 Q (F0 m pc ls (.int x :: rest)) := lv_if_ne hM.1 hM.2.1 hd ht (fun hc => kt hc ((if_pos hc).symm.trans h)) (fun hc => kf hc ((if_neg (fun q => q hc)).symm.trans h))
theorem x_icmp_ne (hM : xM p c cc m s args own nL D cy tb a z) {x y : Int32} {off : Int} {tgt : Nat} {α β : Option τ} (h : (if ¬ x = y then α else β) = some t) (hd : decode cc pc = .ok (.if_icmp .ne off, 3)) (ht : (pc : Int) + off = (tgt : Int)) (kt : ¬ x = y → α = some t → W p l e R s m args below meth c H locs 0 0 Q (F0 m tgt ls rest)) (kf : x = y → β = some t → W p l e R s m args below meth c H locs 0 0 Q (F0 m (pc + 3) ls rest)) : W p l e R s m args below meth c H locs 0 0 Q (F0 m pc ls (.int y :: .int x :: rest)) := lv_icmp_ne hM.1 hM.2.1 hd ht (fun hc => kt hc ((if_pos hc).symm.trans h)) (fun hc => kf hc ((if_neg (fun q => q hc)).symm.trans h))
theorem x_if_lt (hM : xM p c cc m s args own nL D cy tb a z) {x : Int32} {off : Int} {tgt : Nat} {α β : Option τ} (h : (if x < 0 then α else β) = some t) (hd : decode cc pc = .ok (.ifCond .lt off, 3)) (ht : (pc : Int) + off = (tgt : Int)) (kt : x < 0 → α = some t → W p l e R s m args below meth c H locs 0 0 Q (F0 m tgt ls rest)) (kf : ¬ x < 0 → β = some t → W p l e R s m args below meth c H locs 0 0 Q (F0 m (pc + 3) ls rest)) : W p l e R s m args below meth c H locs 0 0 Q (F0 m pc ls (.int x :: rest)) := lv_if_lt hM.1 hM.2.1 hd ht (fun hc => kt hc ((if_pos hc).symm.trans h)) (fun hc => kf hc ((if_neg hc).symm.trans h))
theorem x_icmp_lt (hM : xM p c cc m s args own nL D cy tb a z) {x y : Int32} {off : Int} {tgt : Nat} {α β : Option τ} (h : (if x < y then α else β) = some t) (hd : decode cc pc = .ok (.if_icmp .lt off, 3)) (ht : (pc : Int) + off = (tgt : Int)) (kt : x < y → α = some t → W p l e R s m args below meth c H locs 0 0 Q (F0 m tgt ls rest)) (kf : ¬ x < y → β = some t → W p l e R s m args below meth c H locs 0 0 Q (F0 m (pc + 3) ls rest)) : W p l e R s m args below meth c H locs 0 0 Q (F0 m pc ls (.int y :: .int x :: rest)) := lv_icmp_lt hM.1 hM.2.1 hd ht (fun hc => kt hc ((if_pos hc).symm.trans h)) (fun hc => kf hc ((if_neg hc).symm.trans h))
theorem x_if_ge (hM : xM p c cc m s args own nL D cy tb a z) {x : Int32} {off : Int} {tgt : Nat} {α β : Option τ} (h : (if 0 ≤ x then α else β) = some t) (hd : decode cc pc = .ok (.ifCond .ge off, 3)) (ht : (pc : Int) + off = (tgt : Int)) (kt : 0 ≤ x → α = some t → W p l e R s m args below meth c H locs 0 0 Q (F0 m tgt ls rest)) (kf : ¬ 0 ≤ x → β = some t → W p l e R s m args below meth c H locs 0 0 Q (F0 m (pc + 3) ls rest)) : W p l e R s m args below meth c H locs 0 0 Q (F0 m pc ls (.int x :: rest)) := lv_if_ge hM.1 hM.2.1 hd ht (fun hc => kt hc ((if_pos hc).symm.trans h)) (fun hc => kf hc ((if_neg hc).symm.trans h))
theorem x_icmp_ge (hM : xM p c cc m s args own nL D cy tb a z) {x y : Int32} {off : Int} {tgt : Nat} {α β : Option τ} (h : (if y ≤ x then α else β) = some t) (hd : decode cc pc = .ok (.if_icmp .ge off, 3)) (ht : (pc : Int) + off = (tgt : Int)) (kt : y ≤ x → α = some t → W p l e R s m args below meth c H locs 0 0 Q (F0 m tgt ls rest)) (kf : ¬ y ≤ x → β = some t → W p l e R s m args below meth c H locs 0 0 Q (F0 m (pc + 3) ls rest)) : W p l e R s m args below meth c H locs 0 0 Q (F0 m pc ls (.int y :: .int x :: rest)) := lv_icmp_ge hM.1 hM.2.1 hd ht (fun hc => kt hc ((if_pos hc).symm.trans h)) (fun hc => kf hc ((if_neg hc).symm.trans h))
theorem x_if_gt (hM : xM p c cc m s args own nL D cy tb a z) {x : Int32} {off : Int} {tgt : Nat} {α β : Option τ} (h : (if 0 < x then α else β) = some t) (hd : decode cc pc = .ok (.ifCond .gt off, 3)) (ht : (pc : Int) + off = (tgt : Int)) (kt : 0 < x → α = some t → W p l e R s m args below meth c H locs 0 0 Q (F0 m tgt ls rest)) (kf : ¬ 0 < x → β = some t → W p l e R s m args below meth c H locs 0 0 Q (F0 m (pc + 3) ls rest)) : W p l e R s m args below meth c H locs 0 0 Q (F0 m pc ls (.int x :: rest)) := lv_if_gt hM.1 hM.2.1 hd ht (fun hc => kt hc ((if_pos hc).symm.trans h)) (fun hc => kf hc ((if_neg hc).symm.trans h))
theorem x_icmp_gt (hM : xM p c cc m s args own nL D cy tb a z) {x y : Int32} {off : Int} {tgt : Nat} {α β : Option τ} (h : (if y < x then α else β) = some t) (hd : decode cc pc = .ok (.if_icmp .gt off, 3)) (ht : (pc : Int) + off = (tgt : Int)) (kt : y < x → α = some t → W p l e R s m args below meth c H locs 0 0 Q (F0 m tgt ls rest)) (kf : ¬ y < x → β = some t → W p l e R s m args below meth c H locs 0 0 Q (F0 m (pc + 3) ls rest)) : W p l e R s m args below meth c H locs 0 0 Q (F0 m pc ls (.int y :: .int x :: rest)) := lv_icmp_gt hM.1 hM.2.1 hd ht (fun hc => kt hc ((if_pos hc).symm.trans h)) (fun hc => kf hc ((if_neg hc).symm.trans h))
theorem x_if_le (hM : xM p c cc m s args own nL D cy tb a z) {x : Int32} {off : Int} {tgt : Nat} {α β : Option τ} (h : (if x ≤ 0 then α else β) = some t) (hd : decode cc pc = .ok (.ifCond .le off, 3)) (ht : (pc : Int) + off = (tgt : Int)) (kt : x ≤ 0 → α = some t → W p l e R s m args below meth c H locs 0 0 Q (F0 m tgt ls rest)) (kf : ¬ x ≤ 0 → β = some t → W p l e R s m args below meth c H locs 0 0 Q (F0 m (pc + 3) ls rest)) : W p l e R s m args below meth c H locs 0 0 Q (F0 m pc ls (.int x :: rest)) := lv_if_le hM.1 hM.2.1 hd ht (fun hc => kt hc ((if_pos hc).symm.trans h)) (fun hc => kf hc ((if_neg hc).symm.trans h))
theorem x_icmp_le (hM : xM p c cc m s args own nL D cy tb a z) {x y : Int32} {off : Int} {tgt : Nat} {α β : Option τ} (h : (if x ≤ y then α else β) = some t) (hd : decode cc pc = .ok (.if_icmp .le off, 3)) (ht : (pc : Int) + off = (tgt : Int)) (kt : x ≤ y → α = some t → W p l e R s m args below meth c H locs 0 0 Q (F0 m tgt ls rest)) (kf : ¬ x ≤ y → β = some t → W p l e R s m args below meth c H locs 0 0 Q (F0 m (pc + 3) ls rest)) : W p l e R s m args below meth c H locs 0 0 Q (F0 m pc ls (.int y :: .int x :: rest)) := lv_icmp_le hM.1 hM.2.1 hd ht (fun hc => kt hc ((if_pos hc).symm.trans h)) (fun hc => kf hc ((if_neg hc).symm.trans h))
theorem x_iinc (hM : xM p c cc m s args own nL D cy tb a z) {i k : Nat} {n : Int} {nn x : Int32} {lv : List (Nat × Value)} (lv' : Int32 → List (Nat × Value)) {κ : Int32 → Option τ} (h : xbd (x + nn) κ = some t) (hd : decode cc pc = .ok (.iinc i n, 3)) (hl : lv_has ls nL lv) (hk : lv[k]? = some (i, .int x)) (hnn : Int32.ofInt n = nn) (hn : i < nL) (hlv : ∀ v, (i, Value.int v) :: lv.filter (fun q => !(q.1 == i) && !(q.1 + 1 == i && q.2.category == 2)) = lv' v) (kk : ∀ v ls', κ v = some t → lv_has ls' nL (lv' v) → W p l e R s m args below meth c H locs 0 0 Q (F0 m (pc + 3) ls' rest)) : W p l e R s m args below meth c H locs 0 0 Q (F0 m pc ls rest) := lv_iinc hM.1 hM.2.1 hd hl hk (by rw [hnn]) hn (hlv _) (fun ls' h' => kk _ ls' h h')
theorem xfl_has {ci : Nat} {C : String} {T : u_T} {N : Nat} {f : Nat} : True := trivial
theorem x_gi (hM : xM p c cc m s args own nL D cy tb a z) (hG : xG D cy tb a S s H locs) {index ci n k j : Nat} {fl : List Nat} (hF : xFL own index ci j) (he : tb[k]? = some (ci, n, fl)) (hci : ci < 100) (hj : fl[j]? = some 0) {κ : Int32 → Option τ} (h : xbd (S.1 k j) κ = some t) (hd : decode cc pc = .ok (.getfield index, 3)) (kk : ∀ v, κ v = some t → W p l e R s m args below meth c H locs 0 0 Q (F0 m (pc + 3) ls (.int v :: rest))) : W p l e R s m args below meth c H locs 0 0 Q (F0 m pc ls (.ref (a k) :: rest)) := by
  obtain ⟨C, T, N, h1, h2, h3, h4⟩ := hF
  have hw : (xW cy tb a S)[k]? = some (a k, .inr (ci, xF a S k fl)) := by rw [xW_get he]; simp only [xE, if_pos hci]
  exact va_get hM.1 hM.2.1 hM.2.2.2.2.1 h3 hM.2.2.2.1 hM.2.2.2.2.2.1 hG.1 k hw h1 j h2 (hM.2.2.2.2.1 _ h4) (fun _ q => q) (v := .int (S.1 k j)) (by rw [xF_at, hj]; rfl) hd (kk _ h)
theorem x_gl (hM : xM p c cc m s args own nL D cy tb a z) (hG : xG D cy tb a S s H locs) {index ci n k j : Nat} {fl : List Nat} (hF : xFL own index ci j) (he : tb[k]? = some (ci, n, fl)) (hci : ci < 100) (hj : fl[j]? = some 1) {κ : Int64 → Option τ} (h : xbd (S.2 k j) κ = some t) (hd : decode cc pc = .ok (.getfield index, 3)) (kk : ∀ v, κ v = some t → W p l e R s m args below meth c H locs 0 0 Q (F0 m (pc + 3) ls (.long v :: rest))) : W p l e R s m args below meth c H locs 0 0 Q (F0 m pc ls (.ref (a k) :: rest)) := by
  obtain ⟨C, T, N, h1, h2, h3, h4⟩ := hF
  have hw : (xW cy tb a S)[k]? = some (a k, .inr (ci, xF a S k fl)) := by rw [xW_get he]; simp only [xE, if_pos hci]
  exact va_get hM.1 hM.2.1 hM.2.2.2.2.1 h3 hM.2.2.2.1 hM.2.2.2.2.2.1 hG.1 k hw h1 j h2 (hM.2.2.2.2.1 _ h4) (fun _ q => q) (v := .long (S.2 k j)) (by rw [xF_at, hj]; rfl) hd (kk _ h)
theorem x_gr (hM : xM p c cc m s args own nL D cy tb a z) (hG : xG D cy tb a S s H locs) {index ci n k j r : Nat} {fl : List Nat} (hF : xFL own index ci j) (he : tb[k]? = some (ci, n, fl)) (hci : ci < 100) (hj : fl[j]? = some (r + 2)) (hd : decode cc pc = .ok (.getfield index, 3)) (kk : W p l e R s m args below meth c H locs 0 0 Q (F0 m (pc + 3) ls (.ref (a r) :: rest))) : W p l e R s m args below meth c H locs 0 0 Q (F0 m pc ls (.ref (a k) :: rest)) := by
  obtain ⟨C, T, N, h1, h2, h3, h4⟩ := hF
  have hw : (xW cy tb a S)[k]? = some (a k, .inr (ci, xF a S k fl)) := by rw [xW_get he]; simp only [xE, if_pos hci]
  exact va_get hM.1 hM.2.1 hM.2.2.2.2.1 h3 hM.2.2.2.1 hM.2.2.2.2.2.1 hG.1 k hw h1 j h2 (hM.2.2.2.2.1 _ h4) (fun _ q => q) (v := .ref (a r)) (by rw [xF_at, hj]; simp [xV]) hd kk
theorem x_pi (hM : xM p c cc m s args own nL D cy tb a z) (hG : xG D cy tb a S s H locs) {index ci n k j : Nat} {ty : FieldType} {fl : List Nat} {x : Int32} (hF : xFL own index ci j) (hP : xFP ci j ty) (he : tb[k]? = some (ci, n, fl)) (hci : ci < 100) (hj : fl[j]? = some 0) (hnar : narrow ty (.int x) = .int x) (hfit : fits ty (.int x) = true) {κ : xSt → Option τ} (h : xbd (xsi S k j x) κ = some t) (hd : decode cc pc = .ok (.putfield index, 3)) (kk : ∀ S' H locs, κ S' = some t → xG D cy tb a S' s H locs → W p l e R s m args below meth c H locs 0 0 Q (F0 m (pc + 3) ls rest)) : W p l e R s m args below meth c H locs 0 0 Q (F0 m pc ls (.int x :: .ref (a k) :: rest)) := by
  obtain ⟨C, T, N, h1, h2, h3, h4⟩ := hF
  obtain ⟨C2, T2, N2, g1, g2, g3, g4, ty0, g5⟩ := hP
  have e1 := Option.some.inj (h1.symm.trans g1)
  cases e1
  have hw : (xW cy tb a S)[k]? = some (a k, .inr (ci, xF a S k fl)) := by rw [xW_get he]; simp only [xE, if_pos hci]
  refine va_put hM.1 hM.2.1 hM.2.2.2.2.1 h3 ty0 g5 g4 hM.2.2.2.1 hM.2.2.2.2.2.1 hG.1 (xD_of hM.2.2.2.2.2.2.1) hG.2 k hw h1 j h2 (hM.2.2.2.2.1 _ h4) (fun _ q => q) g2 g3 (v := .int x) hnar hfit (by rw [xF_len]; exact (List.getElem?_eq_some_iff.mp hj).1) hd (fun H1 locs1 hP1 _ hS1 => ?_)
  rw [xW_puti he hci hj] at hP1
  exact kk _ _ _ h ⟨hP1, hS1⟩
theorem x_pl (hM : xM p c cc m s args own nL D cy tb a z) (hG : xG D cy tb a S s H locs) {index ci n k j : Nat} {fl : List Nat} {x : Int64} (hF : xFL own index ci j) (hP : xFP ci j .long) (he : tb[k]? = some (ci, n, fl)) (hci : ci < 100) (hj : fl[j]? = some 1) {κ : xSt → Option τ} (h : xbd (xsl S k j x) κ = some t) (hd : decode cc pc = .ok (.putfield index, 3)) (kk : ∀ S' H locs, κ S' = some t → xG D cy tb a S' s H locs → W p l e R s m args below meth c H locs 0 0 Q (F0 m (pc + 3) ls rest)) : W p l e R s m args below meth c H locs 0 0 Q (F0 m pc ls (.long x :: .ref (a k) :: rest)) := by
  obtain ⟨C, T, N, h1, h2, h3, h4⟩ := hF
  obtain ⟨C2, T2, N2, g1, g2, g3, g4, ty0, g5⟩ := hP
  have e1 := Option.some.inj (h1.symm.trans g1)
  cases e1
  have hw : (xW cy tb a S)[k]? = some (a k, .inr (ci, xF a S k fl)) := by rw [xW_get he]; simp only [xE, if_pos hci]
  refine va_put hM.1 hM.2.1 hM.2.2.2.2.1 h3 ty0 g5 g4 hM.2.2.2.1 hM.2.2.2.2.2.1 hG.1 (xD_of hM.2.2.2.2.2.2.1) hG.2 k hw h1 j h2 (hM.2.2.2.2.1 _ h4) (fun _ q => q) g2 g3 (v := .long x) rfl rfl (by rw [xF_len]; exact (List.getElem?_eq_some_iff.mp hj).1) hd (fun H1 locs1 hP1 _ hS1 => ?_)
  rw [xW_putl he hci hj] at hP1
  exact kk _ _ _ h ⟨hP1, hS1⟩
theorem x_iald (hM : xM p c cc m s args own nL D cy tb a z) (hG : xG D cy tb a S s H locs) {n k : Nat} {fl : List Nat} {i : Int32} (he : tb[k]? = some (100, n, fl)) {κ : Int32 → Option τ} (h : xgd (xin i n) (xbd (S.1 k i.toNatClampNeg) κ) = some t) (hd : decode cc pc = .ok (.iaload, 1)) (kk : ∀ v, κ v = some t → W p l e R s m args below meth c H locs 0 0 Q (F0 m (pc + 1) ls (.int v :: rest))) : W p l e R s m args below meth c H locs 0 0 Q (F0 m pc ls (.int i :: .ref (a k) :: rest)) := by
  have hw : (xW cy tb a S)[k]? = some (a k, .inl (cy 0, n, .inl (S.1 k))) := by rw [xW_get he]; rfl
  exact va_iald hM.1 hM.2.1 hM.2.2.2.2.2.1 hG.1 k 0 hw rfl (xgd_at h).1 hd (kk _ (xgd_at h).2)
theorem x_iast (hM : xM p c cc m s args own nL D cy tb a z) (hG : xG D cy tb a S s H locs) {n k : Nat} {fl : List Nat} {i x : Int32} (he : tb[k]? = some (100, n, fl)) {κ : xSt → Option τ} (h : xgd (xin i n) (xbd (xsi S k i.toNatClampNeg (x)) κ) = some t) (hd : decode cc pc = .ok (.iastore, 1)) (kk : ∀ S' H locs, κ S' = some t → xG D cy tb a S' s H locs → W p l e R s m args below meth c H locs 0 0 Q (F0 m (pc + 1) ls rest)) : W p l e R s m args below meth c H locs 0 0 Q (F0 m pc ls (.int x :: .int i :: .ref (a k) :: rest)) := by
  have hw : (xW cy tb a S)[k]? = some (a k, .inl (cy 0, n, .inl (S.1 k))) := by rw [xW_get he]; rfl
  refine va_iast hM.1 hM.2.1 hM.2.2.2.2.2.1 hG.1 (xD_of hM.2.2.2.2.2.2.1) hG.2 k 0 hw rfl (xgd_at h).1 hd (fun H1 locs1 hP1 _ hS1 => ?_)
  have hq := xW_set (cy := cy) (a := a) (S := S) (S' := xsi S k i.toNatClampNeg (x)) he (fun i hi => xsi_ne i hi)
  have hx : xE cy a (xsi S k i.toNatClampNeg (x)) k (100, n, fl) = .inl (cy 0, n, .inl (upd (S.1 k) i.toNatClampNeg (x))) := by rw [← xsi_upd]; rfl
  rw [hx] at hq
  exact kk _ _ _ (xgd_at h).2 ⟨hq ▸ hP1, hS1⟩
theorem x_lald (hM : xM p c cc m s args own nL D cy tb a z) (hG : xG D cy tb a S s H locs) {n k : Nat} {fl : List Nat} {i : Int32} (he : tb[k]? = some (103, n, fl)) {κ : Int64 → Option τ} (h : xgd (xin i n) (xbd (S.2 k i.toNatClampNeg) κ) = some t) (hd : decode cc pc = .ok (.laload, 1)) (kk : ∀ v, κ v = some t → W p l e R s m args below meth c H locs 0 0 Q (F0 m (pc + 1) ls (.long v :: rest))) : W p l e R s m args below meth c H locs 0 0 Q (F0 m pc ls (.int i :: .ref (a k) :: rest)) := by
  have hw : (xW cy tb a S)[k]? = some (a k, .inl (cy 3, n, .inr (.inl (S.2 k)))) := by rw [xW_get he]; rfl
  exact va_lald hM.1 hM.2.1 hM.2.2.2.2.2.1 hG.1 k 3 hw rfl (xgd_at h).1 hd (kk _ (xgd_at h).2)
theorem x_last (hM : xM p c cc m s args own nL D cy tb a z) (hG : xG D cy tb a S s H locs) {n k : Nat} {fl : List Nat} {i : Int32} {x : Int64} (he : tb[k]? = some (103, n, fl)) {κ : xSt → Option τ} (h : xgd (xin i n) (xbd (xsl S k i.toNatClampNeg x) κ) = some t) (hd : decode cc pc = .ok (.lastore, 1)) (kk : ∀ S' H locs, κ S' = some t → xG D cy tb a S' s H locs → W p l e R s m args below meth c H locs 0 0 Q (F0 m (pc + 1) ls rest)) : W p l e R s m args below meth c H locs 0 0 Q (F0 m pc ls (.long x :: .int i :: .ref (a k) :: rest)) := by
  have hw : (xW cy tb a S)[k]? = some (a k, .inl (cy 3, n, .inr (.inl (S.2 k)))) := by rw [xW_get he]; rfl
  refine va_last hM.1 hM.2.1 hM.2.2.2.2.2.1 hG.1 (xD_of hM.2.2.2.2.2.2.1) hG.2 k 3 hw rfl (xgd_at h).1 hd (fun H1 locs1 hP1 _ hS1 => ?_)
  have hq := xW_set (cy := cy) (a := a) (S := S) (S' := xsl S k i.toNatClampNeg x) he (fun i hi => xsl_ne i hi)
  have hx : xE cy a (xsl S k i.toNatClampNeg x) k (103, n, fl) = .inl (cy 3, n, .inr (.inl (vp_updL (S.2 k) i.toNatClampNeg x))) := by rw [← xsl_upd]; rfl
  rw [hx] at hq
  exact kk _ _ _ (xgd_at h).2 ⟨hq ▸ hP1, hS1⟩
theorem x_alen (hM : xM p c cc m s args own nL D cy tb a z) (hG : xG D cy tb a S s H locs) {n k : Nat} {fl : List Nat} (he : tb[k]? = some (100, n, fl)) {v : Int32} (hv : Int32.ofNat n = v) (hd : decode cc pc = .ok (.arraylength, 1)) (kk : W p l e R s m args below meth c H locs 0 0 Q (F0 m (pc + 1) ls (.int v :: rest))) : W p l e R s m args below meth c H locs 0 0 Q (F0 m pc ls (.ref (a k) :: rest)) := by
  have hw : (xW cy tb a S)[k]? = some (a k, .inl (cy 0, n, .inl (S.1 k))) := by rw [xW_get he]; rfl
  exact va_alen hM.1 hM.2.1 hM.2.2.2.2.2.1 hG.1 k 0 hw rfl hv hd kk
theorem x_aald4 (hM : xM p c cc m s args own nL D cy tb a z) (hG : xG D cy tb a S s H locs) {n k b0 b1 : Nat} {i : Int32} (he : tb[k]? = some (104, n, [b0, b1])) {α : Option τ} (h : xgd (xin i n) α = some t) (hd : decode cc pc = .ok (.aaload, 1)) (kk : xin i n → α = some t → W p l e R s m args below meth c H locs 0 0 Q (F0 m (pc + 1) ls (.ref (a (b0 + b1 * i.toNatClampNeg)) :: rest))) : W p l e R s m args below meth c H locs 0 0 Q (F0 m pc ls (.int i :: .ref (a k) :: rest)) := by
  have hw : (xW cy tb a S)[k]? = some (a k, .inl (cy 4, n, .inr (.inr (.inr (.inr (fun j => some (a (b0 + b1 * j)))))))) := by rw [xW_get he]; rfl
  exact va_aldq hM.1 hM.2.1 hM.2.2.2.2.2.1 hG.1 k 4 hw rfl (xgd_at h).1 hd (kk (xgd_at h).1 (xgd_at h).2)
theorem x_aald5 (hM : xM p c cc m s args own nL D cy tb a z) (hG : xG D cy tb a S s H locs) {n k b0 b1 : Nat} {i : Int32} (he : tb[k]? = some (105, n, [b0, b1])) {α : Option τ} (h : xgd (xin i n) α = some t) (hd : decode cc pc = .ok (.aaload, 1)) (kk : xin i n → α = some t → W p l e R s m args below meth c H locs 0 0 Q (F0 m (pc + 1) ls (.ref (a (b0 + b1 * i.toNatClampNeg)) :: rest))) : W p l e R s m args below meth c H locs 0 0 Q (F0 m pc ls (.int i :: .ref (a k) :: rest)) := by
  have hw : (xW cy tb a S)[k]? = some (a k, .inl (cy 5, n, .inr (.inr (.inr (.inr (fun j => some (a (b0 + b1 * j)))))))) := by rw [xW_get he]; rfl
  exact va_aldq hM.1 hM.2.1 hM.2.2.2.2.2.1 hG.1 k 5 hw rfl (xgd_at h).1 hd (kk (xgd_at h).1 (xgd_at h).2)
theorem x_gs (hM : xM p c cc m s args own nL D cy tb a z) (hG : xG D cy tb a S s H locs) {C n : String} {t0 N index : Nat} {f : Nat → Int32} (hZ : xZ1 C n t0 N f (xA tb a s.heap.size) s s.heap) (hw : Cond.fieldLink own index C n "[I" ∈ xTB) (hd : decode cc pc = .ok (.getstatic index, 3)) (kk : W p l e R s m args below meth c H locs 0 0 Q (F0 m (pc + 3) ls (.ref t0 :: rest))) : W p l e R s m args below meth c H locs 0 0 Q (F0 m pc ls rest) :=
  va_gets hM.1 hM.2.1 hZ.1 hG.2 hM.2.2.2.1 (hM.2.2.2.2.1 _ hw) (fun _ q => q) hd kk
theorem x_gsN (hM : xM p c cc m s args own nL D cy tb a z) (hG : xG D cy tb a S s H locs) {C n host : String} {t0 N index : Nat} {f : Nat → Int32} (hZ : xZ1 C n t0 N f (xA tb a s.heap.size) s s.heap) (hw : va_Nw (.fieldLinkNest own index C n "[I" host) s) (hd : decode cc pc = .ok (.getstatic index, 3)) (kk : W p l e R s m args below meth c H locs 0 0 Q (F0 m (pc + 3) ls (.ref t0 :: rest))) : W p l e R s m args below meth c H locs 0 0 Q (F0 m pc ls rest) :=
  va_getsN hM.1 hM.2.1 hZ.1 hG.2 hM.2.2.2.1 (va_Nw.use rfl hw) (fun _ q => q) hd kk
theorem x_tald (hM : xM p c cc m s args own nL D cy tb a z) (hG : xG D cy tb a S s H locs) {C nm : String} {t0 N : Nat} {f : Nat → Int32} (hZ : xZ1 C nm t0 N f (xA tb a s.heap.size) s s.heap) {i : Int32} {κ : Int32 → Option τ} (h : xgd (xin i N) (xbd (f i.toNatClampNeg) κ) = some t) (hd : decode cc pc = .ok (.iaload, 1)) (kk : ∀ v, κ v = some t → W p l e R s m args below meth c H locs 0 0 Q (F0 m (pc + 1) ls (.int v :: rest))) : W p l e R s m args below meth c H locs 0 0 Q (F0 m pc ls (.int i :: .ref t0 :: rest)) :=
  va_ti hM.1 hM.2.1 hZ.2 hG.2 (xgd_at h).1 rfl hd (kk _ (xgd_at h).2)
theorem x_cVi (hM : xM p c cc m s args own nL D cy tb a z) (hG : xG D cy tb a S s H locs) {index n mxL fr lc k ci n0 N : Nat} {fl : List Nat} {C : String} {T : u_T} {y : MethodName} {bytes : ByteArray} {ret : Option FieldType} (hL : xML own index y bytes mxL ret n) (hin : Cond.instanceMethod y ∈ xTB) (hsel : Cond.selects C y y ∈ xTB) (he : tb[k]? = some (ci, n0, fl)) (hci : ci < 100) (hC : vwCl[ci]? = some (C, T, N)) {As st : List Value} {F : Option (xSt × Int32)} {κ : xSt → Int32 → Option τ} (h : xob F κ = some t) (hMet : ∀ S' v, F = some (S', v) → Met l y (Cond.code y bytes mxL ret :: xTB) ({ frames := fr, cells := 0, slots := 0, locals := lc } : Room) (va_Pc (.ref (a k) :: As) (xPre D cy tb a z S H.size)) (xQi D cy tb a S' v H.size) 0 0 (xA tb a H.size)) (hR : fr + 1 ≤ R.frames ∧ 8 + (mxL + 11) + lc ≤ R.locals) (hn : As.length = n) (hls : ls.size = nL) (hst : st = As.reverse ++ .ref (a k) :: rest) (hrm : (rest.map fun v => v.category).sum ≤ 8) (hd : decode cc pc = .ok (.invokevirtual index, 3)) (kk : ∀ S' v H locs, κ S' v = some t → xG D cy tb a S' s H locs → W p l e R s m args below meth c H locs 0 0 Q (F0 m (pc + 3) ls (.int v :: rest))) : W p l e R s m args below meth c H locs 0 0 Q (F0 m pc ls st) := by
  obtain ⟨S', v, hF, hk⟩ := xob_at h
  obtain ⟨l1, l2, l3, l4⟩ := hL
  have hts := hM.2.2.2.2.1
  have hA : ∀ q, q < H.size → xA tb a H.size q → xA tb a s.heap.size q := fun q hq hq2 => hq2.elim Or.inl (fun h => absurd hq (Nat.not_lt.mpr h))
  have hf : ∀ q, xA tb a H.size q → xA tb a s.heap.size q := fun q hq => hq.elim Or.inl (fun h => Or.inr (Nat.le_trans hG.2.1 h))
  have hpre : ∀ U : State, U.heap = H → s.WarmedH U.vm → xPre D cy tb a z S H.size U := fun U hU hW => ⟨by rw [hU], by rw [hU]; exact hG.1, va_K.moved hW.alike hM.2.2.2.2.2.1, hM.2.2.2.2.2.2.2.to (H1 := U.heap) hW (fun q h1 h2 => by rw [hU]; exact hG.2.2.1 q h1 h2) hf⟩
  have hw : (xW cy tb a S)[k]? = some (a k, .inr (ci, xF a S k fl)) := by rw [xW_get he]; simp only [xE, if_pos hci]
  have hcb : CallB R s args own index y bytes mxL ret (Cond.code y bytes mxL ret :: xTB) ({ frames := fr, cells := 0, slots := 0, locals := lc } : Room) 0 0 n := callB_of n hts (xgood l1) rfl rfl rfl (hts _ l2) (hts _ l3) l4 hR
  exact va_calli (va_runV (As := As) (rest := rest) ⟨hM.1, hM.2.1, hM.2.2.1, hM.2.2.2.1, hts⟩ (hMet S' v hF) ⟨hcb, hts _ hin, hts _ hsel⟩ ⟨xPre_blind, va_recv hM.2.2.2.2.2.1 hG.1 hC hw, fun U hU hW => ⟨rfl, hpre U hU hW⟩⟩ rfl hn hls hst (lv_room hrm) hd ⟨Nat.zero_le _, Nat.zero_le _⟩) hG.2 hA hf (fun r u t1 H1 locs1 ht _ hw2 hB _ _ hS => by subst hw2; subst ht; exact kk _ _ _ _ hk ⟨hB, hS⟩)
theorem x_cSi (hM : xM p c cc m s args own nL D cy tb a z) (hG : xG D cy tb a S s H locs) {index n mxL fr lc : Nat} {y : MethodName} {bytes : ByteArray} {ret : Option FieldType} (hL : xML own index y bytes mxL ret n) (hsta : Cond.static y ∈ xTB) {As st : List Value} {F : Option (xSt × Int32)} {κ : xSt → Int32 → Option τ} (h : xob F κ = some t) (hMet : ∀ S' v, F = some (S', v) → Met l y (Cond.code y bytes mxL ret :: xTB) ({ frames := fr, cells := 0, slots := 0, locals := lc } : Room) (va_Pc As (xPre D cy tb a z S H.size)) (xQi D cy tb a S' v H.size) 0 0 (xA tb a H.size)) (hR : fr + 1 ≤ R.frames ∧ 8 + (mxL + 11) + lc ≤ R.locals) (hn : As.length = n) (hls : ls.size = nL) (hst : st = As.reverse ++ rest) (hrm : (rest.map fun v => v.category).sum ≤ 8) (hd : decode cc pc = .ok (.invokestatic index, 3)) (kk : ∀ S' v H locs, κ S' v = some t → xG D cy tb a S' s H locs → W p l e R s m args below meth c H locs 0 0 Q (F0 m (pc + 3) ls (.int v :: rest))) : W p l e R s m args below meth c H locs 0 0 Q (F0 m pc ls st) := by
  obtain ⟨S', v, hF, hk⟩ := xob_at h
  obtain ⟨l1, l2, l3, l4⟩ := hL
  have hts := hM.2.2.2.2.1
  have hA : ∀ q, q < H.size → xA tb a H.size q → xA tb a s.heap.size q := fun q hq hq2 => hq2.elim Or.inl (fun h => absurd hq (Nat.not_lt.mpr h))
  have hf : ∀ q, xA tb a H.size q → xA tb a s.heap.size q := fun q hq => hq.elim Or.inl (fun h => Or.inr (Nat.le_trans hG.2.1 h))
  have hpre : ∀ U : State, U.heap = H → s.WarmedH U.vm → xPre D cy tb a z S H.size U := fun U hU hW => ⟨by rw [hU], by rw [hU]; exact hG.1, va_K.moved hW.alike hM.2.2.2.2.2.1, hM.2.2.2.2.2.2.2.to (H1 := U.heap) hW (fun q h1 h2 => by rw [hU]; exact hG.2.2.1 q h1 h2) hf⟩
  have hcb : CallB R s args own index y bytes mxL ret (Cond.code y bytes mxL ret :: xTB) ({ frames := fr, cells := 0, slots := 0, locals := lc } : Room) 0 0 n := callB_of n hts (xgood l1) rfl rfl rfl (hts _ l2) (hts _ l3) l4 hR
  exact va_calli (va_runS (As := As) (rest := rest) ⟨hM.1, hM.2.1, hM.2.2.1, hM.2.2.2.1, hts⟩ (hMet S' v hF) ⟨hcb, hts _ hsta⟩ ⟨xPre_blind, fun U hU hW => ⟨rfl, hpre U hU hW⟩⟩ rfl hn hls hst (lv_room hrm) hd ⟨Nat.zero_le _, Nat.zero_le _⟩) hG.2 hA hf (fun r u t1 H1 locs1 ht _ hw2 hB _ _ hS => by subst hw2; subst ht; exact kk _ _ _ _ hk ⟨hB, hS⟩)
theorem x_cVl (hM : xM p c cc m s args own nL D cy tb a z) (hG : xG D cy tb a S s H locs) {index n mxL fr lc k ci n0 N : Nat} {fl : List Nat} {C : String} {T : u_T} {y : MethodName} {bytes : ByteArray} {ret : Option FieldType} (hL : xML own index y bytes mxL ret n) (hin : Cond.instanceMethod y ∈ xTB) (hsel : Cond.selects C y y ∈ xTB) (he : tb[k]? = some (ci, n0, fl)) (hci : ci < 100) (hC : vwCl[ci]? = some (C, T, N)) {As st : List Value} {F : Option (xSt × Int64)} {κ : xSt → Int64 → Option τ} (h : xob F κ = some t) (hMet : ∀ S' v, F = some (S', v) → Met l y (Cond.code y bytes mxL ret :: xTB) ({ frames := fr, cells := 0, slots := 0, locals := lc } : Room) (va_Pc (.ref (a k) :: As) (xPre D cy tb a z S H.size)) (xQl D cy tb a S' v H.size) 0 0 (xA tb a H.size)) (hR : fr + 1 ≤ R.frames ∧ 8 + (mxL + 11) + lc ≤ R.locals) (hn : As.length = n) (hls : ls.size = nL) (hst : st = As.reverse ++ .ref (a k) :: rest) (hrm : (rest.map fun v => v.category).sum ≤ 8) (hd : decode cc pc = .ok (.invokevirtual index, 3)) (kk : ∀ S' v H locs, κ S' v = some t → xG D cy tb a S' s H locs → W p l e R s m args below meth c H locs 0 0 Q (F0 m (pc + 3) ls (.long v :: rest))) : W p l e R s m args below meth c H locs 0 0 Q (F0 m pc ls st) := by
  obtain ⟨S', v, hF, hk⟩ := xob_at h
  obtain ⟨l1, l2, l3, l4⟩ := hL
  have hts := hM.2.2.2.2.1
  have hA : ∀ q, q < H.size → xA tb a H.size q → xA tb a s.heap.size q := fun q hq hq2 => hq2.elim Or.inl (fun h => absurd hq (Nat.not_lt.mpr h))
  have hf : ∀ q, xA tb a H.size q → xA tb a s.heap.size q := fun q hq => hq.elim Or.inl (fun h => Or.inr (Nat.le_trans hG.2.1 h))
  have hpre : ∀ U : State, U.heap = H → s.WarmedH U.vm → xPre D cy tb a z S H.size U := fun U hU hW => ⟨by rw [hU], by rw [hU]; exact hG.1, va_K.moved hW.alike hM.2.2.2.2.2.1, hM.2.2.2.2.2.2.2.to (H1 := U.heap) hW (fun q h1 h2 => by rw [hU]; exact hG.2.2.1 q h1 h2) hf⟩
  have hw : (xW cy tb a S)[k]? = some (a k, .inr (ci, xF a S k fl)) := by rw [xW_get he]; simp only [xE, if_pos hci]
  have hcb : CallB R s args own index y bytes mxL ret (Cond.code y bytes mxL ret :: xTB) ({ frames := fr, cells := 0, slots := 0, locals := lc } : Room) 0 0 n := callB_of n hts (xgood l1) rfl rfl rfl (hts _ l2) (hts _ l3) l4 hR
  exact va_calll (va_runV (As := As) (rest := rest) ⟨hM.1, hM.2.1, hM.2.2.1, hM.2.2.2.1, hts⟩ (hMet S' v hF) ⟨hcb, hts _ hin, hts _ hsel⟩ ⟨xPre_blind, va_recv hM.2.2.2.2.2.1 hG.1 hC hw, fun U hU hW => ⟨rfl, hpre U hU hW⟩⟩ rfl hn hls hst (lv_room hrm) hd ⟨Nat.zero_le _, Nat.zero_le _⟩) hG.2 hA hf (fun r u t1 H1 locs1 ht _ hw2 hB _ _ hS => by subst hw2; subst ht; exact kk _ _ _ _ hk ⟨hB, hS⟩)
theorem x_cVv (hM : xM p c cc m s args own nL D cy tb a z) (hG : xG D cy tb a S s H locs) {index n mxL fr lc k ci n0 N : Nat} {fl : List Nat} {C : String} {T : u_T} {y : MethodName} {bytes : ByteArray} {ret : Option FieldType} (hL : xML own index y bytes mxL ret n) (hin : Cond.instanceMethod y ∈ xTB) (hsel : Cond.selects C y y ∈ xTB) (he : tb[k]? = some (ci, n0, fl)) (hci : ci < 100) (hC : vwCl[ci]? = some (C, T, N)) {As st : List Value} {F : Option (xSt × Unit)} {κ : xSt → Unit → Option τ} (h : xob F κ = some t) (hMet : ∀ S' v, F = some (S', v) → Met l y (Cond.code y bytes mxL ret :: xTB) ({ frames := fr, cells := 0, slots := 0, locals := lc } : Room) (va_Pc (.ref (a k) :: As) (xPre D cy tb a z S H.size)) (xQv D cy tb a S' v H.size) 0 0 (xA tb a H.size)) (hR : fr + 1 ≤ R.frames ∧ 8 + (mxL + 11) + lc ≤ R.locals) (hn : As.length = n) (hls : ls.size = nL) (hst : st = As.reverse ++ .ref (a k) :: rest) (hrm : (rest.map fun v => v.category).sum ≤ 8) (hd : decode cc pc = .ok (.invokevirtual index, 3)) (kk : ∀ S' v H locs, κ S' v = some t → xG D cy tb a S' s H locs → W p l e R s m args below meth c H locs 0 0 Q (F0 m (pc + 3) ls (rest))) : W p l e R s m args below meth c H locs 0 0 Q (F0 m pc ls st) := by
  obtain ⟨S', v, hF, hk⟩ := xob_at h
  obtain ⟨l1, l2, l3, l4⟩ := hL
  have hts := hM.2.2.2.2.1
  have hA : ∀ q, q < H.size → xA tb a H.size q → xA tb a s.heap.size q := fun q hq hq2 => hq2.elim Or.inl (fun h => absurd hq (Nat.not_lt.mpr h))
  have hf : ∀ q, xA tb a H.size q → xA tb a s.heap.size q := fun q hq => hq.elim Or.inl (fun h => Or.inr (Nat.le_trans hG.2.1 h))
  have hpre : ∀ U : State, U.heap = H → s.WarmedH U.vm → xPre D cy tb a z S H.size U := fun U hU hW => ⟨by rw [hU], by rw [hU]; exact hG.1, va_K.moved hW.alike hM.2.2.2.2.2.1, hM.2.2.2.2.2.2.2.to (H1 := U.heap) hW (fun q h1 h2 => by rw [hU]; exact hG.2.2.1 q h1 h2) hf⟩
  have hw : (xW cy tb a S)[k]? = some (a k, .inr (ci, xF a S k fl)) := by rw [xW_get he]; simp only [xE, if_pos hci]
  have hcb : CallB R s args own index y bytes mxL ret (Cond.code y bytes mxL ret :: xTB) ({ frames := fr, cells := 0, slots := 0, locals := lc } : Room) 0 0 n := callB_of n hts (xgood l1) rfl rfl rfl (hts _ l2) (hts _ l3) l4 hR
  exact va_callv (va_runV (As := As) (rest := rest) ⟨hM.1, hM.2.1, hM.2.2.1, hM.2.2.2.1, hts⟩ (hMet S' v hF) ⟨hcb, hts _ hin, hts _ hsel⟩ ⟨xPre_blind, va_recv hM.2.2.2.2.2.1 hG.1 hC hw, fun U hU hW => ⟨rfl, hpre U hU hW⟩⟩ rfl hn hls hst (lv_room hrm) hd ⟨Nat.zero_le _, Nat.zero_le _⟩) hG.2 hA hf (fun u t1 H1 locs1 ht _ hw2 hB _ _ hS => by subst ht; exact kk _ _ _ _ hk ⟨hB, hS⟩)
theorem x_cSv (hM : xM p c cc m s args own nL D cy tb a z) (hG : xG D cy tb a S s H locs) {index n mxL fr lc : Nat} {y : MethodName} {bytes : ByteArray} {ret : Option FieldType} (hL : xML own index y bytes mxL ret n) (hsta : Cond.static y ∈ xTB) {As st : List Value} {F : Option (xSt × Unit)} {κ : xSt → Unit → Option τ} (h : xob F κ = some t) (hMet : ∀ S' v, F = some (S', v) → Met l y (Cond.code y bytes mxL ret :: xTB) ({ frames := fr, cells := 0, slots := 0, locals := lc } : Room) (va_Pc As (xPre D cy tb a z S H.size)) (xQv D cy tb a S' v H.size) 0 0 (xA tb a H.size)) (hR : fr + 1 ≤ R.frames ∧ 8 + (mxL + 11) + lc ≤ R.locals) (hn : As.length = n) (hls : ls.size = nL) (hst : st = As.reverse ++ rest) (hrm : (rest.map fun v => v.category).sum ≤ 8) (hd : decode cc pc = .ok (.invokestatic index, 3)) (kk : ∀ S' v H locs, κ S' v = some t → xG D cy tb a S' s H locs → W p l e R s m args below meth c H locs 0 0 Q (F0 m (pc + 3) ls (rest))) : W p l e R s m args below meth c H locs 0 0 Q (F0 m pc ls st) := by
  obtain ⟨S', v, hF, hk⟩ := xob_at h
  obtain ⟨l1, l2, l3, l4⟩ := hL
  have hts := hM.2.2.2.2.1
  have hA : ∀ q, q < H.size → xA tb a H.size q → xA tb a s.heap.size q := fun q hq hq2 => hq2.elim Or.inl (fun h => absurd hq (Nat.not_lt.mpr h))
  have hf : ∀ q, xA tb a H.size q → xA tb a s.heap.size q := fun q hq => hq.elim Or.inl (fun h => Or.inr (Nat.le_trans hG.2.1 h))
  have hpre : ∀ U : State, U.heap = H → s.WarmedH U.vm → xPre D cy tb a z S H.size U := fun U hU hW => ⟨by rw [hU], by rw [hU]; exact hG.1, va_K.moved hW.alike hM.2.2.2.2.2.1, hM.2.2.2.2.2.2.2.to (H1 := U.heap) hW (fun q h1 h2 => by rw [hU]; exact hG.2.2.1 q h1 h2) hf⟩
  have hcb : CallB R s args own index y bytes mxL ret (Cond.code y bytes mxL ret :: xTB) ({ frames := fr, cells := 0, slots := 0, locals := lc } : Room) 0 0 n := callB_of n hts (xgood l1) rfl rfl rfl (hts _ l2) (hts _ l3) l4 hR
  exact va_callv (va_runS (As := As) (rest := rest) ⟨hM.1, hM.2.1, hM.2.2.1, hM.2.2.2.1, hts⟩ (hMet S' v hF) ⟨hcb, hts _ hsta⟩ ⟨xPre_blind, fun U hU hW => ⟨rfl, hpre U hU hW⟩⟩ rfl hn hls hst (lv_room hrm) hd ⟨Nat.zero_le _, Nat.zero_le _⟩) hG.2 hA hf (fun u t1 H1 locs1 ht _ hw2 hB _ _ hS => by subst ht; exact kk _ _ _ _ hk ⟨hB, hS⟩)
theorem x_cVr (hM : xM p c cc m s args own nL D cy tb a z) (hG : xG D cy tb a S s H locs) {index n mxL fr lc k ci n0 N : Nat} {fl : List Nat} {C : String} {T : u_T} {y : MethodName} {bytes : ByteArray} {ret : Option FieldType} (hL : xML own index y bytes mxL ret n) (hin : Cond.instanceMethod y ∈ xTB) (hsel : Cond.selects C y y ∈ xTB) (he : tb[k]? = some (ci, n0, fl)) (hci : ci < 100) (hC : vwCl[ci]? = some (C, T, N)) {As st : List Value} {F : Option (xSt × Nat)} {κ : xSt → Nat → Option τ} (h : xob F κ = some t) (hMet : ∀ S' v, F = some (S', v) → Met l y (Cond.code y bytes mxL ret :: xTB) ({ frames := fr, cells := 0, slots := 0, locals := lc } : Room) (va_Pc (.ref (a k) :: As) (xPre D cy tb a z S H.size)) (xQr D cy tb a S' v H.size) 0 0 (xA tb a H.size)) (hR : fr + 1 ≤ R.frames ∧ 8 + (mxL + 11) + lc ≤ R.locals) (hn : As.length = n) (hls : ls.size = nL) (hst : st = As.reverse ++ .ref (a k) :: rest) (hrm : (rest.map fun v => v.category).sum ≤ 8) (hd : decode cc pc = .ok (.invokevirtual index, 3)) (kk : ∀ S' v H locs, κ S' v = some t → xG D cy tb a S' s H locs → W p l e R s m args below meth c H locs 0 0 Q (F0 m (pc + 3) ls (.ref (a v) :: rest))) : W p l e R s m args below meth c H locs 0 0 Q (F0 m pc ls st) := by
  obtain ⟨S', v, hF, hk⟩ := xob_at h
  obtain ⟨l1, l2, l3, l4⟩ := hL
  have hts := hM.2.2.2.2.1
  have hA : ∀ q, q < H.size → xA tb a H.size q → xA tb a s.heap.size q := fun q hq hq2 => hq2.elim Or.inl (fun h => absurd hq (Nat.not_lt.mpr h))
  have hf : ∀ q, xA tb a H.size q → xA tb a s.heap.size q := fun q hq => hq.elim Or.inl (fun h => Or.inr (Nat.le_trans hG.2.1 h))
  have hpre : ∀ U : State, U.heap = H → s.WarmedH U.vm → xPre D cy tb a z S H.size U := fun U hU hW => ⟨by rw [hU], by rw [hU]; exact hG.1, va_K.moved hW.alike hM.2.2.2.2.2.1, hM.2.2.2.2.2.2.2.to (H1 := U.heap) hW (fun q h1 h2 => by rw [hU]; exact hG.2.2.1 q h1 h2) hf⟩
  have hw : (xW cy tb a S)[k]? = some (a k, .inr (ci, xF a S k fl)) := by rw [xW_get he]; simp only [xE, if_pos hci]
  have hcb : CallB R s args own index y bytes mxL ret (Cond.code y bytes mxL ret :: xTB) ({ frames := fr, cells := 0, slots := 0, locals := lc } : Room) 0 0 n := callB_of n hts (xgood l1) rfl rfl rfl (hts _ l2) (hts _ l3) l4 hR
  exact va_callr (va_runV (As := As) (rest := rest) ⟨hM.1, hM.2.1, hM.2.2.1, hM.2.2.2.1, hts⟩ (hMet S' v hF) ⟨hcb, hts _ hin, hts _ hsel⟩ ⟨xPre_blind, va_recv hM.2.2.2.2.2.1 hG.1 hC hw, fun U hU hW => ⟨rfl, hpre U hU hW⟩⟩ rfl hn hls hst (lv_room hrm) hd ⟨Nat.zero_le _, Nat.zero_le _⟩) hG.2 hA hf (fun u ra t1 H1 locs1 ht _ hw2 hB _ _ hS => by obtain ⟨e1, hB⟩ := hB; subst e1; subst ht; exact kk _ _ _ _ hk ⟨hB, hS⟩)
theorem x_cSNi (hM : xM p c cc m s args own nL D cy tb a z) (hG : xG D cy tb a S s H locs) {index n mxL fr lc : Nat} {host : String} {y : MethodName} {bytes : ByteArray} {ret : Option FieldType} (hL : Cond.code y bytes mxL ret ∈ xTB ∧ Cond.initialized y.cls ∈ xTB ∧ va_Nw (.methodLinkNest own index y host) s ∧ (y.cls ≠ "java/lang/invoke/MethodHandle" ∧ y.cls ≠ "java/lang/invoke/VarHandle" ∧ (parseMethodDescriptor y.desc).map (fun d => d.parameters.length) = some n)) (hsta : Cond.static y ∈ xTB) {As st : List Value} {F : Option (xSt × Int32)} {κ : xSt → Int32 → Option τ} (h : xob F κ = some t) (hMet : ∀ S' v, F = some (S', v) → Met l y (Cond.code y bytes mxL ret :: xTB) ({ frames := fr, cells := 0, slots := 0, locals := lc } : Room) (va_Pc As (xPre D cy tb a z S H.size)) (xQi D cy tb a S' v H.size) 0 0 (xA tb a H.size)) (hR : fr + 1 ≤ R.frames ∧ 8 + (mxL + 11) + lc ≤ R.locals) (hn : As.length = n) (hls : ls.size = nL) (hst : st = As.reverse ++ rest) (hrm : (rest.map fun v => v.category).sum ≤ 8) (hd : decode cc pc = .ok (.invokestatic index, 3)) (kk : ∀ S' v H locs, κ S' v = some t → xG D cy tb a S' s H locs → W p l e R s m args below meth c H locs 0 0 Q (F0 m (pc + 3) ls (.int v :: rest))) : W p l e R s m args below meth c H locs 0 0 Q (F0 m pc ls st) := by
  obtain ⟨S', v, hF, hk⟩ := xob_at h
  obtain ⟨l1, l2, l3, l4⟩ := hL
  have hts := hM.2.2.2.2.1
  have hA : ∀ q, q < H.size → xA tb a H.size q → xA tb a s.heap.size q := fun q hq hq2 => hq2.elim Or.inl (fun h => absurd hq (Nat.not_lt.mpr h))
  have hf : ∀ q, xA tb a H.size q → xA tb a s.heap.size q := fun q hq => hq.elim Or.inl (fun h => Or.inr (Nat.le_trans hG.2.1 h))
  have hpre : ∀ U : State, U.heap = H → s.WarmedH U.vm → xPre D cy tb a z S H.size U := fun U hU hW => ⟨by rw [hU], by rw [hU]; exact hG.1, va_K.moved hW.alike hM.2.2.2.2.2.1, hM.2.2.2.2.2.2.2.to (H1 := U.heap) hW (fun q h1 h2 => by rw [hU]; exact hG.2.2.1 q h1 h2) hf⟩
  have hcb : va_CN R s args own index y host bytes mxL ret (Cond.code y bytes mxL ret :: xTB) ({ frames := fr, cells := 0, slots := 0, locals := lc } : Room) 0 0 n := va_cnB n hts (xgood l1) rfl rfl rfl l3 (hts _ l2) l4 hR
  exact va_calli (va_runSN (As := As) (rest := rest) ⟨hM.1, hM.2.1, hM.2.2.1, hM.2.2.2.1, hts⟩ (hMet S' v hF) ⟨hcb, hts _ hsta, trivial⟩ ⟨xPre_blind, fun U hU hW => ⟨rfl, hpre U hU hW⟩⟩ rfl hn hls hst (lv_room hrm) hd ⟨Nat.zero_le _, Nat.zero_le _⟩) hG.2 hA hf (fun r u t1 H1 locs1 ht _ hw2 hB _ _ hS => by subst hw2; subst ht; exact kk _ _ _ _ hk ⟨hB, hS⟩)
theorem x_ri (hM : xM p c cc m s args own nL D cy tb a z) (hG : xG D cy tb a S s H locs) {ty : FieldType} (hr : meth.sig.returnType = some ty) (hlk : meth.locks = false) {S' : xSt} {v v' : Int32} (hty : narrow ty (.int v) = .int v) (h : (S, v) = (S', v')) (hd : decode cc pc = .ok (.ireturn, 1)) : W p l e R s m args below meth c H locs 0 0 (MQ below (xQi D cy tb a S' v' s.heap.size) args s 0 0 (xA tb a s.heap.size)) (F0 m pc ls [.int v]) := by
  cases h
  exact W.zret hM.1 hM.2.1 hr hty (fun t ht hW => ⟨⟨v, (), rfl, rfl, by show va_P D vwCl (xW cy tb a S) t.heap; rw [ht]; exact hG.1⟩, hG.2.F ht⟩) hG.2.2.2 hd hlk
theorem x_nz {v : Int32} (h : v = 0 ∨ v = 1) : narrow .boolean (.int v) = .int v := by
  rcases h with e | e <;> subst e <;> rfl
theorem x_rl (hM : xM p c cc m s args own nL D cy tb a z) (hG : xG D cy tb a S s H locs) (hr : meth.sig.returnType = some .long) (hlk : meth.locks = false) {S' : xSt} {v v' : Int64} (h : (S, v) = (S', v')) (hd : decode cc pc = .ok (.lreturn, 1)) : W p l e R s m args below meth c H locs 0 0 (MQ below (xQl D cy tb a S' v' s.heap.size) args s 0 0 (xA tb a s.heap.size)) (F0 m pc ls [.long v]) := by
  cases h
  exact W.lret hM.1 hM.2.1 hr (fun t ht hW => ⟨⟨v, (), rfl, rfl, by show va_P D vwCl (xW cy tb a S) t.heap; rw [ht]; exact hG.1⟩, hG.2.F ht⟩) hG.2.2.2 hd hlk
theorem x_rv (hM : xM p c cc m s args own nL D cy tb a z) (hG : xG D cy tb a S s H locs) (hr : meth.sig.returnType = none) (hlk : meth.locks = false) {S' : xSt} {v' : Unit} (h : (S, ()) = (S', v')) (hd : decode cc pc = .ok (.return_, 1)) : W p l e R s m args below meth c H locs 0 0 (MQ below (xQv D cy tb a S' v' s.heap.size) args s 0 0 (xA tb a s.heap.size)) (F0 m pc ls []) := by
  cases h
  exact W.vret hM.1 hM.2.1 hr (fun t ht hW => ⟨⟨(), rfl, trivial, by show va_P D vwCl (xW cy tb a S) t.heap; rw [ht]; exact hG.1⟩, hG.2.F ht⟩) hG.2.2.2 hd hlk
theorem x_rr (hM : xM p c cc m s args own nL D cy tb a z) (hG : xG D cy tb a S s H locs) {nm : String} (hr : meth.sig.returnType = some (.object nm)) (hlk : meth.locks = false) {S' : xSt} {v v' : Nat} (h : (S, v) = (S', v')) (hd : decode cc pc = .ok (.areturn, 1)) : W p l e R s m args below meth c H locs 0 0 (MQ below (xQr D cy tb a S' v' s.heap.size) args s 0 0 (xA tb a s.heap.size)) (F0 m pc ls [.ref (a v)]) := by
  cases h
  exact W.aret hM.1 hM.2.1 hr (Or.inl ⟨_, rfl⟩) (Or.inr ⟨_, rfl⟩) (fun t ht hW => ⟨⟨(), a v, rfl, trivial, rfl, by show va_P D vwCl (xW cy tb a S) t.heap; rw [ht]; exact hG.1⟩, hG.2.F ht⟩) hG.2.2.2 hd hlk
theorem x_cpi (hM : xM p c cc m s args own nL D cy tb a z) (hG : xG D cy tb a S s H locs) {index k0 k1 n0 n1 : Nat} {f0 f1 : List Nat} {sp dp n : Int32} (hls : ls.size = nL) (hw : Cond.methodLink own index arraycopyName ∈ xTB ∧ Cond.native arraycopyName ∈ xTB ∧ Cond.static arraycopyName ∈ xTB ∧ Cond.initialized "java/lang/System" ∈ xTB) (he0 : tb[k0]? = some (100, n0, f0)) (he1 : tb[k1]? = some (100, n1, f1)) {κ : xSt → Option τ} (h : xgd (¬ sp < 0 ∧ ¬ dp < 0 ∧ ¬ n < 0 ∧ sp.toNatClampNeg + n.toNatClampNeg ≤ n0 ∧ dp.toNatClampNeg + n.toNatClampNeg ≤ n1) (xbd (xcpi S k0 sp.toNatClampNeg k1 dp.toNatClampNeg n.toNatClampNeg) κ) = some t) (hfr : 1 ≤ R.frames) (hlo : (rest.map fun v => v.category).sum + (nativeFrameWords "java/lang/System" "arraycopy" 5 + 11) ≤ R.locals) (hd : decode cc pc = .ok (.invokestatic index, 3)) (kk : ∀ S' H locs, κ S' = some t → xG D cy tb a S' s H locs → W p l e R s m args below meth c H locs 0 0 Q (F0 m (pc + 3) ls rest)) : W p l e R s m args below meth c H locs 0 0 Q (F0 m pc ls (.int n :: .int dp :: .ref (a k1) :: .int sp :: .ref (a k0) :: rest)) := by
  obtain ⟨⟨g1, g2, g3, g4, g5⟩, h⟩ := xgd_at h
  have hts := hM.2.2.2.2.1
  have w0 : (xW cy tb a S)[k0]? = some (a k0, .inl (cy 0, n0, .inl (S.1 k0))) := by rw [xW_get he0]; rfl
  have w1 : (xW cy tb a S)[k1]? = some (a k1, .inl (cy 0, n1, .inl (S.1 k1))) := by rw [xW_get he1]; rfl
  refine va_copyi hM.1 hM.2.1 (hM.2.2.1.trans hls.symm) hM.2.2.2.1 (hts _ hw.1) (hts _ hw.2.1) (hts _ hw.2.2.1) (hts _ hw.2.2.2) hM.2.2.2.2.2.1 hG.1 (xD_of hM.2.2.2.2.2.2.1) hG.2 k0 k1 0 0 w0 w1 rfl rfl rfl g1 g2 g3 g4 g5 (fun _ _ => rfl) hfr hlo hd (fun H1 locs1 hP1 _ hS1 => ?_)
  have hq := xW_set (cy := cy) (a := a) (S := S) (S' := xcpi S k0 sp.toNatClampNeg k1 dp.toNatClampNeg n.toNatClampNeg) he1 (fun i hi => xcpi_ne i hi)
  have hx : xE cy a (xcpi S k0 sp.toNatClampNeg k1 dp.toNatClampNeg n.toNatClampNeg) k1 (100, n1, f1) = .inl (cy 0, n1, .inl (va_cpy (S.1 k0) (S.1 k1) sp.toNatClampNeg dp.toNatClampNeg n.toNatClampNeg)) := by rw [← xcpi_upd]; rfl
  rw [hx] at hq
  exact kk _ _ _ h ⟨hq ▸ hP1, hS1⟩
theorem x_cpl (hM : xM p c cc m s args own nL D cy tb a z) (hG : xG D cy tb a S s H locs) {index k0 k1 n0 n1 : Nat} {f0 f1 : List Nat} {sp dp n : Int32} (hls : ls.size = nL) (hw : Cond.methodLink own index arraycopyName ∈ xTB ∧ Cond.native arraycopyName ∈ xTB ∧ Cond.static arraycopyName ∈ xTB ∧ Cond.initialized "java/lang/System" ∈ xTB) (he0 : tb[k0]? = some (103, n0, f0)) (he1 : tb[k1]? = some (103, n1, f1)) {κ : xSt → Option τ} (h : xgd (¬ sp < 0 ∧ ¬ dp < 0 ∧ ¬ n < 0 ∧ sp.toNatClampNeg + n.toNatClampNeg ≤ n0 ∧ dp.toNatClampNeg + n.toNatClampNeg ≤ n1) (xbd (xcpl S k0 sp.toNatClampNeg k1 dp.toNatClampNeg n.toNatClampNeg) κ) = some t) (hfr : 1 ≤ R.frames) (hlo : (rest.map fun v => v.category).sum + (nativeFrameWords "java/lang/System" "arraycopy" 5 + 11) ≤ R.locals) (hd : decode cc pc = .ok (.invokestatic index, 3)) (kk : ∀ S' H locs, κ S' = some t → xG D cy tb a S' s H locs → W p l e R s m args below meth c H locs 0 0 Q (F0 m (pc + 3) ls rest)) : W p l e R s m args below meth c H locs 0 0 Q (F0 m pc ls (.int n :: .int dp :: .ref (a k1) :: .int sp :: .ref (a k0) :: rest)) := by
  obtain ⟨⟨g1, g2, g3, g4, g5⟩, h⟩ := xgd_at h
  have hts := hM.2.2.2.2.1
  have w0 : (xW cy tb a S)[k0]? = some (a k0, .inl (cy 3, n0, .inr (.inl (S.2 k0)))) := by rw [xW_get he0]; rfl
  have w1 : (xW cy tb a S)[k1]? = some (a k1, .inl (cy 3, n1, .inr (.inl (S.2 k1)))) := by rw [xW_get he1]; rfl
  refine va_copyl hM.1 hM.2.1 (hM.2.2.1.trans hls.symm) hM.2.2.2.1 (hts _ hw.1) (hts _ hw.2.1) (hts _ hw.2.2.1) (hts _ hw.2.2.2) hM.2.2.2.2.2.1 hG.1 (xD_of hM.2.2.2.2.2.2.1) hG.2 k0 k1 3 3 w0 w1 rfl rfl rfl g1 g2 g3 g4 g5 (fun _ _ => rfl) hfr hlo hd (fun H1 locs1 hP1 _ hS1 => ?_)
  have hq := xW_set (cy := cy) (a := a) (S := S) (S' := xcpl S k0 sp.toNatClampNeg k1 dp.toNatClampNeg n.toNatClampNeg) he1 (fun i hi => xcpl_ne i hi)
  have hx : xE cy a (xcpl S k0 sp.toNatClampNeg k1 dp.toNatClampNeg n.toNatClampNeg) k1 (103, n1, f1) = .inl (cy 3, n1, .inr (.inl (va_cpy (S.2 k0) (S.2 k1) sp.toNatClampNeg dp.toNatClampNeg n.toNatClampNeg))) := by rw [← xcpl_upd]; rfl
  rw [hx] at hq
  exact kk _ _ _ h ⟨hq ▸ hP1, hS1⟩
theorem x_mmax (hM : xM p c cc m s args own nL D cy tb a z) {index : Nat} {x y : Int32} (hls : ls.size = nL) (hw : Cond.methodLink own index Lib.Math.max.name ∈ xTB ∧ Cond.static Lib.Math.max.name ∈ xTB ∧ Cond.initialized "java/lang/Math" ∈ xTB ∧ Cond.code Lib.Math.max.name Lib.Math.max.code 2 (some .int) ∈ xTB) {κ : Int32 → Option τ} (h : xbd (if x < y then y else x) κ = some t) (hfr : 1 ≤ R.frames) (hlo : (rest.map fun v => v.category).sum + 13 ≤ R.locals) (hd : decode cc pc = .ok (.invokestatic index, 3)) (kk : ∀ v, κ v = some t → W p l e R s m args below meth c H locs 0 0 Q (F0 m (pc + 3) ls (.int v :: rest))) : W p l e R s m args below meth c H locs 0 0 Q (F0 m pc ls (.int y :: .int x :: rest)) := by
  have hts := hM.2.2.2.2.1
  exact va_mmax hM.1 hM.2.1 (hM.2.2.1.trans hls.symm) hM.2.2.2.1 (hts _ hw.1) (hts _ hw.2.1) (hts _ hw.2.2.1) (hts _ hw.2.2.2) hfr hlo (Nat.zero_le _) (Nat.zero_le _) hd (kk _ h)
theorem x_mmin (hM : xM p c cc m s args own nL D cy tb a z) {index : Nat} {x y : Int32} (hls : ls.size = nL) (hw : Cond.methodLink own index Lib.Math.min.name ∈ xTB ∧ Cond.static Lib.Math.min.name ∈ xTB ∧ Cond.initialized "java/lang/Math" ∈ xTB ∧ Cond.code Lib.Math.min.name Lib.Math.min.code 2 (some .int) ∈ xTB) {κ : Int32 → Option τ} (h : xbd (if y < x then y else x) κ = some t) (hfr : 1 ≤ R.frames) (hlo : (rest.map fun v => v.category).sum + 13 ≤ R.locals) (hd : decode cc pc = .ok (.invokestatic index, 3)) (kk : ∀ v, κ v = some t → W p l e R s m args below meth c H locs 0 0 Q (F0 m (pc + 3) ls (.int v :: rest))) : W p l e R s m args below meth c H locs 0 0 Q (F0 m pc ls (.int y :: .int x :: rest)) := by
  have hts := hM.2.2.2.2.1
  exact va_mmin hM.1 hM.2.1 (hM.2.2.1.trans hls.symm) hM.2.2.2.1 (hts _ hw.1) (hts _ hw.2.1) (hts _ hw.2.2.1) (hts _ hw.2.2.2) hfr hlo (Nat.zero_le _) (Nat.zero_le _) hd (kk _ h)
end XI
