/-! part c4: the list as a world of its own, its iterator (made by wip/p45/gen_c4.py) -/
def isL (cy : Nat → ClassId) (zE : Nat) (ad : Nat → Nat) (y : Nat) (vs : List Nat) (w : va_W) : Prop := (∀ v ∈ vs, v < 30) ∧ vs.length ≤ 30 ∧ ((vs = [] ∧ w = [(y, .inr (15, [.int (ki 0), .ref zE, .int (ki 0)]))]) ∨ ∃ (e cap : Nat) (f : Nat → Option Nat), vs ≠ [] ∧ vs.length ≤ cap ∧ 10 ≤ cap ∧ cap ≤ 45 ∧ (∀ j, f j = (vs[j]?).map (fun v => ad (v + 128))) ∧ w = [(y, .inr (15, [.int (ki (vs.length : Int)), .ref e, .int (ki (vs.length : Int))])), (e, .inl (cy 6, cap, .inr (.inr (.inr (.inr f)))))])
def isI (y i j n : Nat) (w : va_W) : Prop := ∃ la : Int, w = [(i, .inr (14, [.int (ki (j : Int)), .int (ki la), .int (ki (n : Int)), .ref y]))]
theorem isL_0 {cy : Nat → ClassId} {zE : Nat} {ad : Nat → Nat} {y : Nat} : isL cy zE ad y [] [(y, .inr (15, [.int (ki 0), .ref zE, .int (ki 0)]))] := ⟨fun _ h => by simp at h, by simp, Or.inl ⟨rfl, rfl⟩⟩
theorem isL_yc {cy : Nat → ClassId} {zE : Nat} {ad : Nat → Nat} {y : Nat} {vs : List Nat} {w : va_W} (h : isL cy zE ad y vs w) : ∃ (e : Nat) (t : va_W), w = [(y, .inr (15, [.int (ki (vs.length : Int)), .ref e, .int (ki (vs.length : Int))]))] ++ t := by
  obtain ⟨-, -, ⟨rfl, rfl⟩ | ⟨e, cap, f, -, -, -, -, -, rfl⟩⟩ := h
  · exact ⟨zE, [], rfl⟩
  · exact ⟨e, [(e, .inl (cy 6, cap, .inr (.inr (.inr (.inr f)))))], rfl⟩
theorem up_app {ad : Nat → Nat} {vs : List Nat} {f : Nat → Option Nat} (h : ∀ j, f j = (vs[j]?).map (fun v => ad (v + 128))) (v : Nat) : ∀ j, va_up f vs.length (some (ad (v + 128))) j = ((vs ++ [v])[j]?).map (fun v => ad (v + 128)) := by
  intro j
  by_cases e : j = vs.length
  · subst e
    rw [va_up_self, List.getElem?_append_right (Nat.le_refl _), Nat.sub_self]
    rfl
  · rw [va_up_ne _ _ e, h]
    by_cases e2 : j < vs.length
    · rw [List.getElem?_append_left e2]
    · rw [List.getElem?_append_right (by omega), List.getElem?_eq_none (by omega), List.getElem?_eq_none (by simp; omega)]
theorem hf_of {ad : Nat → Nat} {vs : List Nat} {f : Nat → Option Nat} (hv : ∀ v ∈ vs, v < 30) (h : ∀ j, f j = (vs[j]?).map (fun v => ad (v + 128))) : ∀ (j y : Nat), f j = some y → ∃ k : Nat, k < 256 ∧ y = ad k := by
  intro j y e
  rw [h j] at e
  cases g : vs[j]? with
  | none => rw [g] at e; cases e
  | some v =>
    rw [g] at e
    cases e
    exact ⟨v + 128, by have := hv v (List.mem_of_getElem? g); omega, rfl⟩
theorem isL_of {cy : Nat → ClassId} {zE : Nat} {ad : Nat → Nat} {y : Nat} {vs : List Nat} {v e cap : Nat} {f : Nat → Option Nat} (hv : ∀ v ∈ vs, v < 30) (v1 : v < 30) (hn : vs.length < 30) (h : ∀ j, f j = (vs[j]?).map (fun v => ad (v + 128))) (h1 : vs.length < cap) (h2 : 10 ≤ cap) (h3 : cap ≤ 45) {m n : Int} (em : m = (vs.length : Int) + 1) (en : n = (vs.length : Int) + 1) : isL cy zE ad y (vs ++ [v]) [(y, .inr (15, [.int (ki m), .ref e, .int (ki n)])), (e, .inl (cy 6, cap, .inr (.inr (.inr (.inr (va_up f vs.length (some (ad (v + 128)))))))))] := by
  have el : ((vs ++ [v]).length : Int) = (vs.length : Int) + 1 := by simp
  refine ⟨fun q hq => ?_, by simp; omega, Or.inr ⟨e, cap, va_up f vs.length (some (ad (v + 128))), by simp, by simp; omega, h2, h3, up_app h v, by rw [em, en, el]⟩⟩
  rcases List.mem_append.mp hq with hq | hq
  · exact hv q hq
  · rw [List.mem_singleton.mp hq]; exact v1
theorem xat0 {w t : va_W} {q : Nat × va_E} : (w ++ q :: t)[w.length]? = some q := by simp
theorem xat1 {w t : va_W} {q0 q : Nat × va_E} : (w ++ q0 :: q :: t)[w.length + 1]? = some q := by simp
theorem xat2 {w t : va_W} {q1 q0 q : Nat × va_E} : (w ++ q1 :: q0 :: q :: t)[w.length + 2]? = some q := by simp
theorem pm3 {wr : va_W} {a b c : Nat × va_E} : (wr ++ [a, b, c]).Perm ((wr ++ [b]) ++ [a, c]) := by
  rw [List.append_assoc]
  exact List.Perm.append_left _ (List.Perm.swap b a [c])
theorem pm_ca {l1 a b : va_W} : (l1 ++ a ++ b).Perm (l1 ++ (a ++ b)) := by rw [List.append_assoc]
section C4
variable {p : Program} {l : Launch} {e0 : Env} {R : Room} {s : State} {m : MethodId} {args : Array Value} {below : List Frame} {meth : Method} {c : Code} {H : Heap} {locs : List Loc} {Q : State → Prop}
variable {cc : ByteArray} {pc : Nat} {ls : Array Slot} {rest : List Value} {D : va_G} {A : Nat → Prop} {cells slots : Nat} {cy : Nat → ClassId} {mi zE zc : Nat} {ad : Nat → Nat} {y i : Nat} {vs : List Nat} {w wr wi : va_W}
theorem lk_add (hx : p.tables.exec = Jvm.exec) (hb : c.code = cc) {own : String} {nL index : Nat} (hml : c.maxLocals = nL) (hown : s.vm.findClass own = some m.cls) (hts : ∀ w ∈ xTB, w.before args s = true) (hK : va_K D vwCl (xtyL cy) s) (hN : jN mi s) (hZ : jZ zE zc ad A s s.heap) (hS : va_S A s.heap H locs) (hA : ∀ q, s.heap.size ≤ q → A q) (hls : ls.size = nL) (hrm : (rest.map fun v => v.category).sum ≤ 8) (hL : xML own index yJx4a65c_add_9ea2d cJx4a65c_add_9ea2d 2 (some .boolean) 1) {v : Nat} (hw0 : isL cy zE ad y vs w) (v1 : v < 30) (hn : vs.length < 30) (hP : va_P D vwCl (wr ++ w) H) (hD : va_D A (wr ++ w)) (hR : 7 ≤ R.frames ∧ 291 ≤ R.locals) (hcs : cells + 1 ≤ R.cells ∧ slots + 100 ≤ R.slots) (hd : decode cc pc = .ok (.invokevirtual index, 3))
    (kk : ∀ (w2 : va_W) (H : Heap) (locs : List Loc), isL cy zE ad y (vs ++ [v]) w2 → va_P D vwCl (wr ++ w2) H → va_D A (wr ++ w2) → va_S A s.heap H locs → W p l e0 R s m args below meth c H locs (cells + 1) (slots + 100) Q (F0 m (pc + 3) ls (.int (ki 1) :: rest))) : W p l e0 R s m args below meth c H locs (cells) (slots) Q (F0 m pc ls (.ref (ad (v + 128)) :: .ref y :: rest)) := by
  obtain ⟨hv, -, ⟨rfl, rfl⟩ | ⟨e, cap, f, h1, h2, h3, h4, h5, rfl⟩⟩ := hw0
  · refine kc_Vi hx hb hml hown hts hL (xw_mem 888 (by decide +kernel) rfl) (xw_mem 889 (by decide +kernel) rfl) (va_recv hK hP (rfl : vwCl[15]? = some (RJx4a65c, TJx4a65c, 3)) xat0) hP hD hS hA [.ref (ad (v + 128))] (rest := rest) _ _ (c_add1E (k := v + 128) (by omega) _) jP_bl (fun U hU hW => jP_to hP hD hS hA hK hN hZ hU hW) ⟨by omega, by omega⟩ (by omega) (by omega) rfl hls rfl hrm hd (fun r u t H locs ht hw hB hz hJ hS => ?_)
    subst hw
    obtain ⟨hP1, hD1⟩ := hB
    rw [ht] at hP1
    obtain ⟨hP, hD⟩ := hJ _ hP1 hD1
    exact kk _ H locs (isL_of (vs := []) (v := v) (e := u) (f := fun _ => none) hv v1 hn (fun j => by simp) (by decide) (by decide) (by decide) rfl rfl) hP hD hS
  · by_cases hc : vs.length < cap
    · refine kc_Vi hx hb hml hown hts hL (xw_mem 888 (by decide +kernel) rfl) (xw_mem 889 (by decide +kernel) rfl) (va_recv hK hP (rfl : vwCl[15]? = some (RJx4a65c, TJx4a65c, 3)) xat0) hP hD hS hA [.ref (ad (v + 128))] (rest := rest) _ _ (c_add1R (n := vs.length) (k := v + 128) hc (by omega) (by omega) _) jP_bl (fun U hU hW => jP_to hP hD hS hA hK hN hZ hU hW) ⟨by omega, by omega⟩ (by omega) (by omega) rfl hls rfl hrm hd (fun r u t H locs ht hw hB hz hJ hS => ?_)
      subst hw
      obtain ⟨hP1, hD1⟩ := hB
      rw [ht] at hP1
      obtain ⟨hP, hD⟩ := hJ _ hP1 hD1
      exact kk _ H locs (isL_of (v := v) (e := u) (f := f) hv v1 hn h5 hc h3 h4 rfl (by omega)) hP hD hS
    · have hc : cap = vs.length := by omega
      subst hc
      refine kc_Vi hx hb hml hown hts hL (xw_mem 888 (by decide +kernel) rfl) (xw_mem 889 (by decide +kernel) rfl) (va_recv hK hP (rfl : vwCl[15]? = some (RJx4a65c, TJx4a65c, 3)) xat0) hP hD hS hA [.ref (ad (v + 128))] (rest := rest) _ _ (c_add1G (n := vs.length) (k := v + 128) (by omega) (by omega) (hf_of hv h5) (by omega) _) jP_bl (fun U hU hW => jP_to hP hD hS hA hK hN hZ hU hW) ⟨by omega, by omega⟩ (by omega) (by omega) rfl hls rfl hrm hd (fun r u t H locs ht hw hB hz hJ hS => ?_)
      subst hw
      obtain ⟨hP1, hD1⟩ := hB
      rw [ht] at hP1
      obtain ⟨hP, hD⟩ := hJ _ hP1 hD1
      exact kk _ H locs (isL_of (v := v) (e := u) (f := fun j => if j < vs.length then f j else none) hv v1 hn (fun j => by
        by_cases e : j < vs.length
        · rw [if_pos e, h5]
        · rw [if_neg e, List.getElem?_eq_none (by omega)]; rfl) (by omega) (by omega) (by omega) rfl (by omega)) hP hD hS
theorem pm_y {w0 t : va_W} {a : Nat × va_E} : (w0 ++ (a :: t)).Perm ((w0 ++ t) ++ [a]) := by
  rw [List.append_assoc]
  exact List.Perm.append_left _ ((List.perm_append_comm (l₁ := [a]) (l₂ := t)))
theorem pm_yi {w0 t : va_W} {a i : Nat × va_E} : (w0 ++ ((a :: t) ++ [i])).Perm ((w0 ++ t) ++ [a, i]) := by
  rw [List.append_assoc]
  refine List.Perm.append_left _ ?_
  have h : ([a] ++ (t ++ [i])).Perm ((t ++ [i]) ++ [a]) := List.perm_append_comm
  refine h.trans ?_
  rw [List.append_assoc]
  exact List.Perm.append_left _ (List.Perm.swap a i [])
theorem lk_isEmpty (hx : p.tables.exec = Jvm.exec) (hb : c.code = cc) {own : String} {nL index : Nat} (hml : c.maxLocals = nL) (hown : s.vm.findClass own = some m.cls) (hts : ∀ w ∈ xTB, w.before args s = true) (hK : va_K D vwCl (xtyL cy) s) (hN : jN mi s) (hZ : jZ zE zc ad A s s.heap) (hS : va_S A s.heap H locs) (hA : ∀ q, s.heap.size ≤ q → A q) (hls : ls.size = nL) (hrm : (rest.map fun v => v.category).sum ≤ 8) (hL : xML own index yJx4a65c_isEmpty_aae02 cJx4a65c_isEmpty_aae02 1 (some .boolean) 0) (hw0 : isL cy zE ad y vs w) (hP : va_P D vwCl (wr ++ w) H) (hD : va_D A (wr ++ w)) (hR : 2 ≤ R.frames ∧ 50 ≤ R.locals) (hcs : cells + 0 ≤ R.cells ∧ slots + 0 ≤ R.slots) (hd : decode cc pc = .ok (.invokevirtual index, 3))
    (kk : ∀ (H : Heap) (locs : List Loc), va_P D vwCl (wr ++ w) H → va_D A (wr ++ w) → va_S A s.heap H locs → W p l e0 R s m args below meth c H locs (cells) (slots) Q (F0 m (pc + 3) ls (.int (ki (bi (vs.length = 0))) :: rest))) : W p l e0 R s m args below meth c H locs (cells) (slots) Q (F0 m pc ls (.ref y :: rest)) := by
  obtain ⟨hv, hlen, hw9⟩ := id hw0
  obtain ⟨e, t9, rfl⟩ := isL_yc hw0
  have hPc : va_P D vwCl ((wr ++ t9) ++ [(y, .inr (15, [.int (ki (vs.length : Int)), .ref e, .int (ki (vs.length : Int))]))]) H := xP_perm hP pm_y
  have hDc : va_D A ((wr ++ t9) ++ [(y, .inr (15, [.int (ki (vs.length : Int)), .ref e, .int (ki (vs.length : Int))]))]) := xD_perm hD pm_y
  refine kc_Vi hx hb hml hown hts hL (xw_mem 1069 (by decide +kernel) rfl) (xw_mem 1070 (by decide +kernel) rfl) (va_recv hK hP (rfl : vwCl[15]? = some (RJx4a65c, TJx4a65c, 3)) xat0) hPc hDc hS hA [] (rest := rest) _ _ (c_isEmpty (n := vs.length) (by omega) _) jP_bl (fun U hU hW => jP_to hPc hDc hS hA hK hN hZ hU hW) ⟨by omega, by omega⟩ (by omega) (by omega) rfl hls rfl hrm hd (fun r u t H locs ht hw hB hz hJ hS => ?_)
  subst hw
  obtain ⟨hP1, hD1⟩ := hB
  rw [ht] at hP1
  obtain ⟨hP, hD⟩ := hJ _ hP1 hD1
  exact kk H locs (xP_perm hP pm_y.symm) (xD_perm hD pm_y.symm) hS
theorem lk_size (hx : p.tables.exec = Jvm.exec) (hb : c.code = cc) {own : String} {nL index : Nat} (hml : c.maxLocals = nL) (hown : s.vm.findClass own = some m.cls) (hts : ∀ w ∈ xTB, w.before args s = true) (hK : va_K D vwCl (xtyL cy) s) (hN : jN mi s) (hZ : jZ zE zc ad A s s.heap) (hS : va_S A s.heap H locs) (hA : ∀ q, s.heap.size ≤ q → A q) (hls : ls.size = nL) (hrm : (rest.map fun v => v.category).sum ≤ 8) (hL : xML own index yJx4a65c_size_8abf5 cJx4a65c_size_8abf5 1 (some .int) 0) (hw0 : isL cy zE ad y vs w) (hP : va_P D vwCl (wr ++ w) H) (hD : va_D A (wr ++ w)) (hR : 2 ≤ R.frames ∧ 50 ≤ R.locals) (hcs : cells + 0 ≤ R.cells ∧ slots + 0 ≤ R.slots) (hd : decode cc pc = .ok (.invokevirtual index, 3))
    (kk : ∀ (H : Heap) (locs : List Loc), va_P D vwCl (wr ++ w) H → va_D A (wr ++ w) → va_S A s.heap H locs → W p l e0 R s m args below meth c H locs (cells) (slots) Q (F0 m (pc + 3) ls (.int (ki (vs.length : Int)) :: rest))) : W p l e0 R s m args below meth c H locs (cells) (slots) Q (F0 m pc ls (.ref y :: rest)) := by
  obtain ⟨hv, hlen, hw9⟩ := id hw0
  obtain ⟨e, t9, rfl⟩ := isL_yc hw0
  have hPc : va_P D vwCl ((wr ++ t9) ++ [(y, .inr (15, [.int (ki (vs.length : Int)), .ref e, .int (ki (vs.length : Int))]))]) H := xP_perm hP pm_y
  have hDc : va_D A ((wr ++ t9) ++ [(y, .inr (15, [.int (ki (vs.length : Int)), .ref e, .int (ki (vs.length : Int))]))]) := xD_perm hD pm_y
  refine kc_Vi hx hb hml hown hts hL (xw_mem 1065 (by decide +kernel) rfl) (xw_mem 1066 (by decide +kernel) rfl) (va_recv hK hP (rfl : vwCl[15]? = some (RJx4a65c, TJx4a65c, 3)) xat0) hPc hDc hS hA [] (rest := rest) _ _ (c_size (n := vs.length) _) jP_bl (fun U hU hW => jP_to hPc hDc hS hA hK hN hZ hU hW) ⟨by omega, by omega⟩ (by omega) (by omega) rfl hls rfl hrm hd (fun r u t H locs ht hw hB hz hJ hS => ?_)
  subst hw
  obtain ⟨hP1, hD1⟩ := hB
  rw [ht] at hP1
  obtain ⟨hP, hD⟩ := hJ _ hP1 hD1
  exact kk H locs (xP_perm hP pm_y.symm) (xD_perm hD pm_y.symm) hS
theorem lk_get (hx : p.tables.exec = Jvm.exec) (hb : c.code = cc) {own : String} {nL index : Nat} (hml : c.maxLocals = nL) (hown : s.vm.findClass own = some m.cls) (hts : ∀ w ∈ xTB, w.before args s = true) (hK : va_K D vwCl (xtyL cy) s) (hN : jN mi s) (hZ : jZ zE zc ad A s s.heap) (hS : va_S A s.heap H locs) (hA : ∀ q, s.heap.size ≤ q → A q) (hls : ls.size = nL) (hrm : (rest.map fun v => v.category).sum ≤ 8) (hL : xML own index yJx4a65c_get_915e3 cJx4a65c_get_915e3 2 (some (.object "java/lang/Object")) 1) {j v : Nat} (hw0 : isL cy zE ad y vs w) (hj : vs[j]? = some v) (hP : va_P D vwCl (wr ++ w) H) (hD : va_D A (wr ++ w)) (hR : 4 ≤ R.frames ∧ 121 ≤ R.locals) (hcs : cells + 0 ≤ R.cells ∧ slots + 0 ≤ R.slots) (hd : decode cc pc = .ok (.invokevirtual index, 3))
    (kk : ∀ (H : Heap) (locs : List Loc), va_P D vwCl (wr ++ w) H → va_D A (wr ++ w) → va_S A s.heap H locs → W p l e0 R s m args below meth c H locs (cells) (slots) Q (F0 m (pc + 3) ls (.ref (ad (v + 128)) :: rest))) : W p l e0 R s m args below meth c H locs (cells) (slots) Q (F0 m pc ls (.int (ki (j : Int)) :: .ref y :: rest)) := by
  obtain ⟨hv, hlen, ⟨rfl, rfl⟩ | ⟨e, cap, f, h1, h2, h3, h4, h5, rfl⟩⟩ := hw0
  · simp at hj
  · have hj2 : j < vs.length := by
      rw [List.getElem?_eq_some_iff] at hj
      exact hj.1
    have hf : f j = some (ad (v + 128)) := by rw [h5, hj]; rfl
    refine kc_Vr hx hb hml hown hts hL (xw_mem 1073 (by decide +kernel) rfl) (xw_mem 1074 (by decide +kernel) rfl) (va_recv hK hP (rfl : vwCl[15]? = some (RJx4a65c, TJx4a65c, 3)) xat0) hP hD hS hA [.int (ki (j : Int))] (rest := rest) _ _ (c_get (n := vs.length) (cap := cap) (i := j) (f := f) hj2 h2 (by omega) hf _) jP_bl (fun U hU hW => jP_to hP hD hS hA hK hN hZ hU hW) ⟨by omega, by omega⟩ (by omega) (by omega) rfl hls rfl hrm hd (fun r u t H locs ht hw hB hz hJ hS => ?_)
    obtain ⟨hra, hP1, hD1⟩ := hB
    subst hra
    rw [ht] at hP1
    obtain ⟨hP, hD⟩ := hJ _ hP1 hD1
    exact kk H locs hP hD hS
theorem lk_iter (hx : p.tables.exec = Jvm.exec) (hb : c.code = cc) {own : String} {nL index : Nat} (hml : c.maxLocals = nL) (hown : s.vm.findClass own = some m.cls) (hts : ∀ w ∈ xTB, w.before args s = true) (hK : va_K D vwCl (xtyL cy) s) (hN : jN mi s) (hZ : jZ zE zc ad A s s.heap) (hS : va_S A s.heap H locs) (hA : ∀ q, s.heap.size ≤ q → A q) (hls : ls.size = nL) (hrm : (rest.map fun v => v.category).sum ≤ 8) (hL : xML own index yJx4a65c_iterator_32c93 cJx4a65c_iterator_32c93 1 (some (.object "java/util/Iterator")) 0) (hw0 : isL cy zE ad y vs w) (hP : va_P D vwCl (wr ++ w) H) (hD : va_D A (wr ++ w)) (hR : 3 ≤ R.frames ∧ 80 ≤ R.locals) (hcs : cells + 1 ≤ R.cells ∧ slots + 4 ≤ R.slots) (hd : decode cc pc = .ok (.invokevirtual index, 3))
    (kk : ∀ (i : Nat) (w2 : va_W) (H : Heap) (locs : List Loc), isI y i 0 vs.length w2 → va_P D vwCl (wr ++ (w ++ w2)) H → va_D A (wr ++ (w ++ w2)) → va_S A s.heap H locs → W p l e0 R s m args below meth c H locs (cells + 1) (slots + 4) Q (F0 m (pc + 3) ls (.ref i :: rest))) : W p l e0 R s m args below meth c H locs (cells) (slots) Q (F0 m pc ls (.ref y :: rest)) := by
  obtain ⟨hv, hlen, hw9⟩ := id hw0
  obtain ⟨e, t9, rfl⟩ := isL_yc hw0
  have hPc : va_P D vwCl ((wr ++ t9) ++ [(y, .inr (15, [.int (ki (vs.length : Int)), .ref e, .int (ki (vs.length : Int))]))]) H := xP_perm hP pm_y
  have hDc : va_D A ((wr ++ t9) ++ [(y, .inr (15, [.int (ki (vs.length : Int)), .ref e, .int (ki (vs.length : Int))]))]) := xD_perm hD pm_y
  refine kc_Vr hx hb hml hown hts hL (xw_mem 1087 (by decide +kernel) rfl) (xw_mem 1088 (by decide +kernel) rfl) (va_recv hK hP (rfl : vwCl[15]? = some (RJx4a65c, TJx4a65c, 3)) xat0) hPc hDc hS hA [] (rest := rest) _ _ (c_iterator (n := vs.length) _) jP_bl (fun U hU hW => jP_to hPc hDc hS hA hK hN hZ hU hW) ⟨by omega, by omega⟩ (by omega) (by omega) rfl hls rfl hrm hd (fun r u t H locs ht hw hB hz hJ hS => ?_)
  obtain ⟨hra, hP1, hD1⟩ := hB
  subst hra
  rw [ht] at hP1
  obtain ⟨hP, hD⟩ := hJ _ hP1 hD1
  exact kk _ _ H locs ⟨-1, rfl⟩ (xP_perm hP pm_yi.symm) (xD_perm hD pm_yi.symm) hS
theorem lk_hasNext (hx : p.tables.exec = Jvm.exec) (hb : c.code = cc) {own : String} {nL index : Nat} (hml : c.maxLocals = nL) (hown : s.vm.findClass own = some m.cls) (hts : ∀ w ∈ xTB, w.before args s = true) (hK : va_K D vwCl (xtyL cy) s) (hN : jN mi s) (hZ : jZ zE zc ad A s s.heap) (hS : va_S A s.heap H locs) (hA : ∀ q, s.heap.size ≤ q → A q) (hls : ls.size = nL) (hrm : (rest.map fun v => v.category).sum ≤ 8)  (l1 : Cond.code yJx35411_hasNext_aae02 cJx35411_hasNext_aae02 1 (some .boolean) ∈ xTB) (hGd : GoodIn xTB (va_wsF own index "java/util/ArrayList$Itr" yI_hasNext yJx35411_hasNext_aae02 (Cond.code yJx35411_hasNext_aae02 cJx35411_hasNext_aae02 1 (some .boolean) :: xTB))) {j : Nat} (hw0 : isL cy zE ad y vs w) (hi : isI y i j vs.length wi) (hj : j ≤ 100) (hP : va_P D vwCl (wr ++ (w ++ wi)) H) (hD : va_D A (wr ++ (w ++ wi))) (hR : 2 ≤ R.frames ∧ 50 ≤ R.locals) (hcs : cells + 0 ≤ R.cells ∧ slots + 0 ≤ R.slots) (hd : decode cc pc = .ok (.invokeinterface index 1, 5))
    (kk : ∀ (H : Heap) (locs : List Loc), va_P D vwCl (wr ++ (w ++ wi)) H → va_D A (wr ++ (w ++ wi)) → va_S A s.heap H locs → W p l e0 R s m args below meth c H locs (cells) (slots) Q (F0 m (pc + 5) ls (.int (ki (bi (j ≠ vs.length))) :: rest))) : W p l e0 R s m args below meth c H locs (cells) (slots) Q (F0 m pc ls (.ref i :: rest)) := by
  obtain ⟨hv, hlen, hw9⟩ := id hw0
  obtain ⟨e, t9, rfl⟩ := isL_yc hw0
  obtain ⟨la, rfl⟩ := hi
  have hPc : va_P D vwCl ((wr ++ t9) ++ [(y, .inr (15, [.int (ki (vs.length : Int)), .ref e, .int (ki (vs.length : Int))])), (i, .inr (14, [.int (ki (j : Int)), .int (ki la), .int (ki (vs.length : Int)), .ref y]))]) H := xP_perm hP pm_yi
  have hDc : va_D A ((wr ++ t9) ++ [(y, .inr (15, [.int (ki (vs.length : Int)), .ref e, .int (ki (vs.length : Int))])), (i, .inr (14, [.int (ki (j : Int)), .int (ki la), .int (ki (vs.length : Int)), .ref y]))]) := xD_perm hD pm_yi
  refine kc_Fi hx hb hml hown hts (hK.1 14 _ rfl).2 l1 hGd hN.2.2.2.2.2.1 (by exact ⟨by decide, by decide, by decide +kernel⟩) (va_recv hK hPc (rfl : vwCl[14]? = some (RJx35411, TJx35411, 4)) xat1) hPc hDc hS hA [] (rest := rest) _ _ (c_hasNext (n := vs.length) (j := j) (la := la) hj (by omega) _) jP_bl (fun U hU hW => jP_to hPc hDc hS hA hK hN hZ hU hW) ⟨by omega, by omega⟩ (by omega) (by omega) rfl hls rfl hrm hd (fun r u t H locs ht hw hB hz hJ hS => ?_)
  subst hw
  obtain ⟨hP1, hD1⟩ := hB
  rw [ht] at hP1
  obtain ⟨hP, hD⟩ := hJ _ hP1 hD1
  exact kk H locs (xP_perm hP pm_yi.symm) (xD_perm hD pm_yi.symm) hS
theorem lk_next (hx : p.tables.exec = Jvm.exec) (hb : c.code = cc) {own : String} {nL index : Nat} (hml : c.maxLocals = nL) (hown : s.vm.findClass own = some m.cls) (hts : ∀ w ∈ xTB, w.before args s = true) (hK : va_K D vwCl (xtyL cy) s) (hN : jN mi s) (hZ : jZ zE zc ad A s s.heap) (hS : va_S A s.heap H locs) (hA : ∀ q, s.heap.size ≤ q → A q) (hls : ls.size = nL) (hrm : (rest.map fun v => v.category).sum ≤ 8)  (l1 : Cond.code yJx35411_next_0502b cJx35411_next_0502b 3 (some (.object "java/lang/Object")) ∈ xTB) (hGd : GoodIn xTB (va_wsF own index "java/util/ArrayList$Itr" yI_next yJx35411_next_0502b (Cond.code yJx35411_next_0502b cJx35411_next_0502b 3 (some (.object "java/lang/Object")) :: xTB))) {j v : Nat} (hw0 : isL cy zE ad y vs w) (hi : isI y i j vs.length wi) (hj : vs[j]? = some v) (hP : va_P D vwCl (wr ++ (w ++ wi)) H) (hD : va_D A (wr ++ (w ++ wi))) (hR : 4 ≤ R.frames ∧ 112 ≤ R.locals) (hcs : cells + 0 ≤ R.cells ∧ slots + 0 ≤ R.slots) (hd : decode cc pc = .ok (.invokeinterface index 1, 5))
    (kk : ∀ (w2 : va_W) (H : Heap) (locs : List Loc), isI y i (j + 1) vs.length w2 → va_P D vwCl (wr ++ (w ++ w2)) H → va_D A (wr ++ (w ++ w2)) → va_S A s.heap H locs → W p l e0 R s m args below meth c H locs (cells) (slots) Q (F0 m (pc + 5) ls (.ref (ad (v + 128)) :: rest))) : W p l e0 R s m args below meth c H locs (cells) (slots) Q (F0 m pc ls (.ref i :: rest)) := by
  obtain ⟨hv, hlen, ⟨rfl, rfl⟩ | ⟨e, cap, f, h1, h2, h3, h4, h5, rfl⟩⟩ := hw0
  · simp at hj
  · have hj2 : j < vs.length := by
      rw [List.getElem?_eq_some_iff] at hj
      exact hj.1
    have hf : f j = some (ad (v + 128)) := by rw [h5, hj]; rfl
    obtain ⟨la, rfl⟩ := hi
    refine kc_Fr hx hb hml hown hts (hK.1 14 _ rfl).2 l1 hGd hN.2.2.2.2.2.2 (by exact ⟨by decide, by decide, by decide +kernel⟩) (va_recv hK hP (rfl : vwCl[14]? = some (RJx35411, TJx35411, 4)) xat2) hP hD hS hA [] (rest := rest) _ _ (c_next (n := vs.length) (cap := cap) (j := j) (f := f) (la := la) (mo := (vs.length : Int)) hj2 h2 (by omega) (by omega) (by omega) hf _) jP_bl (fun U hU hW => jP_to hP hD hS hA hK hN hZ hU hW) ⟨by omega, by omega⟩ (by omega) (by omega) rfl hls rfl hrm hd (fun r u t H locs ht hw hB hz hJ hS => ?_)
    obtain ⟨hra, hP1, hD1⟩ := hB
    subst hra
    rw [ht] at hP1
    obtain ⟨hP, hD⟩ := hJ _ hP1 hD1
    exact kk _ H locs ⟨(j : Int), rfl⟩ hP hD hS
theorem lk_box (hx : p.tables.exec = Jvm.exec) (hb : c.code = cc) {own : String} {nL index : Nat} (hml : c.maxLocals = nL) (hown : s.vm.findClass own = some m.cls) (hts : ∀ w ∈ xTB, w.before args s = true) (hK : va_K D vwCl (xtyL cy) s) (hN : jN mi s) (hZ : jZ zE zc ad A s s.heap) (hS : va_S A s.heap H locs) (hA : ∀ q, s.heap.size ≤ q → A q) (hls : ls.size = nL) (hrm : (rest.map fun v => v.category).sum ≤ 8) (hL : xML own index yJ6_valueOf_2dffe cJ6_valueOf_2dffe 1 (some (.object "java/lang/Integer")) 1) {v : Nat} (v1 : v < 30) (hD : va_D A wr) (hP : va_P D vwCl wr H) (hR : 2 ≤ R.frames ∧ 50 ≤ R.locals) (hcs : cells ≤ R.cells ∧ slots ≤ R.slots) (hd : decode cc pc = .ok (.invokestatic index, 3))
    (kk : ∀ (H : Heap) (locs : List Loc), va_P D vwCl wr H → va_D A wr → va_S A s.heap H locs → W p l e0 R s m args below meth c H locs (cells) (slots) Q (F0 m (pc + 3) ls (.ref (ad (v + 128)) :: rest))) : W p l e0 R s m args below meth c H locs (cells) (slots) Q (F0 m pc ls (.int (ki (v : Int)) :: rest)) := by
  have hPc : va_P D vwCl (wr ++ []) H := by rw [List.append_nil]; exact hP
  have hDc : va_D A (wr ++ []) := by rw [List.append_nil]; exact hD
  refine kc_Sr hx hb hml hown hts hL (xw_mem 868 (by decide +kernel) rfl) hPc hDc hS hA [.int (ki (v : Int))] (rest := rest) _ _ (c_valueOf (k := (v : Int)) (by omega) (by omega) _) jP_bl (fun U hU hW => jP_to hPc hDc hS hA hK hN hZ hU hW) ⟨by omega, by omega⟩ (by omega) (by omega) rfl hls rfl hrm hd (fun r u t H locs ht hw hB hz hJ hS => ?_)
  obtain ⟨hP, hD⟩ := hJ [] (fun k q h => by simp at h) ⟨fun i j p q h => by simp at h, fun k q h => by simp at h⟩
  rw [List.append_nil] at hP hD
  rw [hB, show ((v : Int) + 128).toNat = v + 128 by omega]
  exact kk H locs hP hD hS
theorem lk_unbox (hx : p.tables.exec = Jvm.exec) (hb : c.code = cc) {own : String} {nL index : Nat} (hml : c.maxLocals = nL) (hown : s.vm.findClass own = some m.cls) (hts : ∀ w ∈ xTB, w.before args s = true) (hK : va_K D vwCl (xtyL cy) s) (hN : jN mi s) (hZ : jZ zE zc ad A s s.heap) (hS : va_S A s.heap H locs) (hA : ∀ q, s.heap.size ≤ q → A q) (hls : ls.size = nL) (hrm : (rest.map fun v => v.category).sum ≤ 8) (hL : xML own index yJ6_intValue_8abf5 cJ6_intValue_8abf5 1 (some .int) 0) {ic : Nat} (hlk : (Cond.classLink own ic RJ6).before args s = true) {v : Nat} (v1 : v < 30) (hD : va_D A wr) (hP : va_P D vwCl wr H) (hR : 2 ≤ R.frames ∧ 50 ≤ R.locals) (hcs : cells ≤ R.cells ∧ slots ≤ R.slots) (hdc : decode cc pc = .ok (.checkcast ic, 3)) (hd : decode cc (pc + 3) = .ok (.invokevirtual index, 3))
    (kk : ∀ (H : Heap) (locs : List Loc), va_P D vwCl wr H → va_D A wr → va_S A s.heap H locs → W p l e0 R s m args below meth c H locs (cells) (slots) Q (F0 m (pc + 3 + 3) ls (.int (ki (v : Int)) :: rest))) : W p l e0 R s m args below meth c H locs (cells) (slots) Q (F0 m pc ls (.ref (ad (v + 128)) :: rest)) := by
  have hPc : va_P D vwCl (wr ++ []) H := by rw [List.append_nil]; exact hP
  have hDc : va_D A (wr ++ []) := by rw [List.append_nil]; exact hD
  have hrv : ∃ cell : Cell, H[ad (v + 128)]? = some cell ∧ cell.vm.isStatics = false ∧ s.vm.findClass "java/lang/Integer" = some cell.cls := vb_recv (X := wr) (LP := []) (p := fun _ => 0) (D := D) (cl := vwCl) (ci := 13) (n := 1) (T := TJ6) hZ.2.2.2.2.2 hS hK hPc rfl (Or.inr ⟨v + 128, by omega, rfl⟩)
  refine va_castE hx hb hown hlk hrv hdc ?_
  refine kc_Vi hx hb hml hown hts hL (xw_mem 1054 (by decide +kernel) rfl) (xw_mem 1055 (by decide +kernel) rfl) hrv hPc hDc hS hA [] (rest := rest) _ _ (c_intValue (k := v + 128) (by omega) _) jP_bl (fun U hU hW => jP_to hPc hDc hS hA hK hN hZ hU hW) ⟨by omega, by omega⟩ (by omega) (by omega) rfl hls rfl hrm hd (fun r u t H locs ht hw hB hz hJ hS => ?_)
  subst hw
  obtain ⟨hP, hD⟩ := hJ [] (fun k q h => by simp at h) ⟨fun i j p q h => by simp at h, fun k q h => by simp at h⟩
  rw [List.append_nil] at hP hD
  rw [show (((v + 128 : Nat) : Int) - 128) = (v : Int) by omega]
  exact kk H locs hP hD hS
theorem lk_newL (hx : p.tables.exec = Jvm.exec) (hb : c.code = cc) {own : String} {nL index : Nat} (hml : c.maxLocals = nL) (hown : s.vm.findClass own = some m.cls) (hts : ∀ w ∈ xTB, w.before args s = true) (hK : va_K D vwCl (xtyL cy) s) (hN : jN mi s) (hZ : jZ zE zc ad A s s.heap) (hS : va_S A s.heap H locs) (hA : ∀ q, s.heap.size ≤ q → A q) (hls : ls.size = nL) (hrm : (rest.map fun v => v.category).sum ≤ 8) {ic : Nat} (hcl : (Cond.classLink own ic RJx4a65c).before args s = true) (hlk : Cond.methodLink own index yJx4a65c_init_da8c8 ∈ xTB) (hD : va_D A wr) (hP : va_P D vwCl wr H) (hR : 4 ≤ R.frames ∧ 160 ≤ R.locals) (hcs : cells + 1 ≤ R.cells ∧ slots + 3 ≤ R.slots) (hr6 : (rest.map fun v => v.category).sum ≤ 6) (hd0 : decode cc pc = .ok (.new ic, 3)) (hd1 : decode cc (pc + 3) = .ok (.dup, 1)) (hd : decode cc (pc + 3 + 1) = .ok (.invokespecial index, 3))
    (kk : ∀ (y : Nat) (w : va_W) (H : Heap) (locs : List Loc), isL cy zE ad y [] w → va_P D vwCl (wr ++ w) H → va_D A (wr ++ w) → va_S A s.heap H locs → W p l e0 R s m args below meth c H locs (cells + 1) (slots + 3) Q (F0 m (pc + 3 + 1 + 3) ls (.ref y :: rest))) : W p l e0 R s m args below meth c H locs (cells) (slots) Q (F0 m pc ls (rest)) := by
  refine va_new (ci := 15) (C := RJx4a65c) (T := TJx4a65c) (N := 3) (fs := [.int (ki 0), .null, .int (ki 0)]) hx hb hts xin_Jx4a65c tyJx4a65c tyJx4a65c_ok hown hcl (hts _ (xw_mem 835 (by decide +kernel) rfl)) (hts _ (xw_mem 46 (by decide +kernel) rfl)) hK hP hD hS hA rfl (by decide +kernel) (by omega) (by omega) hd0 (fun q0 H hP hD hS => ?_)
  refine lv_dup hx hb hd1 rfl ?_
  refine x_ctor (n := 0) hx hb hml hown hts (xgood (xw_mem 838 (by decide +kernel) rfl)) (xw_mem 46 (by decide +kernel) rfl) hlk ⟨by decide, by decide, by decide +kernel⟩ rfl (xw_mem 837 (by decide +kernel) rfl) hP hD hS hA (rest := .ref q0 :: rest) [] (c_ALI _) jP_bl (fun U hU hW => jP_to hP hD hS hA hK hN hZ hU hW) ⟨by omega, by omega⟩ (by omega) (by omega) rfl hls rfl (by rw [List.map_cons, List.sum_cons]; show 1 + _ ≤ 8; omega) hd (fun t H locs ht hB hJ hS => ?_)
  obtain ⟨hP1, hD1⟩ := hB
  rw [ht] at hP1
  obtain ⟨hP, hD⟩ := hJ _ hP1 hD1
  exact kk q0 _ H locs isL_0 hP hD hS
end C4
