/-! part al: calls out of the law -/
theorem xA_iff {cy : Nat → ClassId} {tb : xTb} {a : Nat → Nat} {S : xSt} {sz q : Nat} : va_A (xW cy tb a S) sz q ↔ xA tb a sz q := by
  constructor
  · rintro (⟨k, e, h⟩ | h)
    · rw [xW_at] at h
      cases ht : tb[k]? with
      | none => rw [ht] at h; cases h
      | some w =>
        rw [ht] at h
        have h2 := congrArg Prod.fst (Option.some.inj h)
        exact Or.inl ⟨k, (List.getElem?_eq_some_iff.mp ht).1, h2.symm⟩
    · exact Or.inr h
  · rintro (⟨k, hk, rfl⟩ | h)
    · exact Or.inl ⟨k, _, xW_get (List.getElem?_eq_getElem hk)⟩
    · exact Or.inr h
section LCA
variable {p : Program} {l : Launch} {e : Env} {R : Room} {s : State} {m : MethodId} {args : Array Value} {below : List Frame} {meth : Method} {c : Code} {H : Heap} {locs : List Loc} {Q : State → Prop}
variable {cc : ByteArray} {pc : Nat} {ls : Array Slot} {rest : List Value} {D : va_G} {cy : Nat → ClassId} {A : Nat → Prop} {cells slots : Nat}
theorem lw_vi {own : String} {nL : Nat} (hx : p.tables.exec = Jvm.exec) (hb : c.code = cc) (hml : c.maxLocals = nL) (hown : s.vm.findClass own = some m.cls) (hts : ∀ w ∈ xTB, w.before args s = true) (hK : va_K D vwCl (xty cy) s) {z : Nat → Nat} (hEx : xEx z A s s.heap) {wr : va_W} {tb : xTb} {a : Nat → Nat} {S : xSt} (hI : xI tb a) (hP : va_P D vwCl (wr ++ xW cy tb a S) H) (hD : va_D A (wr ++ xW cy tb a S)) (hS : va_S A s.heap H locs) (hA : ∀ q, s.heap.size ≤ q → A q)
    {index n mxL fr lc ci n0 N : Nat} {fl : List Nat} {C : String} {T : u_T} {y : MethodName} {bytes : ByteArray} (hL : xML own index y bytes mxL (some .int) n) (hin : Cond.instanceMethod y ∈ xTB) (hsel : Cond.selects C y y ∈ xTB) (he : tb[0]? = some (ci, n0, fl)) (hci : ci < 100) (hC : vwCl[ci]? = some (C, T, N)) (As : List Value) {st : List Value} {S' : xSt} {v : Int32}
    (hMet : Met l y (Cond.code y bytes mxL (some .int) :: xTB) ({ frames := fr, cells := 0, slots := 0, locals := lc } : Room) (va_Pc (.ref (a 0) :: As) (xPre D cy tb a z S H.size)) (xQi D cy tb a S' v H.size) 0 0 (xA tb a H.size)) (hR : fr + 1 ≤ R.frames ∧ 8 + (mxL + 11) + lc ≤ R.locals) (hcs : cells ≤ R.cells ∧ slots ≤ R.slots) (hn : As.length = n) (hls : ls.size = nL) (hst : st = As.reverse ++ .ref (a 0) :: rest) (hrm : (rest.map fun v => v.category).sum ≤ 8) (hd : decode cc pc = .ok (.invokevirtual index, 3))
    (kk : ∀ (H1 : Heap) (locs1 : List Loc), va_P D vwCl (wr ++ xW cy tb a S') H1 → va_S A s.heap H1 locs1 → W p l e R s m args below meth c H1 locs1 cells slots Q (F0 m (pc + 3) ls (.int v :: rest))) : W p l e R s m args below meth c H locs cells slots Q (F0 m pc ls st) := by
  obtain ⟨l1, l2, l3, l4⟩ := hL
  have hF0 := x_free hD hS hA
  have hF : ∀ q, xA tb a H.size q → A q := fun q h => hF0 q (xA_iff.mpr h)
  have hpre : ∀ U : State, U.heap = H → s.WarmedH U.vm → xPre D cy tb a z S H.size U := fun U hU hW => ⟨by rw [hU], by rw [hU]; exact xP_last hP, va_K.moved hW.alike hK, hEx.to (H1 := U.heap) hW (fun q h1 h2 => by rw [hU]; exact hS.2.1 q h1 h2) hF⟩
  have hw : (xW cy tb a S)[0]? = some (a 0, .inr (ci, xF a S 0 fl)) := by rw [xW_get he]; simp only [xE, if_pos hci]
  have hcb : CallB R s args own index y bytes mxL (some .int) (Cond.code y bytes mxL (some .int) :: xTB) ({ frames := fr, cells := 0, slots := 0, locals := lc } : Room) 0 0 n := callB_of n hts (xgood l1) rfl rfl rfl (hts _ l2) (hts _ l3) l4 hR
  exact va_calli (va_runV (As := As) (rest := rest) ⟨hx, hb, hml, hown, hts⟩ hMet ⟨hcb, hts _ hin, hts _ hsel⟩ ⟨xPre_blind, va_recv hK (xP_last hP) hC hw, fun U hU hW => ⟨rfl, hpre U hU hW⟩⟩ rfl hn hls hst (lv_room hrm) hd hcs) hS (fun q _ h => hF q h) hF (fun r u t1 H1 locs1 ht _ hw2 hB _ hk1 hS1 => by
    subst hw2; subst ht
    exact kk _ _ (x_join hP hD (fun q h1 h2 => hk1 q h1 (fun h => h2 (xA_iff.mpr h))) hF0 hB ((xD_of (sz := H.size) hI).weaken (fun _ _ _ h => xA_iff.mpr h))).1 hS1)
theorem lw_vl {own : String} {nL : Nat} (hx : p.tables.exec = Jvm.exec) (hb : c.code = cc) (hml : c.maxLocals = nL) (hown : s.vm.findClass own = some m.cls) (hts : ∀ w ∈ xTB, w.before args s = true) (hK : va_K D vwCl (xty cy) s) {z : Nat → Nat} (hEx : xEx z A s s.heap) {wr : va_W} {tb : xTb} {a : Nat → Nat} {S : xSt} (hI : xI tb a) (hP : va_P D vwCl (wr ++ xW cy tb a S) H) (hD : va_D A (wr ++ xW cy tb a S)) (hS : va_S A s.heap H locs) (hA : ∀ q, s.heap.size ≤ q → A q)
    {index n mxL fr lc ci n0 N : Nat} {fl : List Nat} {C : String} {T : u_T} {y : MethodName} {bytes : ByteArray} (hL : xML own index y bytes mxL (some .long) n) (hin : Cond.instanceMethod y ∈ xTB) (hsel : Cond.selects C y y ∈ xTB) (he : tb[0]? = some (ci, n0, fl)) (hci : ci < 100) (hC : vwCl[ci]? = some (C, T, N)) (As : List Value) {st : List Value} {S' : xSt} {v : Int64}
    (hMet : Met l y (Cond.code y bytes mxL (some .long) :: xTB) ({ frames := fr, cells := 0, slots := 0, locals := lc } : Room) (va_Pc (.ref (a 0) :: As) (xPre D cy tb a z S H.size)) (xQl D cy tb a S' v H.size) 0 0 (xA tb a H.size)) (hR : fr + 1 ≤ R.frames ∧ 8 + (mxL + 11) + lc ≤ R.locals) (hcs : cells ≤ R.cells ∧ slots ≤ R.slots) (hn : As.length = n) (hls : ls.size = nL) (hst : st = As.reverse ++ .ref (a 0) :: rest) (hrm : (rest.map fun v => v.category).sum ≤ 8) (hd : decode cc pc = .ok (.invokevirtual index, 3))
    (kk : ∀ (H1 : Heap) (locs1 : List Loc), va_P D vwCl (wr ++ xW cy tb a S') H1 → va_S A s.heap H1 locs1 → W p l e R s m args below meth c H1 locs1 cells slots Q (F0 m (pc + 3) ls (.long v :: rest))) : W p l e R s m args below meth c H locs cells slots Q (F0 m pc ls st) := by
  obtain ⟨l1, l2, l3, l4⟩ := hL
  have hF0 := x_free hD hS hA
  have hF : ∀ q, xA tb a H.size q → A q := fun q h => hF0 q (xA_iff.mpr h)
  have hpre : ∀ U : State, U.heap = H → s.WarmedH U.vm → xPre D cy tb a z S H.size U := fun U hU hW => ⟨by rw [hU], by rw [hU]; exact xP_last hP, va_K.moved hW.alike hK, hEx.to (H1 := U.heap) hW (fun q h1 h2 => by rw [hU]; exact hS.2.1 q h1 h2) hF⟩
  have hw : (xW cy tb a S)[0]? = some (a 0, .inr (ci, xF a S 0 fl)) := by rw [xW_get he]; simp only [xE, if_pos hci]
  have hcb : CallB R s args own index y bytes mxL (some .long) (Cond.code y bytes mxL (some .long) :: xTB) ({ frames := fr, cells := 0, slots := 0, locals := lc } : Room) 0 0 n := callB_of n hts (xgood l1) rfl rfl rfl (hts _ l2) (hts _ l3) l4 hR
  exact va_calll (va_runV (As := As) (rest := rest) ⟨hx, hb, hml, hown, hts⟩ hMet ⟨hcb, hts _ hin, hts _ hsel⟩ ⟨xPre_blind, va_recv hK (xP_last hP) hC hw, fun U hU hW => ⟨rfl, hpre U hU hW⟩⟩ rfl hn hls hst (lv_room hrm) hd hcs) hS (fun q _ h => hF q h) hF (fun r u t1 H1 locs1 ht _ hw2 hB _ hk1 hS1 => by
    subst hw2; subst ht
    exact kk _ _ (x_join hP hD (fun q h1 h2 => hk1 q h1 (fun h => h2 (xA_iff.mpr h))) hF0 hB ((xD_of (sz := H.size) hI).weaken (fun _ _ _ h => xA_iff.mpr h))).1 hS1)
/-- script[i + j] is laid on the stack -/
theorem lw_ld (hx : p.tables.exec = Jvm.exec) (hb : c.code = cc) {b L : Nat} {xs : Nat → Int32} (hX : va_X b L xs s s.heap) (hbl : b < s.heap.size) (hbA : ¬ A b) (hS : va_S A s.heap H locs) {nL : Nat} {lv : List (Nat × Value)} (hl : lv_has ls nL lv) {x3 : Int32} (h0 : lv[0]? = some (0, .ref b)) (h3 : lv[3]? = some (3, .int x3)) {j : Int} (J : Int32) (hJ : Int32.ofInt j = J) (hin : vp_in (x3 + J) L)
    (d1 : decode cc pc = .ok (.aload_n 0, 1)) (d2 : decode cc (pc + 1) = .ok (.iload_n 3, 1)) (d3 : decode cc (pc + 1 + 1) = .ok (.iconst j, 1)) (d4 : decode cc (pc + 1 + 1 + 1) = .ok (.iadd, 1)) (d5 : decode cc (pc + 1 + 1 + 1 + 1) = .ok (.iaload, 1))
    (kk : W p l e R s m args below meth c H locs cells slots Q (F0 m (pc + 1 + 1 + 1 + 1 + 1) ls (.int (xs (x3 + J).toNatClampNeg) :: rest))) : W p l e R s m args below meth c H locs cells slots Q (F0 m pc ls rest) := by
  refine lv_aload_n hx hb d1 rfl (lv_at hl 0 h0) ?_
  refine lv_iload_n hx hb d2 rfl (lv_at hl 3 h3) ?_
  refine lv_iconst hx hb d3 hJ ?_
  refine lv_iadd hx hb d4 ?_
  exact va_sld hx hb hX hbl hbA hS hin d5 kk
end LCA
theorem xD_any {A : Nat → Prop} {cy : Nat → ClassId} {tb tb' : xTb} {a a' : Nat → Nat} {S T S' T' : xSt} (h : va_D A (xW cy tb a S ++ xW cy tb' a' T)) : va_D A (xW cy tb a S' ++ xW cy tb' a' T') := by
  rw [xD_nd] at h ⊢
  obtain ⟨h1, h2⟩ := h
  rw [List.map_append, xW_fst, xW_fst] at h1 ⊢
  refine ⟨h1, fun q hq => ?_⟩
  have h3 : q.1 ∈ (xW cy tb a S' ++ xW cy tb' a' T').map Prod.fst := List.mem_map_of_mem hq
  have h4 : (xW cy tb a S' ++ xW cy tb' a' T').map Prod.fst = (xW cy tb a S ++ xW cy tb' a' T).map Prod.fst := by rw [List.map_append, List.map_append, xW_fst, xW_fst, xW_fst, xW_fst]
  rw [h4] at h3
  obtain ⟨q', h5, h6⟩ := List.mem_map.mp h3
  rw [← h6]
  exact h2 q' h5
theorem xI_of_D {A : Nat → Prop} {cy : Nat → ClassId} {tb : xTb} {a : Nat → Nat} {S : xSt} (h : va_D A (xW cy tb a S)) : xI tb a := fun i j hi hj e => h.1 i j _ _ (xW_get (List.getElem?_eq_getElem hi)) (xW_get (List.getElem?_eq_getElem hj)) e
theorem xD_left {A : Nat → Prop} {w1 w2 : va_W} (hD : va_D A (w1 ++ w2)) : va_D A w1 := hD.sub (List.range w1.length) (xnd_of _ List.nodup_range) (xR_1 w1 w2)
