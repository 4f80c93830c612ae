/-! part c2: the JDK's list, iterator, Integer (made by wip/p45/gen_c2.py) -/
abbrev xtyL (cy : Nat → ClassId) : List (ClassId × FieldType) := xty cy ++ [(cy 6, .object "java/lang/Object")]
theorem xin_J6 : ∀ w ∈ u_ws RJ6 TJ6 1, w ∈ xTB := fun w h => List.mem_filter.mpr ⟨(by decide +kernel : ∀ w ∈ u_ws RJ6 TJ6 1, w ∈ lw_tbl) w h, (by decide +kernel : ∀ w ∈ u_ws RJ6 TJ6 1, goodWord w = true) w h⟩
theorem xin_Jx35411 : ∀ w ∈ u_ws RJx35411 TJx35411 4, w ∈ xTB := fun w h => List.mem_filter.mpr ⟨(by decide +kernel : ∀ w ∈ u_ws RJx35411 TJx35411 4, w ∈ lw_tbl) w h, (by decide +kernel : ∀ w ∈ u_ws RJx35411 TJx35411 4, goodWord w = true) w h⟩
theorem xin_Jx4a65c : ∀ w ∈ u_ws RJx4a65c TJx4a65c 3, w ∈ xTB := fun w h => List.mem_filter.mpr ⟨(by decide +kernel : ∀ w ∈ u_ws RJx4a65c TJx4a65c 3, w ∈ lw_tbl) w h, (by decide +kernel : ∀ w ∈ u_ws RJx4a65c TJx4a65c 3, goodWord w = true) w h⟩
def yI_hasNext : MethodName := ⟨"java/util/Iterator", "hasNext", "()Z"⟩
def yI_next : MethodName := ⟨"java/util/Iterator", "next", "()Ljava/lang/Object;"⟩
def jN (mi : Nat) (U : State) : Prop := va_Mi "[Ljava/lang/Object;" mi U ∧ va_AO "java/lang/Object" U ∧ va_Dc U ∧ va_Nw (.castable "java/lang/Integer" "java/lang/Object") U ∧ va_Nw (.fieldLinkNest RJx35411 28 RJx4a65c "size" "I" RJx4a65c) U ∧ va_Fw RJx35411 yI_hasNext yJx35411_hasNext_aae02 U ∧ va_Fw RJx35411 yI_next yJx35411_next_0502b U
def jZ (zE zc : Nat) (ad : Nat → Nat) (A : Nat → Prop) (U : State) (H : Heap) : Prop := va_Z "java/util/ArrayList" "DEFAULTCAPACITY_EMPTY_ELEMENTDATA" "[Ljava/lang/Object;" (.ref zE) A U H ∧ va_T (.object "java/lang/Object") zE 0 (fun _ => .null) A U H ∧ va_Z RJxabbfe "high" "I" (.int (ki 127)) A U H ∧ va_Z RJxabbfe "cache" "[Ljava/lang/Integer;" (.ref zc) A U H ∧ va_T (.object "java/lang/Integer") zc 256 (fun j => .ref (ad j)) A U H ∧ vb_C ad A U H
theorem jN.warm {mi : Nat} {s U : State} (h : jN mi s) (hW : s.WarmedH U.vm) : jN mi U := by
  obtain ⟨h1, h2, h3, h4, h5, h6, h7⟩ := h
  exact ⟨va_Mi.moved hW.alike h1, va_AO.moved hW.alike h2, va_Dc.moved hW.alike h3, va_Nw.warmC hW h4, va_Nw.warmF hW h5, va_Fw.moved (by decide) hW.alike h6, va_Fw.moved (by decide) hW.alike h7⟩
theorem jN.same {mi : Nat} {s U : State} (h : jN mi s) (hvm : s.vm = U.vm) : jN mi U := by
  have hal : s.vm.Alike U.vm := by rw [hvm]; exact Vm.Alike.refl _
  obtain ⟨h1, h2, h3, h4, h5, h6, h7⟩ := h
  exact ⟨va_Mi.moved hal h1, va_AO.moved hal h2, va_Dc.moved hal h3, va_Nw.same rfl hvm h4, va_Nw.same rfl hvm h5, va_Fw.moved (by decide) hal h6, va_Fw.moved (by decide) hal h7⟩
theorem jZ.to {zE zc : Nat} {ad : Nat → Nat} {A B : Nat → Prop} {u U : State} {H H1 : Heap} (h : jZ zE zc ad A u H) (hvm : u.vm.Alike U.vm) (hq : ∀ a : Nat, a < H.size → ¬ A a → H1[a]? = H[a]?) (hAB : ∀ q, B q → A q) : jZ zE zc ad B U H1 := by
  obtain ⟨h1, h2, h3, h4, h5, h6⟩ := h
  exact ⟨((h1.moved hvm).kept hq).narrow hAB, ((h2.moved hvm).kept hq).narrow hAB, ((h3.moved hvm).kept hq).narrow hAB, ((h4.moved hvm).kept hq).narrow hAB, ((h5.moved hvm).kept hq).narrow hAB, ((h6.moved hvm).kept hq).narrow hAB⟩
def jP (D : va_G) (cy : Nat → ClassId) (mi zE zc : Nat) (ad : Nat → Nat) (ws : va_W) (sz : Nat) (U : State) : Prop := U.heap.size = sz ∧ va_P D vwCl ws U.heap ∧ va_K D vwCl (xtyL cy) U ∧ va_D (fun _ => True) ws ∧ jN mi U ∧ jZ zE zc ad (va_A ws sz) U U.heap
theorem jP_bl {D : va_G} {cy : Nat → ClassId} {mi zE zc : Nat} {ad : Nat → Nat} {ws : va_W} {sz : Nat} {av : List Value} : FrameBlind (va_Pc av (jP D cy mi zE zc ad ws sz)) := by
  intro b U g mk q
  obtain ⟨q0, q1, qP, qK, qD, qN, qZ⟩ := q
  exact ⟨q0, q1, qP, va_K.moved (u := U) (U := U.calling g mk b) (Vm.Alike.refl U.vm) qK, qD, qN.same (U := U.calling g mk b) rfl, qZ.to (U := U.calling g mk b) (Vm.Alike.refl U.vm) (fun _ _ _ => rfl) (fun _ h => h)⟩
theorem jP_to {D : va_G} {cy : Nat → ClassId} {mi zE zc : Nat} {ad : Nat → Nat} {A : Nat → Prop} {s U : State} {H : Heap} {locs : List Loc} {wr wc : va_W} (hP : va_P D vwCl (wr ++ wc) H) (hD : va_D A (wr ++ wc)) (hS : va_S A s.heap H locs) (hA : ∀ q, s.heap.size ≤ q → A q) (hK : va_K D vwCl (xtyL cy) s) (hN : jN mi s) (hZ : jZ zE zc ad A s s.heap) (hU : U.heap = H) (hW : s.WarmedH U.vm) : jP D cy mi zE zc ad wc H.size U :=
  ⟨by rw [hU], by
    rw [hU]
    exact fun k q hk => hP (wr.length + k) q (by rw [List.getElem?_append_right (by omega), Nat.add_sub_cancel_left]; exact hk), va_K.moved hW.alike hK, (xD_last hD).weaken (fun _ _ _ _ => trivial), hN.warm hW, hZ.to (H1 := U.heap) hW.alike (fun a h1 h2 => by rw [hU]; exact hS.2.1 a h1 h2) (x_free hD hS hA)⟩
theorem pm_mid {l1 x l2 : va_W} : (l1 ++ x ++ l2).Perm (l1 ++ l2 ++ x) := by
  rw [List.append_assoc, List.append_assoc]
  exact List.Perm.append_left _ List.perm_append_comm
theorem kmax {x y : Int} (x1 : -2147483648 ≤ x) (x2 : x < 2147483648) (y1 : -2147483648 ≤ y) (y2 : y < 2147483648) : (if ki x < ki y then ki y else ki x) = ki (if x < y then y else x) := by
  by_cases h : x < y
  · rw [if_pos h, if_pos (by rw [ki_lt x1 x2 y1 y2]; exact h)]
  · rw [if_neg h, if_neg (by rw [ki_lt x1 x2 y1 y2]; exact h)]
theorem kmin {x y : Int} (x1 : -2147483648 ≤ x) (x2 : x < 2147483648) (y1 : -2147483648 ≤ y) (y2 : y < 2147483648) : (if ki y < ki x then ki y else ki x) = ki (if y < x then y else x) := by
  by_cases h : y < x
  · rw [if_pos h, if_pos (by rw [ki_lt y1 y2 x1 x2]; exact h)]
  · rw [if_neg h, if_neg (by rw [ki_lt y1 y2 x1 x2]; exact h)]
section C2
variable {l : Launch} {D : va_G} {cy : Nat → ClassId} {mi zE zc : Nat} {ad : Nat → Nat}
set_option maxHeartbeats 2000000 in
set_option maxRecDepth 20000 in
theorem c_ACI {y : Nat} (sz : Nat) : Met l yJxa1e45_init_da8c8 (Cond.code yJxa1e45_init_da8c8 cJxa1e45_init_da8c8 1 none :: xTB) ({ frames := 1, cells := 0, slots := 0, locals := 30 } : Room) (va_Pc [.ref y] (jP D cy mi zE zc ad [] sz)) (va_Qv (S := Unit) (fun _ => True) (fun u t => va_P D vwCl [] t.heap ∧ va_D (va_A [] sz) []) (va_A [] sz)) 0 0 (va_A [] sz) := by
  refine Met.ofW (cc := cJxa1e45_init_da8c8) (maxL := 1) (ret := none) (by decide) rfl ?_
  intro p e s m args below meth c s₁ B hml hv
  obtain ⟨rfl, hsz, hP, hK, hD0, hN, hZ⟩ := hv
  subst hsz
  have hx := B.exec
  have hb := B.bytes
  have hr := B.returns
  have hts : ∀ w ∈ xTB, w.before ([.ref y] : List Value).toArray s = true := fun w hw => atoms_spec (ws := Cond.code yJxa1e45_init_da8c8 cJxa1e45_init_da8c8 1 none :: xTB) B.pre w (List.mem_cons_of_mem _ hw)
  have hown : s.vm.findClass RJxa1e45 = some m.cls := findClass_of_methodNamed B.named
  have hlocks := B.notSynchronized
  have hl := lv_entry ([.ref y]) (n := 1) (Nat.le_of_ble_eq_true rfl)
  rw [lg_entry_eq]
  generalize (lg_sl ([.ref y]) ++ List.replicate (1 - (lg_sl ([.ref y])).length) Slot.unset).toArray = ls at hl ⊢
  have hl : lv_has ls 1 [(0, .ref y)] := hl
  have hin : meth.name = "<init>" := (name_of_methodNamed B.named B.method).1
  have hD := hD0.self (sz := s.heap.size)
  generalize hAe : va_A [] s.heap.size = A at hD hZ ⊢
  have hA : ∀ q : Nat, s.heap.size ≤ q → A q := fun q h => by rw [← hAe]; exact Or.inr h
  have hS : va_S A s.heap s.heap [] := va_S.rf
  have hP : va_P D vwCl [] s.heap := hP
  refine lv_aload_n hx hb dJxa1e45_init_da8c8_0 rfl (lv_at hl 0 rfl) ?_
  refine W.objInit hx hb hown (hts _ (xw_mem 845 (by decide +kernel) rfl)) (hts _ (xw_mem 63 (by decide +kernel) rfl)) (hts _ (xw_mem 64 (by decide +kernel) rfl)) rfl (by rw [hml]; exact hl.1) rfl dJxa1e45_init_da8c8_1 (Nat.le_of_ble_eq_true rfl) (Nat.le_of_ble_eq_true rfl) ?_
  refine W.eq (g2 := F0 m 4 ls []) rfl ?_
  exact W.vret hx hb hr (fun t ht hW => ⟨⟨(), rfl, trivial, by rw [ht]; exact hP, hD⟩, hS.F ht⟩) hS.2.2 dJxa1e45_init_da8c8_4
set_option maxHeartbeats 2000000 in
set_option maxRecDepth 20000 in
theorem c_ABI {y : Nat} {mo : Int} (sz : Nat) : Met l yJxc12de_init_da8c8 (Cond.code yJxc12de_init_da8c8 cJxc12de_init_da8c8 1 none :: xTB) ({ frames := 2, cells := 0, slots := 0, locals := 80 } : Room) (va_Pc [.ref y] (jP D cy mi zE zc ad [(y, .inr (15, [.int (ki mo), .null, .int (ki 0)]))] sz)) (va_Qv (S := Unit) (fun _ => True) (fun u t => va_P D vwCl [(y, .inr (15, [.int (ki 0), .null, .int (ki 0)]))] t.heap ∧ va_D (va_A [(y, .inr (15, [.int (ki mo), .null, .int (ki 0)]))] sz) [(y, .inr (15, [.int (ki 0), .null, .int (ki 0)]))]) (va_A [(y, .inr (15, [.int (ki mo), .null, .int (ki 0)]))] sz)) 0 0 (va_A [(y, .inr (15, [.int (ki mo), .null, .int (ki 0)]))] sz) := by
  refine Met.ofW (cc := cJxc12de_init_da8c8) (maxL := 1) (ret := none) (by decide) rfl ?_
  intro p e s m args below meth c s₁ B hml hv
  obtain ⟨rfl, hsz, hP, hK, hD0, hN, hZ⟩ := hv
  subst hsz
  have hx := B.exec
  have hb := B.bytes
  have hr := B.returns
  have hts : ∀ w ∈ xTB, w.before ([.ref y] : List Value).toArray s = true := fun w hw => atoms_spec (ws := Cond.code yJxc12de_init_da8c8 cJxc12de_init_da8c8 1 none :: xTB) B.pre w (List.mem_cons_of_mem _ hw)
  have hown : s.vm.findClass RJxc12de = some m.cls := findClass_of_methodNamed B.named
  have hlocks := B.notSynchronized
  have hl := lv_entry ([.ref y]) (n := 1) (Nat.le_of_ble_eq_true rfl)
  rw [lg_entry_eq]
  generalize (lg_sl ([.ref y]) ++ List.replicate (1 - (lg_sl ([.ref y])).length) Slot.unset).toArray = ls at hl ⊢
  have hl : lv_has ls 1 [(0, .ref y)] := hl
  have hin : meth.name = "<init>" := (name_of_methodNamed B.named B.method).1
  have hD := hD0.self (sz := s.heap.size)
  generalize hAe : va_A [(y, .inr (15, [.int (ki mo), .null, .int (ki 0)]))] s.heap.size = A at hD hZ ⊢
  have hA : ∀ q : Nat, s.heap.size ≤ q → A q := fun q h => by rw [← hAe]; exact Or.inr h
  have hS : va_S A s.heap s.heap [] := va_S.rf
  have hP : va_P D vwCl [(y, .inr (15, [.int (ki mo), .null, .int (ki 0)]))] s.heap := hP
  refine lv_aload_n hx hb dJxc12de_init_da8c8_0 rfl (lv_at hl 0 rfl) ?_
  have hPc : va_P D vwCl ([(y, .inr (15, [.int (ki mo), .null, .int (ki 0)]))] ++ []) _ := hP
  have hDc : va_D A ([(y, .inr (15, [.int (ki mo), .null, .int (ki 0)]))] ++ []) := hD
  refine x_ctor hx hb hml hown hts (xgood (xw_mem 844 (by decide +kernel) rfl)) (xw_mem 44 (by decide +kernel) rfl) (xw_mem 842 (by decide +kernel) rfl) ⟨by decide, by decide, by decide +kernel⟩ rfl (xw_mem 843 (by decide +kernel) rfl) hPc hDc hS hA (rest := []) [] (c_ACI _) jP_bl (fun U hU hW => jP_to hPc hDc hS hA hK hN hZ hU hW) ⟨(Nat.le_of_ble_eq_true rfl), (Nat.le_of_ble_eq_true rfl)⟩ (Nat.le_of_ble_eq_true rfl) (Nat.le_of_ble_eq_true rfl) rfl hl.1 rfl (Nat.le_of_ble_eq_true rfl) dJxc12de_init_da8c8_1 (fun t H locs ht hB hJ hS => ?_)
  obtain ⟨hP1, hD1⟩ := hB
  rw [ht] at hP1
  obtain ⟨hP, hD⟩ := hJ _ hP1 hD1
  have hP := xP_perm hP List.perm_append_comm
  have hD := xD_perm hD List.perm_append_comm
  have hP : va_P D vwCl [(y, .inr (15, [.int (ki mo), .null, .int (ki 0)]))] H := hP
  have hD : va_D A [(y, .inr (15, [.int (ki mo), .null, .int (ki 0)]))] := hD
  refine lv_aload_n hx hb dJxc12de_init_da8c8_4 rfl (lv_at hl 0 rfl) ?_
  refine lv_iconst (v := ki 0) hx hb dJxc12de_init_da8c8_5 rfl ?_
  refine va_put (D := D) (ci := 15) (v := .int (ki 0)) (ty := .int) (C := RJx4a65c) (T := TJx4a65c) (N := 3) hx hb hts xin_Jx4a65c tyJx4a65c tyJx4a65c_ok nmJx4a65c hown hK hP hD hS 0 rfl rfl 0 (by decide) (hts _ (xw_mem 852 (by decide +kernel) rfl)) (fun _ h9 => h9) rfl (by decide +kernel) rfl rfl (Nat.le_of_ble_eq_true rfl) dJxc12de_init_da8c8_6 (fun H locs hP hD hS => ?_)
  have hP : va_P D vwCl [(y, .inr (15, [.int (ki 0), .null, .int (ki 0)]))] H := hP
  have hD : va_D A [(y, .inr (15, [.int (ki 0), .null, .int (ki 0)]))] := hD
  exact W.vret hx hb hr (fun t ht hW => ⟨⟨(), rfl, trivial, by rw [ht]; exact hP, hD⟩, hS.F ht⟩) hS.2.2 dJxc12de_init_da8c8_9
set_option maxHeartbeats 2000000 in
set_option maxRecDepth 20000 in
theorem c_ALI {y : Nat} (sz : Nat) : Met l yJx4a65c_init_da8c8 (Cond.code yJx4a65c_init_da8c8 cJx4a65c_init_da8c8 1 none :: xTB) ({ frames := 3, cells := 0, slots := 0, locals := 140 } : Room) (va_Pc [.ref y] (jP D cy mi zE zc ad [(y, .inr (15, [.int (ki 0), .null, .int (ki 0)]))] sz)) (va_Qv (S := Unit) (fun _ => True) (fun u t => va_P D vwCl [(y, .inr (15, [.int (ki 0), .ref zE, .int (ki 0)]))] t.heap ∧ va_D (va_A [(y, .inr (15, [.int (ki 0), .null, .int (ki 0)]))] sz) [(y, .inr (15, [.int (ki 0), .ref zE, .int (ki 0)]))]) (va_A [(y, .inr (15, [.int (ki 0), .null, .int (ki 0)]))] sz)) 0 0 (va_A [(y, .inr (15, [.int (ki 0), .null, .int (ki 0)]))] sz) := by
  refine Met.ofW (cc := cJx4a65c_init_da8c8) (maxL := 1) (ret := none) (by decide) rfl ?_
  intro p e s m args below meth c s₁ B hml hv
  obtain ⟨rfl, hsz, hP, hK, hD0, hN, hZ⟩ := hv
  subst hsz
  have hx := B.exec
  have hb := B.bytes
  have hr := B.returns
  have hts : ∀ w ∈ xTB, w.before ([.ref y] : List Value).toArray s = true := fun w hw => atoms_spec (ws := Cond.code yJx4a65c_init_da8c8 cJx4a65c_init_da8c8 1 none :: xTB) B.pre w (List.mem_cons_of_mem _ hw)
  have hown : s.vm.findClass RJx4a65c = some m.cls := findClass_of_methodNamed B.named
  have hlocks := B.notSynchronized
  have hl := lv_entry ([.ref y]) (n := 1) (Nat.le_of_ble_eq_true rfl)
  rw [lg_entry_eq]
  generalize (lg_sl ([.ref y]) ++ List.replicate (1 - (lg_sl ([.ref y])).length) Slot.unset).toArray = ls at hl ⊢
  have hl : lv_has ls 1 [(0, .ref y)] := hl
  have hin : meth.name = "<init>" := (name_of_methodNamed B.named B.method).1
  have hD := hD0.self (sz := s.heap.size)
  generalize hAe : va_A [(y, .inr (15, [.int (ki 0), .null, .int (ki 0)]))] s.heap.size = A at hD hZ ⊢
  have hA : ∀ q : Nat, s.heap.size ≤ q → A q := fun q h => by rw [← hAe]; exact Or.inr h
  have hS : va_S A s.heap s.heap [] := va_S.rf
  have hP : va_P D vwCl [(y, .inr (15, [.int (ki 0), .null, .int (ki 0)]))] s.heap := hP
  refine lv_aload_n hx hb dJx4a65c_init_da8c8_0 rfl (lv_at hl 0 rfl) ?_
  have hPc : va_P D vwCl ([] ++ [(y, .inr (15, [.int (ki 0), .null, .int (ki 0)]))]) _ := hP
  have hDc : va_D A ([] ++ [(y, .inr (15, [.int (ki 0), .null, .int (ki 0)]))]) := hD
  refine x_ctor hx hb hml hown hts (xgood (xw_mem 841 (by decide +kernel) rfl)) (xw_mem 45 (by decide +kernel) rfl) (xw_mem 839 (by decide +kernel) rfl) ⟨by decide, by decide, by decide +kernel⟩ rfl (xw_mem 840 (by decide +kernel) rfl) hPc hDc hS hA (rest := []) [] (c_ABI _) jP_bl (fun U hU hW => jP_to hPc hDc hS hA hK hN hZ hU hW) ⟨(Nat.le_of_ble_eq_true rfl), (Nat.le_of_ble_eq_true rfl)⟩ (Nat.le_of_ble_eq_true rfl) (Nat.le_of_ble_eq_true rfl) rfl hl.1 rfl (Nat.le_of_ble_eq_true rfl) dJx4a65c_init_da8c8_1 (fun t H locs ht hB hJ hS => ?_)
  obtain ⟨hP1, hD1⟩ := hB
  rw [ht] at hP1
  obtain ⟨hP, hD⟩ := hJ _ hP1 hD1
  have hP : va_P D vwCl [(y, .inr (15, [.int (ki 0), .null, .int (ki 0)]))] H := hP
  have hD : va_D A [(y, .inr (15, [.int (ki 0), .null, .int (ki 0)]))] := hD
  refine lv_aload_n hx hb dJx4a65c_init_da8c8_4 rfl (lv_at hl 0 rfl) ?_
  refine va_gets hx hb hZ.1 hS hown (hts _ (xw_mem 846 (by decide +kernel) rfl)) (fun _ h9 => h9) dJx4a65c_init_da8c8_5 ?_
  refine va_put (D := D) (ci := 15) (v := .ref zE) (ty := (.array (.object "java/lang/Object"))) (C := RJx4a65c) (T := TJx4a65c) (N := 3) hx hb hts xin_Jx4a65c tyJx4a65c tyJx4a65c_ok nmJx4a65c hown hK hP hD hS 0 rfl rfl 1 (by decide) (hts _ (xw_mem 848 (by decide +kernel) rfl)) (fun _ h9 => h9) rfl (by decide +kernel) rfl rfl (Nat.le_of_ble_eq_true rfl) dJx4a65c_init_da8c8_8 (fun H locs hP hD hS => ?_)
  have hP : va_P D vwCl [(y, .inr (15, [.int (ki 0), .ref zE, .int (ki 0)]))] H := hP
  have hD : va_D A [(y, .inr (15, [.int (ki 0), .ref zE, .int (ki 0)]))] := hD
  exact W.vret hx hb hr (fun t ht hW => ⟨⟨(), rfl, trivial, by rw [ht]; exact hP, hD⟩, hS.F ht⟩) hS.2.2 dJx4a65c_init_da8c8_11
set_option maxHeartbeats 2000000 in
set_option maxRecDepth 20000 in
theorem c_valueOf {k : Int} (k0 : -128 ≤ k) (k1 : k ≤ 127) (sz : Nat) : Met l yJ6_valueOf_2dffe (Cond.code yJ6_valueOf_2dffe cJ6_valueOf_2dffe 1 (some (.object "java/lang/Integer")) :: xTB) ({ frames := 1, cells := 0, slots := 0, locals := 30 } : Room) (va_Pc [.int (ki k)] (jP D cy mi zE zc ad [] sz)) (va_Qr (S := Unit) (fun _ => True) (fun u a t => a = ad (k + 128).toNat) (va_A [] sz)) 0 0 (va_A [] sz) := by
  refine Met.ofW (cc := cJ6_valueOf_2dffe) (maxL := 1) (ret := (some (.object "java/lang/Integer"))) (by decide) rfl ?_
  intro p e s m args below meth c s₁ B hml hv
  obtain ⟨rfl, hsz, hP, hK, hD0, hN, hZ⟩ := hv
  subst hsz
  have hx := B.exec
  have hb := B.bytes
  have hr := B.returns
  have hts : ∀ w ∈ xTB, w.before ([.int (ki k)] : List Value).toArray s = true := fun w hw => atoms_spec (ws := Cond.code yJ6_valueOf_2dffe cJ6_valueOf_2dffe 1 (some (.object "java/lang/Integer")) :: xTB) B.pre w (List.mem_cons_of_mem _ hw)
  have hown : s.vm.findClass RJ6 = some m.cls := findClass_of_methodNamed B.named
  have hlocks := B.notSynchronized
  have hl := lv_entry ([.int (ki k)]) (n := 1) (Nat.le_of_ble_eq_true rfl)
  rw [lg_entry_eq]
  generalize (lg_sl ([.int (ki k)]) ++ List.replicate (1 - (lg_sl ([.int (ki k)])).length) Slot.unset).toArray = ls at hl ⊢
  have hl : lv_has ls 1 [(0, .int (ki k))] := hl
  have hD := hD0.self (sz := s.heap.size)
  generalize hAe : va_A [] s.heap.size = A at hD hZ ⊢
  have hA : ∀ q : Nat, s.heap.size ≤ q → A q := fun q h => by rw [← hAe]; exact Or.inr h
  have hS : va_S A s.heap s.heap [] := va_S.rf
  have hP : va_P D vwCl [] s.heap := hP
  refine lv_iload_n hx hb dJ6_valueOf_2dffe_0 rfl (lv_at hl 0 rfl) ?_
  refine lv_bipush (v := ki (-128)) hx hb dJ6_valueOf_2dffe_1 rfl ?_
  refine kv_icmp_lt_f (tgt := 23) hx hb (by omega) (by omega) (by omega) (by omega) (by omega) dJ6_valueOf_2dffe_3 (by decide) ?_
  refine lv_iload_n hx hb dJ6_valueOf_2dffe_6 rfl (lv_at hl 0 rfl) ?_
  refine va_gets hx hb hZ.2.2.1 hS hown (hts _ (xw_mem 870 (by decide +kernel) rfl)) (fun _ h9 => h9) dJ6_valueOf_2dffe_7 ?_
  refine kv_icmp_gt_f (tgt := 23) hx hb (by omega) (by omega) (by omega) (by omega) (by omega) dJ6_valueOf_2dffe_10 (by decide) ?_
  refine va_gets hx hb hZ.2.2.2.1 hS hown (hts _ (xw_mem 872 (by decide +kernel) rfl)) (fun _ h9 => h9) dJ6_valueOf_2dffe_13 ?_
  refine lv_iload_n hx hb dJ6_valueOf_2dffe_16 rfl (lv_at hl 0 rfl) ?_
  refine lv_sipush (v := ki 128) hx hb dJ6_valueOf_2dffe_17 rfl ?_
  refine kv_add (r := k + 128) hx hb rfl dJ6_valueOf_2dffe_20 ?_
  refine vb_tq hx hb hZ.2.2.2.2.1 hS (vin (by omega) (by omega) (by omega)) (v := .ref (ad (k + 128).toNat)) (by show Value.ref (ad (ki (k + 128)).toNatClampNeg) = _; rw [kcl (by omega) (by omega)]) dJ6_valueOf_2dffe_21 ?_
  exact W.aret (v := .ref (ad (k + 128).toNat)) (rt := .object "java/lang/Integer") hx hb hr (Or.inl ⟨_, rfl⟩) (Or.inr ⟨_, rfl⟩) (fun t ht hW => ⟨⟨(), _, rfl, trivial, rfl⟩, hS.F ht⟩) hS.2.2 dJ6_valueOf_2dffe_22
set_option maxHeartbeats 2000000 in
set_option maxRecDepth 20000 in
theorem c_intValue {k : Nat} (hk : k < 256) (sz : Nat) : Met l yJ6_intValue_8abf5 (Cond.code yJ6_intValue_8abf5 cJ6_intValue_8abf5 1 (some .int) :: xTB) ({ frames := 1, cells := 0, slots := 0, locals := 30 } : Room) (va_Pc [.ref (ad k)] (jP D cy mi zE zc ad [] sz)) (va_Qi (S := Unit) (fun r _ => r = ki ((k : Int) - 128)) (fun u t => True) (va_A [] sz)) 0 0 (va_A [] sz) := by
  refine Met.ofW (cc := cJ6_intValue_8abf5) (maxL := 1) (ret := (some .int)) (by decide) rfl ?_
  intro p e s m args below meth c s₁ B hml hv
  obtain ⟨rfl, hsz, hP, hK, hD0, hN, hZ⟩ := hv
  subst hsz
  have hx := B.exec
  have hb := B.bytes
  have hr := B.returns
  have hts : ∀ w ∈ xTB, w.before ([.ref (ad k)] : List Value).toArray s = true := fun w hw => atoms_spec (ws := Cond.code yJ6_intValue_8abf5 cJ6_intValue_8abf5 1 (some .int) :: xTB) B.pre w (List.mem_cons_of_mem _ hw)
  have hown : s.vm.findClass RJ6 = some m.cls := findClass_of_methodNamed B.named
  have hlocks := B.notSynchronized
  have hl := lv_entry ([.ref (ad k)]) (n := 1) (Nat.le_of_ble_eq_true rfl)
  rw [lg_entry_eq]
  generalize (lg_sl ([.ref (ad k)]) ++ List.replicate (1 - (lg_sl ([.ref (ad k)])).length) Slot.unset).toArray = ls at hl ⊢
  have hl : lv_has ls 1 [(0, .ref (ad k))] := hl
  have hD := hD0.self (sz := s.heap.size)
  generalize hAe : va_A [] s.heap.size = A at hD hZ ⊢
  have hA : ∀ q : Nat, s.heap.size ≤ q → A q := fun q h => by rw [← hAe]; exact Or.inr h
  have hS : va_S A s.heap s.heap [] := va_S.rf
  have hP : va_P D vwCl [] s.heap := hP
  refine lv_aload_n hx hb dJ6_intValue_8abf5_0 rfl (lv_at hl 0 rfl) ?_
  have hbx : vb_bx [] (fun _ => (0 : Int32)) ad (ad k) (ki ((k : Int) - 128)) := Or.inr ⟨k, hk, rfl, by rw [← ki_sub]; show ki (k : Int) - ki 128 = Int32.ofNat k - 128; rw [← nI_ki (show k < 2147483648 by omega)]; rfl⟩
  refine vb_get (ci := 13) (T := TJ6) (X := []) (LP := []) (pv := fun _ => 0) hx hb hts xin_J6 hown hZ.2.2.2.2.2 hS hK (fun k q h => by simp [va_pl] at h) rfl ⟨rfl, rfl, rfl⟩ hbx (hts _ (xw_mem 883 (by decide +kernel) rfl)) (fun _ h9 => h9) dJ6_intValue_8abf5_1 ?_
  exact W.iret (v := ki ((k : Int) - 128)) hx hb hr (fun t ht hW => ⟨⟨_, (), rfl, rfl, trivial⟩, hS.F ht⟩) hS.2.2 dJ6_intValue_8abf5_4
set_option maxHeartbeats 2000000 in
set_option maxRecDepth 20000 in
theorem c_newLen {x b : Int} (x0 : 0 ≤ x) (x1 : x ≤ 1000) (b0 : 1 ≤ b) (b1 : b ≤ 1000) (sz : Nat) : Met l yJ8_newLength_cabcc (Cond.code yJ8_newLength_cabcc cJ8_newLength_cabcc 4 (some .int) :: xTB) ({ frames := 1, cells := 0, slots := 0, locals := 60 } : Room) (va_Pc [.int (ki x), .int (ki 1), .int (ki b)] (jP D cy mi zE zc ad [] sz)) (va_Qi (S := Unit) (fun r _ => r = ki (x + b)) (fun u t => True) (va_A [] sz)) 0 0 (va_A [] sz) := by
  refine Met.ofW (cc := cJ8_newLength_cabcc) (maxL := 4) (ret := (some .int)) (by decide) rfl ?_
  intro p e s m args below meth c s₁ B hml hv
  obtain ⟨rfl, hsz, hP, hK, hD0, hN, hZ⟩ := hv
  subst hsz
  have hx := B.exec
  have hb := B.bytes
  have hr := B.returns
  have hts : ∀ w ∈ xTB, w.before ([.int (ki x), .int (ki 1), .int (ki b)] : List Value).toArray s = true := fun w hw => atoms_spec (ws := Cond.code yJ8_newLength_cabcc cJ8_newLength_cabcc 4 (some .int) :: xTB) B.pre w (List.mem_cons_of_mem _ hw)
  have hown : s.vm.findClass RJ8 = some m.cls := findClass_of_methodNamed B.named
  have hlocks := B.notSynchronized
  have hl := lv_entry ([.int (ki x), .int (ki 1), .int (ki b)]) (n := 4) (Nat.le_of_ble_eq_true rfl)
  rw [lg_entry_eq]
  generalize (lg_sl ([.int (ki x), .int (ki 1), .int (ki b)]) ++ List.replicate (4 - (lg_sl ([.int (ki x), .int (ki 1), .int (ki b)])).length) Slot.unset).toArray = ls at hl ⊢
  have hl : lv_has ls 4 [(0, .int (ki x)), (1, .int (ki 1)), (2, .int (ki b))] := hl
  have hD := hD0.self (sz := s.heap.size)
  generalize hAe : va_A [] s.heap.size = A at hD hZ ⊢
  have hA : ∀ q : Nat, s.heap.size ≤ q → A q := fun q h => by rw [← hAe]; exact Or.inr h
  have hS : va_S A s.heap s.heap [] := va_S.rf
  have hP : va_P D vwCl [] s.heap := hP
  refine lv_iload_n hx hb dJ8_newLength_cabcc_0 rfl (lv_at hl 0 rfl) ?_
  refine lv_iload_n hx hb dJ8_newLength_cabcc_1 rfl (lv_at hl 1 rfl) ?_
  refine lv_iload_n hx hb dJ8_newLength_cabcc_2 rfl (lv_at hl 2 rfl) ?_
  refine va_mmax hx hb (hml.trans hl.1.symm) hown (hts _ (xw_mem 906 (by decide +kernel) rfl)) (hts _ (xw_mem 519 (by decide +kernel) rfl)) (hts _ (xw_mem 51 (by decide +kernel) rfl)) (hts _ (xw_mem 520 (by decide +kernel) rfl)) (Nat.le_of_ble_eq_true rfl) (Nat.le_of_ble_eq_true rfl) (Nat.zero_le _) (Nat.zero_le _) dJ8_newLength_cabcc_3 ?_
  rw [kmax (by omega) (by omega) (by omega) (by omega), show (if (1 : Int) < b then (b : Int) else 1) = b by omega]
  refine kv_add (r := x + b) hx hb rfl dJ8_newLength_cabcc_6 ?_
  refine lv_istore_n (lv' := [(3, .int (ki (x + b))), (0, .int (ki x)), (1, .int (ki 1)), (2, .int (ki b))]) hx hb dJ8_newLength_cabcc_7 rfl hl (by decide) rfl (fun ls hl => ?_)
  refine lv_iconst (v := ki 0) hx hb dJ8_newLength_cabcc_8 rfl ?_
  refine lv_iload_n hx hb dJ8_newLength_cabcc_9 rfl (lv_at hl 0 rfl) ?_
  refine kv_icmp_ge_f (tgt := 21) hx hb (by omega) (by omega) (by omega) (by omega) (by omega) dJ8_newLength_cabcc_10 (by decide) ?_
  refine lv_iload_n hx hb dJ8_newLength_cabcc_13 rfl (lv_at hl 0 rfl) ?_
  refine lv_ldc (v := ki 2147483639) hx hb hown (hts _ (xw_mem 907 (by decide +kernel) rfl)) dJ8_newLength_cabcc_14 ?_
  refine kv_icmp_gt_f (tgt := 21) hx hb (by omega) (by omega) (by omega) (by omega) (by omega) dJ8_newLength_cabcc_16 (by decide) ?_
  refine lv_iload_n hx hb dJ8_newLength_cabcc_19 rfl (lv_at hl 0 rfl) ?_
  exact W.iret (v := (ki (x + b))) hx hb hr (fun t ht hW => ⟨⟨_, (), rfl, rfl, trivial⟩, hS.F ht⟩) hS.2.2 dJ8_newLength_cabcc_20
theorem cpy_f {cap : Nat} (hc : cap < 1000) (f : Nat → Option Nat) : va_cpy f (fun _ => none) (ki 0).toNatClampNeg (ki 0).toNatClampNeg (ki (cap : Int)).toNatClampNeg = fun j => if j < cap then f j else none := by
  rw [kcl (by omega) (by omega), kcl (by omega) (by omega), Int.toNat_natCast]
  funext j
  show va_cpy f (fun _ => none) 0 0 cap j = _
  by_cases h : j < cap
  · rw [pk_cpy_in (Nat.zero_le _) (by omega), if_pos h]; congr 1; omega
  · rw [pk_cpy_out (by omega), if_neg h]
set_option maxHeartbeats 2000000 in
set_option maxRecDepth 20000 in
theorem c_copy3 {ea cap n : Nat} {f : Nat → Option Nat} (hc : cap ≤ n) (hn : n ≤ 100) (hf : ∀ (j y : Nat), f j = some y → ∃ k : Nat, k < 256 ∧ y = ad k) (sz : Nat) : Met l yJ7_copyOf_6403c (Cond.code yJ7_copyOf_6403c cJ7_copyOf_6403c 4 (some (.array (.object "java/lang/Object"))) :: xTB) ({ frames := 1, cells := 1, slots := 100, locals := 60 } : Room) (va_Pc [.ref ea, .int (ki (n : Int)), .ref mi] (jP D cy mi zE zc ad [(ea, .inl (cy 6, cap, .inr (.inr (.inr (.inr f)))))] sz)) (va_Qr (S := Nat) (fun _ => True) (fun u a t => a = u ∧ va_P D vwCl [(ea, .inl (cy 6, cap, .inr (.inr (.inr (.inr f))))), (u, .inl (cy 6, n, .inr (.inr (.inr (.inr (fun j => if j < cap then f j else none))))))] t.heap ∧ va_D (va_A [(ea, .inl (cy 6, cap, .inr (.inr (.inr (.inr f)))))] sz) [(ea, .inl (cy 6, cap, .inr (.inr (.inr (.inr f))))), (u, .inl (cy 6, n, .inr (.inr (.inr (.inr (fun j => if j < cap then f j else none))))))]) (va_A [(ea, .inl (cy 6, cap, .inr (.inr (.inr (.inr f)))))] sz)) 1 100 (va_A [(ea, .inl (cy 6, cap, .inr (.inr (.inr (.inr f)))))] sz) := by
  refine Met.ofW (cc := cJ7_copyOf_6403c) (maxL := 4) (ret := (some (.array (.object "java/lang/Object")))) (by decide) rfl ?_
  intro p e s m args below meth c s₁ B hml hv
  obtain ⟨rfl, hsz, hP, hK, hD0, hN, hZ⟩ := hv
  subst hsz
  have hx := B.exec
  have hb := B.bytes
  have hr := B.returns
  have hts : ∀ w ∈ xTB, w.before ([.ref ea, .int (ki (n : Int)), .ref mi] : List Value).toArray s = true := fun w hw => atoms_spec (ws := Cond.code yJ7_copyOf_6403c cJ7_copyOf_6403c 4 (some (.array (.object "java/lang/Object"))) :: xTB) B.pre w (List.mem_cons_of_mem _ hw)
  have hown : s.vm.findClass RJ7 = some m.cls := findClass_of_methodNamed B.named
  have hlocks := B.notSynchronized
  have hl := lv_entry ([.ref ea, .int (ki (n : Int)), .ref mi]) (n := 4) (Nat.le_of_ble_eq_true rfl)
  rw [lg_entry_eq]
  generalize (lg_sl ([.ref ea, .int (ki (n : Int)), .ref mi]) ++ List.replicate (4 - (lg_sl ([.ref ea, .int (ki (n : Int)), .ref mi])).length) Slot.unset).toArray = ls at hl ⊢
  have hl : lv_has ls 4 [(0, .ref ea), (1, .int (ki (n : Int))), (2, .ref mi)] := hl
  have hD := hD0.self (sz := s.heap.size)
  generalize hAe : va_A [(ea, .inl (cy 6, cap, .inr (.inr (.inr (.inr f)))))] s.heap.size = A at hD hZ ⊢
  have hA : ∀ q : Nat, s.heap.size ≤ q → A q := fun q h => by rw [← hAe]; exact Or.inr h
  have hS : va_S A s.heap s.heap [] := va_S.rf
  have hP : va_P D vwCl [(ea, .inl (cy 6, cap, .inr (.inr (.inr (.inr f)))))] s.heap := hP
  refine lv_aload_n hx hb dJ7_copyOf_6403c_0 rfl (lv_at hl 2 rfl) ?_
  refine va_ldcM hx hb hown (hts _ (xw_mem 937 (by decide +kernel) rfl)) hN.1 dJ7_copyOf_6403c_1 ?_
  refine lv_acmp_ne (rx := some mi) (ry := some mi) (tgt := 13) hx hb dJ7_copyOf_6403c_3 (by decide) (fun h => absurd rfl h) (fun _ => ?_)
  refine lv_iload_n hx hb dJ7_copyOf_6403c_6 rfl (lv_at hl 1 rfl) ?_
  refine x_newq (D := D) (N' := n) hx hb hown (hts _ (xw_mem 939 (by decide +kernel) rfl)) hN.2.1 hK 6 rfl hP hD hS hA (by rw [kl_0, ki_lt (by omega) (by omega) (by omega) (by omega)]; omega) (by rw [kcl (by omega) (by omega)]; omega) (by omega) (Nat.le_of_ble_eq_true rfl) (show 0 + n ≤ 100 by omega) dJ7_copyOf_6403c_7 (fun q7 H hP hD hS => ?_)
  refine W.widen (k := 1) (n := 100) (by omega) (by omega) ?_
  have hP : va_P D vwCl [(ea, .inl (cy 6, cap, .inr (.inr (.inr (.inr f))))), (q7, .inl (cy 6, n, .inr (.inr (.inr (.inr (fun _ => none))))))] H := hP
  have hD : va_D A [(ea, .inl (cy 6, cap, .inr (.inr (.inr (.inr f))))), (q7, .inl (cy 6, n, .inr (.inr (.inr (.inr (fun _ => none))))))] := hD
  refine lv_goto (tgt := 24) hx hb dJ7_copyOf_6403c_10 (by decide) ?_
  refine lv_astore_n (lv' := [(3, .ref q7), (0, .ref ea), (1, .int (ki (n : Int))), (2, .ref mi)]) hx hb dJ7_copyOf_6403c_24 rfl hl (by decide) rfl (fun ls hl => ?_)
  refine lv_aload_n hx hb dJ7_copyOf_6403c_25 rfl (lv_at hl 1 rfl) ?_
  refine lv_iconst (v := ki 0) hx hb dJ7_copyOf_6403c_26 rfl ?_
  refine lv_aload_n hx hb dJ7_copyOf_6403c_27 rfl (lv_at hl 0 rfl) ?_
  refine lv_iconst (v := ki 0) hx hb dJ7_copyOf_6403c_28 rfl ?_
  refine lv_aload_n hx hb dJ7_copyOf_6403c_29 rfl (lv_at hl 1 rfl) ?_
  refine va_alen (v := ki (cap : Int)) hx hb hK hP 0 6 rfl rfl (nI_ki (by omega)) dJ7_copyOf_6403c_30 ?_
  refine lv_iload_n hx hb dJ7_copyOf_6403c_31 rfl (lv_at hl 2 rfl) ?_
  refine va_mmin hx hb (hml.trans hl.1.symm) hown (hts _ (xw_mem 940 (by decide +kernel) rfl)) (hts _ (xw_mem 516 (by decide +kernel) rfl)) (hts _ (xw_mem 51 (by decide +kernel) rfl)) (hts _ (xw_mem 517 (by decide +kernel) rfl)) (Nat.le_of_ble_eq_true rfl) (Nat.le_of_ble_eq_true rfl) (Nat.le_of_ble_eq_true rfl) (Nat.le_of_ble_eq_true rfl) dJ7_copyOf_6403c_32 ?_
  rw [kmin (by omega) (by omega) (by omega) (by omega), show (if ((n : Int) : Int) < (cap : Int) then ((n : Int) : Int) else (cap : Int)) = (cap : Int) by omega]
  refine va_copyq (D := D) (C := "java/lang/Integer") hx hb (hml.trans hl.1.symm) hown (hts _ (xw_mem 941 (by decide +kernel) rfl)) (hts _ (xw_mem 469 (by decide +kernel) rfl)) (hts _ (xw_mem 468 (by decide +kernel) rfl)) (hts _ (xw_mem 42 (by decide +kernel) rfl)) hK hP hD hS 0 1 6 6 rfl rfl rfl rfl (sp := ki 0) (dp := ki 0) (n := ki (cap : Int)) (by decide) (by decide) (by rw [kl_0, ki_lt (by omega) (by omega) (by omega) (by omega)]; omega) (by rw [kcl (by omega) (by omega), kcl (by omega) (by omega)]; omega) (by rw [kcl (by omega) (by omega), kcl (by omega) (by omega)]; omega) (fun i hi y hy => by
    obtain ⟨k, hk, rfl⟩ := hf _ _ hy
    exact vb_recv (X := []) (LP := []) (p := fun _ => 0) (D := D) (cl := vwCl) (ci := 13) (n := 1) (T := TJ6) hZ.2.2.2.2.2 hS hK (fun k q h => by simp [va_pl] at h) rfl (Or.inr ⟨k, hk, rfl⟩)) (fun comp c0 h1 h2 => vb_asgC hN.2.2.2.1 comp c0 h1 h2) (Nat.le_of_ble_eq_true rfl) (Nat.le_of_ble_eq_true rfl) dJ7_copyOf_6403c_35 (fun H locs hP hD hS => ?_)
  have hP : va_P D vwCl [(ea, .inl (cy 6, cap, .inr (.inr (.inr (.inr f))))), (q7, .inl (cy 6, n, .inr (.inr (.inr (.inr (va_cpy f (fun _ => none) (ki 0).toNatClampNeg (ki 0).toNatClampNeg (ki (cap : Int)).toNatClampNeg))))))] H := hP
  have hD : va_D A [(ea, .inl (cy 6, cap, .inr (.inr (.inr (.inr f))))), (q7, .inl (cy 6, n, .inr (.inr (.inr (.inr (va_cpy f (fun _ => none) (ki 0).toNatClampNeg (ki 0).toNatClampNeg (ki (cap : Int)).toNatClampNeg))))))] := hD
  rw [cpy_f (by omega)] at hP hD
  refine lv_aload_n hx hb dJ7_copyOf_6403c_38 rfl (lv_at hl 0 rfl) ?_
  exact W.aret (v := .ref q7) (rt := (.array (.object "java/lang/Object"))) hx hb hr (Or.inr ⟨_, rfl⟩) (Or.inr ⟨_, rfl⟩) (fun t ht hW => ⟨⟨q7, _, rfl, trivial, rfl, by rw [ht]; exact hP, hD⟩, hS.F ht⟩) hS.2.2 dJ7_copyOf_6403c_39
set_option maxHeartbeats 2000000 in
set_option maxRecDepth 20000 in
theorem c_copy2 {ea cap n : Nat} {f : Nat → Option Nat} (hc : cap ≤ n) (hn : n ≤ 100) (hf : ∀ (j y : Nat), f j = some y → ∃ k : Nat, k < 256 ∧ y = ad k) (sz : Nat) : Met l yJ7_copyOf_1904c (Cond.code yJ7_copyOf_1904c cJ7_copyOf_1904c 2 (some (.array (.object "java/lang/Object"))) :: xTB) ({ frames := 2, cells := 1, slots := 100, locals := 100 } : Room) (va_Pc [.ref ea, .int (ki (n : Int))] (jP D cy mi zE zc ad [(ea, .inl (cy 6, cap, .inr (.inr (.inr (.inr f)))))] sz)) (va_Qr (S := Nat) (fun _ => True) (fun u a t => a = u ∧ va_P D vwCl [(ea, .inl (cy 6, cap, .inr (.inr (.inr (.inr f))))), (u, .inl (cy 6, n, .inr (.inr (.inr (.inr (fun j => if j < cap then f j else none))))))] t.heap ∧ va_D (va_A [(ea, .inl (cy 6, cap, .inr (.inr (.inr (.inr f)))))] sz) [(ea, .inl (cy 6, cap, .inr (.inr (.inr (.inr f))))), (u, .inl (cy 6, n, .inr (.inr (.inr (.inr (fun j => if j < cap then f j else none))))))]) (va_A [(ea, .inl (cy 6, cap, .inr (.inr (.inr (.inr f)))))] sz)) 1 100 (va_A [(ea, .inl (cy 6, cap, .inr (.inr (.inr (.inr f)))))] sz) := by
  refine Met.ofW (cc := cJ7_copyOf_1904c) (maxL := 2) (ret := (some (.array (.object "java/lang/Object")))) (by decide) rfl ?_
  intro p e s m args below meth c s₁ B hml hv
  obtain ⟨rfl, hsz, hP, hK, hD0, hN, hZ⟩ := hv
  subst hsz
  have hx := B.exec
  have hb := B.bytes
  have hr := B.returns
  have hts : ∀ w ∈ xTB, w.before ([.ref ea, .int (ki (n : Int))] : List Value).toArray s = true := fun w hw => atoms_spec (ws := Cond.code yJ7_copyOf_1904c cJ7_copyOf_1904c 2 (some (.array (.object "java/lang/Object"))) :: xTB) B.pre w (List.mem_cons_of_mem _ hw)
  have hown : s.vm.findClass RJ7 = some m.cls := findClass_of_methodNamed B.named
  have hlocks := B.notSynchronized
  have hl := lv_entry ([.ref ea, .int (ki (n : Int))]) (n := 2) (Nat.le_of_ble_eq_true rfl)
  rw [lg_entry_eq]
  generalize (lg_sl ([.ref ea, .int (ki (n : Int))]) ++ List.replicate (2 - (lg_sl ([.ref ea, .int (ki (n : Int))])).length) Slot.unset).toArray = ls at hl ⊢
  have hl : lv_has ls 2 [(0, .ref ea), (1, .int (ki (n : Int)))] := hl
  have hD := hD0.self (sz := s.heap.size)
  generalize hAe : va_A [(ea, .inl (cy 6, cap, .inr (.inr (.inr (.inr f)))))] s.heap.size = A at hD hZ ⊢
  have hA : ∀ q : Nat, s.heap.size ≤ q → A q := fun q h => by rw [← hAe]; exact Or.inr h
  have hS : va_S A s.heap s.heap [] := va_S.rf
  have hP : va_P D vwCl [(ea, .inl (cy 6, cap, .inr (.inr (.inr (.inr f)))))] s.heap := hP
  refine lv_aload_n hx hb dJ7_copyOf_1904c_0 rfl (lv_at hl 0 rfl) ?_
  refine lv_iload_n hx hb dJ7_copyOf_1904c_1 rfl (lv_at hl 1 rfl) ?_
  refine lv_aload_n hx hb dJ7_copyOf_1904c_2 rfl (lv_at hl 0 rfl) ?_
  refine va_getC hx hb (hml.trans hl.1.symm) hown (hts _ (xw_mem 914 (by decide +kernel) rfl)) hN.2.2.1.use (hts _ (xw_mem 1152 (by decide +kernel) rfl)) (hts _ (xw_mem 915 (by decide +kernel) rfl)) (hts _ (xw_mem 933 (by decide +kernel) rfl)) hN.1 ⟨_, hP 0 _ rfl, rfl, va_nmO (hK.2 6 _ rfl).2 (by decide)⟩ (Nat.le_of_ble_eq_true rfl) (Nat.le_of_ble_eq_true rfl) dJ7_copyOf_1904c_3 ?_
  have hPc : va_P D vwCl ([] ++ [(ea, .inl (cy 6, cap, .inr (.inr (.inr (.inr f)))))]) _ := hP
  have hDc : va_D A ([] ++ [(ea, .inl (cy 6, cap, .inr (.inr (.inr (.inr f)))))]) := hD
  refine kc_Sr hx hb hml hown hts (⟨xw_mem 936 (by decide +kernel) rfl, xw_mem 52 (by decide +kernel) rfl, xw_mem 934 (by decide +kernel) rfl, by decide +kernel⟩ : xML RJ7 300 yJ7_copyOf_6403c cJ7_copyOf_6403c 4 (some (.array (.object "java/lang/Object"))) 3) (xw_mem 935 (by decide +kernel) rfl) hPc hDc hS hA [.ref ea, .int (ki (n : Int)), .ref mi] (rest := []) _ _ (c_copy3 hc hn hf _) jP_bl (fun U hU hW => jP_to hPc hDc hS hA hK hN hZ hU hW) ⟨(Nat.le_of_ble_eq_true rfl), (Nat.le_of_ble_eq_true rfl)⟩ (Nat.le_of_ble_eq_true rfl) (Nat.le_of_ble_eq_true rfl) rfl hl.1 rfl (Nat.le_of_ble_eq_true rfl) dJ7_copyOf_1904c_6 (fun r u t H locs ht hw hB hz hJ hS => ?_)
  obtain ⟨hra, hP1, hD1⟩ := hB
  subst hra
  rw [ht] at hP1
  obtain ⟨hP, hD⟩ := hJ _ hP1 hD1
  have hP : va_P D vwCl [(ea, .inl (cy 6, cap, .inr (.inr (.inr (.inr f))))), (r, .inl (cy 6, n, .inr (.inr (.inr (.inr (fun j => if j < cap then f j else none))))))] H := hP
  have hD : va_D A [(ea, .inl (cy 6, cap, .inr (.inr (.inr (.inr f))))), (r, .inl (cy 6, n, .inr (.inr (.inr (.inr (fun j => if j < cap then f j else none))))))] := hD
  exact W.aret (v := .ref r) (rt := (.array (.object "java/lang/Object"))) hx hb hr (Or.inr ⟨_, rfl⟩) (Or.inr ⟨_, rfl⟩) (fun t ht hW => ⟨⟨r, _, rfl, trivial, rfl, by rw [ht]; exact hP, hD⟩, hS.F ht⟩) hS.2.2 dJ7_copyOf_1904c_9
set_option maxHeartbeats 2000000 in
set_option maxRecDepth 20000 in
theorem c_grow1A {y : Nat} {mo : Int} (sz : Nat) : Met l yJx4a65c_grow_92f84 (Cond.code yJx4a65c_grow_92f84 cJx4a65c_grow_92f84 4 (some (.array (.object "java/lang/Object"))) :: xTB) ({ frames := 1, cells := 1, slots := 100, locals := 60 } : Room) (va_Pc [.ref y, .int (ki 1)] (jP D cy mi zE zc ad [(y, .inr (15, [.int (ki mo), .ref zE, .int (ki 0)]))] sz)) (va_Qr (S := Nat) (fun _ => True) (fun u a t => a = u ∧ va_P D vwCl [(y, .inr (15, [.int (ki mo), .ref u, .int (ki 0)])), (u, .inl (cy 6, 10, .inr (.inr (.inr (.inr (fun _ => none))))))] t.heap ∧ va_D (va_A [(y, .inr (15, [.int (ki mo), .ref zE, .int (ki 0)]))] sz) [(y, .inr (15, [.int (ki mo), .ref u, .int (ki 0)])), (u, .inl (cy 6, 10, .inr (.inr (.inr (.inr (fun _ => none))))))]) (va_A [(y, .inr (15, [.int (ki mo), .ref zE, .int (ki 0)]))] sz)) 1 100 (va_A [(y, .inr (15, [.int (ki mo), .ref zE, .int (ki 0)]))] sz) := by
  refine Met.ofW (cc := cJx4a65c_grow_92f84) (maxL := 4) (ret := (some (.array (.object "java/lang/Object")))) (by decide) rfl ?_
  intro p e s m args below meth c s₁ B hml hv
  obtain ⟨rfl, hsz, hP, hK, hD0, hN, hZ⟩ := hv
  subst hsz
  have hx := B.exec
  have hb := B.bytes
  have hr := B.returns
  have hts : ∀ w ∈ xTB, w.before ([.ref y, .int (ki 1)] : List Value).toArray s = true := fun w hw => atoms_spec (ws := Cond.code yJx4a65c_grow_92f84 cJx4a65c_grow_92f84 4 (some (.array (.object "java/lang/Object"))) :: xTB) B.pre w (List.mem_cons_of_mem _ hw)
  have hown : s.vm.findClass RJx4a65c = some m.cls := findClass_of_methodNamed B.named
  have hlocks := B.notSynchronized
  have hl := lv_entry ([.ref y, .int (ki 1)]) (n := 4) (Nat.le_of_ble_eq_true rfl)
  rw [lg_entry_eq]
  generalize (lg_sl ([.ref y, .int (ki 1)]) ++ List.replicate (4 - (lg_sl ([.ref y, .int (ki 1)])).length) Slot.unset).toArray = ls at hl ⊢
  have hl : lv_has ls 4 [(0, .ref y), (1, .int (ki 1))] := hl
  have hD := hD0.self (sz := s.heap.size)
  generalize hAe : va_A [(y, .inr (15, [.int (ki mo), .ref zE, .int (ki 0)]))] s.heap.size = A at hD hZ ⊢
  have hA : ∀ q : Nat, s.heap.size ≤ q → A q := fun q h => by rw [← hAe]; exact Or.inr h
  have hS : va_S A s.heap s.heap [] := va_S.rf
  have hP : va_P D vwCl [(y, .inr (15, [.int (ki mo), .ref zE, .int (ki 0)]))] s.heap := hP
  refine lv_aload_n hx hb dJx4a65c_grow_92f84_0 rfl (lv_at hl 0 rfl) ?_
  refine va_get (D := D) (ci := 15) (v := .ref zE) (C := RJx4a65c) (T := TJx4a65c) (N := 3) hx hb hts xin_Jx4a65c hown hK hP 0 rfl rfl 1 (by decide) (hts _ (xw_mem 848 (by decide +kernel) rfl)) (fun _ h9 => h9) rfl dJx4a65c_grow_92f84_1 ?_
  refine va_tlen (v := ki 0) hx hb hZ.2.1 hS rfl dJx4a65c_grow_92f84_4 ?_
  refine lv_istore_n (lv' := [(2, .int (ki 0)), (0, .ref y), (1, .int (ki 1))]) hx hb dJx4a65c_grow_92f84_5 rfl hl (by decide) rfl (fun ls hl => ?_)
  refine lv_iload_n hx hb dJx4a65c_grow_92f84_6 rfl (lv_at hl 0 rfl) ?_
  refine kv_if_gt_f (tgt := 20) hx hb (by omega) (by omega) (by omega) dJx4a65c_grow_92f84_7 (by decide) ?_
  refine lv_aload_n hx hb dJx4a65c_grow_92f84_10 rfl (lv_at hl 1 rfl) ?_
  refine va_get (D := D) (ci := 15) (v := .ref zE) (C := RJx4a65c) (T := TJx4a65c) (N := 3) hx hb hts xin_Jx4a65c hown hK hP 0 rfl rfl 1 (by decide) (hts _ (xw_mem 848 (by decide +kernel) rfl)) (fun _ h9 => h9) rfl dJx4a65c_grow_92f84_11 ?_
  refine va_gets hx hb hZ.1 hS hown (hts _ (xw_mem 846 (by decide +kernel) rfl)) (fun _ h9 => h9) dJx4a65c_grow_92f84_14 ?_
  refine lv_acmp_eq (rx := some zE) (ry := some zE) (tgt := 45) hx hb dJx4a65c_grow_92f84_17 (by decide) (fun _ => ?_) (fun h => absurd rfl h)
  refine lv_aload_n hx hb dJx4a65c_grow_92f84_45 rfl (lv_at hl 1 rfl) ?_
  refine lv_bipush (v := ki 10) hx hb dJx4a65c_grow_92f84_46 rfl ?_
  refine lv_iload_n hx hb dJx4a65c_grow_92f84_48 rfl (lv_at hl 2 rfl) ?_
  refine va_mmax hx hb (hml.trans hl.1.symm) hown (hts _ (xw_mem 942 (by decide +kernel) rfl)) (hts _ (xw_mem 519 (by decide +kernel) rfl)) (hts _ (xw_mem 51 (by decide +kernel) rfl)) (hts _ (xw_mem 520 (by decide +kernel) rfl)) (Nat.le_of_ble_eq_true rfl) (Nat.le_of_ble_eq_true rfl) (Nat.zero_le _) (Nat.zero_le _) dJx4a65c_grow_92f84_49 ?_
  rw [kmax (by omega) (by omega) (by omega) (by omega), show (if (10 : Int) < 1 then (1 : Int) else 10) = 10 by omega]
  refine x_newq (D := D) (N' := 10) hx hb hown (hts _ (xw_mem 943 (by decide +kernel) rfl)) hN.2.1 hK 6 rfl hP hD hS hA (by rw [kl_0, ki_lt (by omega) (by omega) (by omega) (by omega)]; omega) (by rw [kcl (by omega) (by omega)]; omega) (by omega) (Nat.le_of_ble_eq_true rfl) (Nat.le_of_ble_eq_true rfl) dJx4a65c_grow_92f84_52 (fun q52 H hP hD hS => ?_)
  have hP : va_P D vwCl [(y, .inr (15, [.int (ki mo), .ref zE, .int (ki 0)])), (q52, .inl (cy 6, 10, .inr (.inr (.inr (.inr (fun _ => none))))))] H := hP
  have hD : va_D A [(y, .inr (15, [.int (ki mo), .ref zE, .int (ki 0)])), (q52, .inl (cy 6, 10, .inr (.inr (.inr (.inr (fun _ => none))))))] := hD
  refine lv_dup_x1 hx hb dJx4a65c_grow_92f84_55 rfl rfl ?_
  refine va_put (D := D) (ci := 15) (v := .ref q52) (ty := (.array (.object "java/lang/Object"))) (C := RJx4a65c) (T := TJx4a65c) (N := 3) hx hb hts xin_Jx4a65c tyJx4a65c tyJx4a65c_ok nmJx4a65c hown hK hP hD hS 0 rfl rfl 1 (by decide) (hts _ (xw_mem 848 (by decide +kernel) rfl)) (fun _ h9 => h9) rfl (by decide +kernel) rfl rfl (Nat.le_of_ble_eq_true rfl) dJx4a65c_grow_92f84_56 (fun H locs hP hD hS => ?_)
  have hP : va_P D vwCl [(y, .inr (15, [.int (ki mo), .ref q52, .int (ki 0)])), (q52, .inl (cy 6, 10, .inr (.inr (.inr (.inr (fun _ => none))))))] H := hP
  have hD : va_D A [(y, .inr (15, [.int (ki mo), .ref q52, .int (ki 0)])), (q52, .inl (cy 6, 10, .inr (.inr (.inr (.inr (fun _ => none))))))] := hD
  have hP := hP.sub (ws' := [(y, .inr (15, [.int (ki mo), .ref q52, .int (ki 0)])), (q52, .inl (cy 6, 10, .inr (.inr (.inr (.inr (fun _ => none))))))]) [0, 1] rfl
  have hD := hD.sub (ws' := [(y, .inr (15, [.int (ki mo), .ref q52, .int (ki 0)])), (q52, .inl (cy 6, 10, .inr (.inr (.inr (.inr (fun _ => none))))))]) [0, 1] (by decide) rfl
  refine W.widen (k := 1) (n := 100) (by omega) (by omega) ?_
  exact W.aret (v := .ref q52) (rt := (.array (.object "java/lang/Object"))) hx hb hr (Or.inr ⟨_, rfl⟩) (Or.inr ⟨_, rfl⟩) (fun t ht hW => ⟨⟨q52, _, rfl, trivial, rfl, by rw [ht]; exact hP, hD⟩, hS.F ht⟩) hS.2.2 dJx4a65c_grow_92f84_59
set_option maxHeartbeats 2000000 in
set_option maxRecDepth 20000 in
theorem c_grow1B {y ea n : Nat} {mo : Int} {f : Nat → Option Nat} (n0 : 10 ≤ n) (n1 : n ≤ 30) (hf : ∀ (j y : Nat), f j = some y → ∃ k : Nat, k < 256 ∧ y = ad k) (sz : Nat) : Met l yJx4a65c_grow_92f84 (Cond.code yJx4a65c_grow_92f84 cJx4a65c_grow_92f84 4 (some (.array (.object "java/lang/Object"))) :: xTB) ({ frames := 3, cells := 1, slots := 100, locals := 140 } : Room) (va_Pc [.ref y, .int (ki ((n : Int) + 1))] (jP D cy mi zE zc ad [(y, .inr (15, [.int (ki mo), .ref ea, .int (ki (n : Int))])), (ea, .inl (cy 6, n, .inr (.inr (.inr (.inr f)))))] sz)) (va_Qr (S := Nat) (fun _ => True) (fun u a t => a = u ∧ va_P D vwCl [(y, .inr (15, [.int (ki mo), .ref u, .int (ki (n : Int))])), (u, .inl (cy 6, (n + n / 2), .inr (.inr (.inr (.inr (fun j => if j < n then f j else none))))))] t.heap ∧ va_D (va_A [(y, .inr (15, [.int (ki mo), .ref ea, .int (ki (n : Int))])), (ea, .inl (cy 6, n, .inr (.inr (.inr (.inr f)))))] sz) [(y, .inr (15, [.int (ki mo), .ref u, .int (ki (n : Int))])), (u, .inl (cy 6, (n + n / 2), .inr (.inr (.inr (.inr (fun j => if j < n then f j else none))))))]) (va_A [(y, .inr (15, [.int (ki mo), .ref ea, .int (ki (n : Int))])), (ea, .inl (cy 6, n, .inr (.inr (.inr (.inr f)))))] sz)) 1 100 (va_A [(y, .inr (15, [.int (ki mo), .ref ea, .int (ki (n : Int))])), (ea, .inl (cy 6, n, .inr (.inr (.inr (.inr f)))))] sz) := by
  refine Met.ofW (cc := cJx4a65c_grow_92f84) (maxL := 4) (ret := (some (.array (.object "java/lang/Object")))) (by decide) rfl ?_
  intro p e s m args below meth c s₁ B hml hv
  obtain ⟨rfl, hsz, hP, hK, hD0, hN, hZ⟩ := hv
  subst hsz
  have hx := B.exec
  have hb := B.bytes
  have hr := B.returns
  have hts : ∀ w ∈ xTB, w.before ([.ref y, .int (ki ((n : Int) + 1))] : List Value).toArray s = true := fun w hw => atoms_spec (ws := Cond.code yJx4a65c_grow_92f84 cJx4a65c_grow_92f84 4 (some (.array (.object "java/lang/Object"))) :: xTB) B.pre w (List.mem_cons_of_mem _ hw)
  have hown : s.vm.findClass RJx4a65c = some m.cls := findClass_of_methodNamed B.named
  have hlocks := B.notSynchronized
  have hl := lv_entry ([.ref y, .int (ki ((n : Int) + 1))]) (n := 4) (Nat.le_of_ble_eq_true rfl)
  rw [lg_entry_eq]
  generalize (lg_sl ([.ref y, .int (ki ((n : Int) + 1))]) ++ List.replicate (4 - (lg_sl ([.ref y, .int (ki ((n : Int) + 1))])).length) Slot.unset).toArray = ls at hl ⊢
  have hl : lv_has ls 4 [(0, .ref y), (1, .int (ki ((n : Int) + 1)))] := hl
  have hD := hD0.self (sz := s.heap.size)
  generalize hAe : va_A [(y, .inr (15, [.int (ki mo), .ref ea, .int (ki (n : Int))])), (ea, .inl (cy 6, n, .inr (.inr (.inr (.inr f)))))] s.heap.size = A at hD hZ ⊢
  have hA : ∀ q : Nat, s.heap.size ≤ q → A q := fun q h => by rw [← hAe]; exact Or.inr h
  have hS : va_S A s.heap s.heap [] := va_S.rf
  have hP : va_P D vwCl [(y, .inr (15, [.int (ki mo), .ref ea, .int (ki (n : Int))])), (ea, .inl (cy 6, n, .inr (.inr (.inr (.inr f)))))] s.heap := hP
  refine lv_aload_n hx hb dJx4a65c_grow_92f84_0 rfl (lv_at hl 0 rfl) ?_
  refine va_get (D := D) (ci := 15) (v := .ref ea) (C := RJx4a65c) (T := TJx4a65c) (N := 3) hx hb hts xin_Jx4a65c hown hK hP 0 rfl rfl 1 (by decide) (hts _ (xw_mem 848 (by decide +kernel) rfl)) (fun _ h9 => h9) rfl dJx4a65c_grow_92f84_1 ?_
  refine va_alen (v := ki (n : Int)) hx hb hK hP 1 6 rfl rfl (nI_ki (by omega)) dJx4a65c_grow_92f84_4 ?_
  refine lv_istore_n (lv' := [(2, .int (ki (n : Int))), (0, .ref y), (1, .int (ki ((n : Int) + 1)))]) hx hb dJx4a65c_grow_92f84_5 rfl hl (by decide) rfl (fun ls hl => ?_)
  refine lv_iload_n hx hb dJx4a65c_grow_92f84_6 rfl (lv_at hl 0 rfl) ?_
  refine kv_if_gt_t (tgt := 20) hx hb (by omega) (by omega) (by omega) dJx4a65c_grow_92f84_7 (by decide) ?_
  refine lv_iload_n hx hb dJx4a65c_grow_92f84_20 rfl (lv_at hl 0 rfl) ?_
  refine lv_iload_n hx hb dJx4a65c_grow_92f84_21 rfl (lv_at hl 2 rfl) ?_
  refine lv_iload_n hx hb dJx4a65c_grow_92f84_22 rfl (lv_at hl 0 rfl) ?_
  refine kv_sub (r := 1) hx hb (by omega) dJx4a65c_grow_92f84_23 ?_
  refine lv_iload_n hx hb dJx4a65c_grow_92f84_24 rfl (lv_at hl 0 rfl) ?_
  refine lv_iconst (v := ki 1) hx hb dJx4a65c_grow_92f84_25 rfl ?_
  refine kv_shr (r := (n : Int) / 2) hx hb 1 rfl (by omega) (by omega) (by omega) rfl dJx4a65c_grow_92f84_26 ?_
  have hPc : va_P D vwCl ([(y, .inr (15, [.int (ki mo), .ref ea, .int (ki (n : Int))])), (ea, .inl (cy 6, n, .inr (.inr (.inr (.inr f)))))] ++ []) _ := hP
  have hDc : va_D A ([(y, .inr (15, [.int (ki mo), .ref ea, .int (ki (n : Int))])), (ea, .inl (cy 6, n, .inr (.inr (.inr (.inr f)))))] ++ []) := hD
  refine kc_Si hx hb hml hown hts (⟨xw_mem 905 (by decide +kernel) rfl, xw_mem 50 (by decide +kernel) rfl, xw_mem 903 (by decide +kernel) rfl, by decide +kernel⟩ : xML RJx4a65c 73 yJ8_newLength_cabcc cJ8_newLength_cabcc 4 (some .int) 3) (xw_mem 904 (by decide +kernel) rfl) hPc hDc hS hA [.int (ki (n : Int)), .int (ki 1), .int (ki ((n : Int) / 2))] (rest := []) _ _ (c_newLen (x := (n : Int)) (b := (n : Int) / 2) (by omega) (by omega) (by omega) (by omega) _) jP_bl (fun U hU hW => jP_to hPc hDc hS hA hK hN hZ hU hW) ⟨(Nat.le_of_ble_eq_true rfl), (Nat.le_of_ble_eq_true rfl)⟩ (Nat.le_of_ble_eq_true rfl) (Nat.le_of_ble_eq_true rfl) rfl hl.1 rfl (Nat.le_of_ble_eq_true rfl) dJx4a65c_grow_92f84_27 (fun r u t H locs ht hw hB hz hJ hS => ?_)
  subst hw
  obtain ⟨hP, hD⟩ := hJ [] (fun k q h => by simp at h) ⟨fun i j p q h => by simp at h, fun k q h => by simp at h⟩
  rw [show (n : Int) + (n : Int) / 2 = ((n + n / 2 : Nat) : Int) by omega]
  have hP : va_P D vwCl [(y, .inr (15, [.int (ki mo), .ref ea, .int (ki (n : Int))])), (ea, .inl (cy 6, n, .inr (.inr (.inr (.inr f)))))] H := hP
  have hD : va_D A [(y, .inr (15, [.int (ki mo), .ref ea, .int (ki (n : Int))])), (ea, .inl (cy 6, n, .inr (.inr (.inr (.inr f)))))] := hD
  refine lv_istore_n (lv' := [(3, .int (ki ((n + n / 2 : Nat) : Int))), (2, .int (ki (n : Int))), (0, .ref y), (1, .int (ki ((n : Int) + 1)))]) hx hb dJx4a65c_grow_92f84_30 rfl hl (by decide) rfl (fun ls hl => ?_)
  refine lv_aload_n hx hb dJx4a65c_grow_92f84_31 rfl (lv_at hl 2 rfl) ?_
  refine lv_aload_n hx hb dJx4a65c_grow_92f84_32 rfl (lv_at hl 2 rfl) ?_
  refine va_get (D := D) (ci := 15) (v := .ref ea) (C := RJx4a65c) (T := TJx4a65c) (N := 3) hx hb hts xin_Jx4a65c hown hK hP 0 rfl rfl 1 (by decide) (hts _ (xw_mem 848 (by decide +kernel) rfl)) (fun _ h9 => h9) rfl dJx4a65c_grow_92f84_33 ?_
  refine lv_iload_n hx hb dJx4a65c_grow_92f84_36 rfl (lv_at hl 0 rfl) ?_
  have hPc : va_P D vwCl ([(y, .inr (15, [.int (ki mo), .ref ea, .int (ki (n : Int))]))] ++ [(ea, .inl (cy 6, n, .inr (.inr (.inr (.inr f)))))]) _ := hP
  have hDc : va_D A ([(y, .inr (15, [.int (ki mo), .ref ea, .int (ki (n : Int))]))] ++ [(ea, .inl (cy 6, n, .inr (.inr (.inr (.inr f)))))]) := hD
  refine kc_Sr hx hb hml hown hts (⟨xw_mem 913 (by decide +kernel) rfl, xw_mem 52 (by decide +kernel) rfl, xw_mem 911 (by decide +kernel) rfl, by decide +kernel⟩ : xML RJx4a65c 66 yJ7_copyOf_1904c cJ7_copyOf_1904c 2 (some (.array (.object "java/lang/Object"))) 2) (xw_mem 912 (by decide +kernel) rfl) hPc hDc hS hA [.ref ea, .int (ki ((n + n / 2 : Nat) : Int))] (rest := [.ref y]) _ _ (c_copy2 (cap := n) (n := n + n / 2) (by omega) (by omega) hf _) jP_bl (fun U hU hW => jP_to hPc hDc hS hA hK hN hZ hU hW) ⟨(Nat.le_of_ble_eq_true rfl), (Nat.le_of_ble_eq_true rfl)⟩ (Nat.le_of_ble_eq_true rfl) (Nat.le_of_ble_eq_true rfl) rfl hl.1 rfl (Nat.le_of_ble_eq_true rfl) dJx4a65c_grow_92f84_37 (fun r u t H locs ht hw hB hz hJ hS => ?_)
  obtain ⟨hra, hP1, hD1⟩ := hB
  subst hra
  rw [ht] at hP1
  obtain ⟨hP, hD⟩ := hJ _ hP1 hD1
  have hP := xP_perm hP List.perm_append_comm
  have hD := xD_perm hD List.perm_append_comm
  have hP : va_P D vwCl [(ea, .inl (cy 6, n, .inr (.inr (.inr (.inr f))))), (r, .inl (cy 6, (n + n / 2), .inr (.inr (.inr (.inr (fun j => if j < n then f j else none)))))), (y, .inr (15, [.int (ki mo), .ref ea, .int (ki (n : Int))]))] H := hP
  have hD : va_D A [(ea, .inl (cy 6, n, .inr (.inr (.inr (.inr f))))), (r, .inl (cy 6, (n + n / 2), .inr (.inr (.inr (.inr (fun j => if j < n then f j else none)))))), (y, .inr (15, [.int (ki mo), .ref ea, .int (ki (n : Int))]))] := hD
  refine lv_dup_x1 hx hb dJx4a65c_grow_92f84_40 rfl rfl ?_
  refine va_put (D := D) (ci := 15) (v := .ref r) (ty := (.array (.object "java/lang/Object"))) (C := RJx4a65c) (T := TJx4a65c) (N := 3) hx hb hts xin_Jx4a65c tyJx4a65c tyJx4a65c_ok nmJx4a65c hown hK hP hD hS 2 rfl rfl 1 (by decide) (hts _ (xw_mem 848 (by decide +kernel) rfl)) (fun _ h9 => h9) rfl (by decide +kernel) rfl rfl (Nat.le_of_ble_eq_true rfl) dJx4a65c_grow_92f84_41 (fun H locs hP hD hS => ?_)
  have hP : va_P D vwCl [(ea, .inl (cy 6, n, .inr (.inr (.inr (.inr f))))), (r, .inl (cy 6, (n + n / 2), .inr (.inr (.inr (.inr (fun j => if j < n then f j else none)))))), (y, .inr (15, [.int (ki mo), .ref r, .int (ki (n : Int))]))] H := hP
  have hD : va_D A [(ea, .inl (cy 6, n, .inr (.inr (.inr (.inr f))))), (r, .inl (cy 6, (n + n / 2), .inr (.inr (.inr (.inr (fun j => if j < n then f j else none)))))), (y, .inr (15, [.int (ki mo), .ref r, .int (ki (n : Int))]))] := hD
  have hP := hP.sub (ws' := [(y, .inr (15, [.int (ki mo), .ref r, .int (ki (n : Int))])), (r, .inl (cy 6, (n + n / 2), .inr (.inr (.inr (.inr (fun j => if j < n then f j else none))))))]) [2, 1] rfl
  have hD := hD.sub (ws' := [(y, .inr (15, [.int (ki mo), .ref r, .int (ki (n : Int))])), (r, .inl (cy 6, (n + n / 2), .inr (.inr (.inr (.inr (fun j => if j < n then f j else none))))))]) [2, 1] (by decide) rfl
  exact W.aret (v := .ref r) (rt := (.array (.object "java/lang/Object"))) hx hb hr (Or.inr ⟨_, rfl⟩) (Or.inr ⟨_, rfl⟩) (fun t ht hW => ⟨⟨r, _, rfl, trivial, rfl, by rw [ht]; exact hP, hD⟩, hS.F ht⟩) hS.2.2 dJx4a65c_grow_92f84_44
set_option maxHeartbeats 2000000 in
set_option maxRecDepth 20000 in
theorem c_grow0A {y : Nat} {mo : Int} (sz : Nat) : Met l yJx4a65c_grow_d5877 (Cond.code yJx4a65c_grow_d5877 cJx4a65c_grow_d5877 1 (some (.array (.object "java/lang/Object"))) :: xTB) ({ frames := 2, cells := 1, slots := 100, locals := 100 } : Room) (va_Pc [.ref y] (jP D cy mi zE zc ad [(y, .inr (15, [.int (ki mo), .ref zE, .int (ki 0)]))] sz)) (va_Qr (S := Nat) (fun _ => True) (fun u a t => a = u ∧ va_P D vwCl [(y, .inr (15, [.int (ki mo), .ref u, .int (ki 0)])), (u, .inl (cy 6, 10, .inr (.inr (.inr (.inr (fun _ => none))))))] t.heap ∧ va_D (va_A [(y, .inr (15, [.int (ki mo), .ref zE, .int (ki 0)]))] sz) [(y, .inr (15, [.int (ki mo), .ref u, .int (ki 0)])), (u, .inl (cy 6, 10, .inr (.inr (.inr (.inr (fun _ => none))))))]) (va_A [(y, .inr (15, [.int (ki mo), .ref zE, .int (ki 0)]))] sz)) 1 100 (va_A [(y, .inr (15, [.int (ki mo), .ref zE, .int (ki 0)]))] sz) := by
  refine Met.ofW (cc := cJx4a65c_grow_d5877) (maxL := 1) (ret := (some (.array (.object "java/lang/Object")))) (by decide) rfl ?_
  intro p e s m args below meth c s₁ B hml hv
  obtain ⟨rfl, hsz, hP, hK, hD0, hN, hZ⟩ := hv
  subst hsz
  have hx := B.exec
  have hb := B.bytes
  have hr := B.returns
  have hts : ∀ w ∈ xTB, w.before ([.ref y] : List Value).toArray s = true := fun w hw => atoms_spec (ws := Cond.code yJx4a65c_grow_d5877 cJx4a65c_grow_d5877 1 (some (.array (.object "java/lang/Object"))) :: xTB) B.pre w (List.mem_cons_of_mem _ hw)
  have hown : s.vm.findClass RJx4a65c = some m.cls := findClass_of_methodNamed B.named
  have hlocks := B.notSynchronized
  have hl := lv_entry ([.ref y]) (n := 1) (Nat.le_of_ble_eq_true rfl)
  rw [lg_entry_eq]
  generalize (lg_sl ([.ref y]) ++ List.replicate (1 - (lg_sl ([.ref y])).length) Slot.unset).toArray = ls at hl ⊢
  have hl : lv_has ls 1 [(0, .ref y)] := hl
  have hD := hD0.self (sz := s.heap.size)
  generalize hAe : va_A [(y, .inr (15, [.int (ki mo), .ref zE, .int (ki 0)]))] s.heap.size = A at hD hZ ⊢
  have hA : ∀ q : Nat, s.heap.size ≤ q → A q := fun q h => by rw [← hAe]; exact Or.inr h
  have hS : va_S A s.heap s.heap [] := va_S.rf
  have hP : va_P D vwCl [(y, .inr (15, [.int (ki mo), .ref zE, .int (ki 0)]))] s.heap := hP
  refine lv_aload_n hx hb dJx4a65c_grow_d5877_0 rfl (lv_at hl 0 rfl) ?_
  refine lv_aload_n hx hb dJx4a65c_grow_d5877_1 rfl (lv_at hl 0 rfl) ?_
  refine va_get (D := D) (ci := 15) (v := .int (ki 0)) (C := RJx4a65c) (T := TJx4a65c) (N := 3) hx hb hts xin_Jx4a65c hown hK hP 0 rfl rfl 2 (by decide) (hts _ (xw_mem 851 (by decide +kernel) rfl)) (fun _ h9 => h9) rfl dJx4a65c_grow_d5877_2 ?_
  refine lv_iconst (v := ki 1) hx hb dJx4a65c_grow_d5877_5 rfl ?_
  refine kv_add (r := 1) hx hb (by omega) dJx4a65c_grow_d5877_6 ?_
  have hPc : va_P D vwCl ([] ++ [(y, .inr (15, [.int (ki mo), .ref zE, .int (ki 0)]))]) _ := hP
  have hDc : va_D A ([] ++ [(y, .inr (15, [.int (ki mo), .ref zE, .int (ki 0)]))]) := hD
  refine kc_Vr hx hb hml hown hts (⟨xw_mem 902 (by decide +kernel) rfl, xw_mem 46 (by decide +kernel) rfl, xw_mem 899 (by decide +kernel) rfl, by decide +kernel⟩ : xML RJx4a65c 69 yJx4a65c_grow_92f84 cJx4a65c_grow_92f84 4 (some (.array (.object "java/lang/Object"))) 1) (xw_mem 901 (by decide +kernel) rfl) (xw_mem 20 (by decide +kernel) rfl) (va_recv hK hPc (rfl : vwCl[15]? = some (RJx4a65c, TJx4a65c, 3)) (show (([] : va_W) ++ ([(y, .inr (15, [.int (ki mo), .ref zE, .int (ki 0)]))] : va_W))[0]? = _ from rfl)) hPc hDc hS hA [.int (ki 1)] (rest := []) _ _ (c_grow1A _) jP_bl (fun U hU hW => jP_to hPc hDc hS hA hK hN hZ hU hW) ⟨(Nat.le_of_ble_eq_true rfl), (Nat.le_of_ble_eq_true rfl)⟩ (Nat.le_of_ble_eq_true rfl) (Nat.le_of_ble_eq_true rfl) rfl hl.1 rfl (Nat.le_of_ble_eq_true rfl) dJx4a65c_grow_d5877_7 (fun r u t H locs ht hw hB hz hJ hS => ?_)
  obtain ⟨hra, hP1, hD1⟩ := hB
  subst hra
  rw [ht] at hP1
  obtain ⟨hP, hD⟩ := hJ _ hP1 hD1
  have hP : va_P D vwCl [(y, .inr (15, [.int (ki mo), .ref r, .int (ki 0)])), (r, .inl (cy 6, 10, .inr (.inr (.inr (.inr (fun _ => none))))))] H := hP
  have hD : va_D A [(y, .inr (15, [.int (ki mo), .ref r, .int (ki 0)])), (r, .inl (cy 6, 10, .inr (.inr (.inr (.inr (fun _ => none))))))] := hD
  have hP := hP.sub (ws' := [(y, .inr (15, [.int (ki mo), .ref r, .int (ki 0)])), (r, .inl (cy 6, 10, .inr (.inr (.inr (.inr (fun _ => none))))))]) [0, 1] rfl
  have hD := hD.sub (ws' := [(y, .inr (15, [.int (ki mo), .ref r, .int (ki 0)])), (r, .inl (cy 6, 10, .inr (.inr (.inr (.inr (fun _ => none))))))]) [0, 1] (by decide) rfl
  exact W.aret (v := .ref r) (rt := (.array (.object "java/lang/Object"))) hx hb hr (Or.inr ⟨_, rfl⟩) (Or.inr ⟨_, rfl⟩) (fun t ht hW => ⟨⟨r, _, rfl, trivial, rfl, by rw [ht]; exact hP, hD⟩, hS.F ht⟩) hS.2.2 dJx4a65c_grow_d5877_10
set_option maxHeartbeats 2000000 in
set_option maxRecDepth 20000 in
theorem c_grow0B {y ea n : Nat} {mo : Int} {f : Nat → Option Nat} (n0 : 10 ≤ n) (n1 : n ≤ 30) (hf : ∀ (j y : Nat), f j = some y → ∃ k : Nat, k < 256 ∧ y = ad k) (sz : Nat) : Met l yJx4a65c_grow_d5877 (Cond.code yJx4a65c_grow_d5877 cJx4a65c_grow_d5877 1 (some (.array (.object "java/lang/Object"))) :: xTB) ({ frames := 4, cells := 1, slots := 100, locals := 180 } : Room) (va_Pc [.ref y] (jP D cy mi zE zc ad [(y, .inr (15, [.int (ki mo), .ref ea, .int (ki (n : Int))])), (ea, .inl (cy 6, n, .inr (.inr (.inr (.inr f)))))] sz)) (va_Qr (S := Nat) (fun _ => True) (fun u a t => a = u ∧ va_P D vwCl [(y, .inr (15, [.int (ki mo), .ref u, .int (ki (n : Int))])), (u, .inl (cy 6, (n + n / 2), .inr (.inr (.inr (.inr (fun j => if j < n then f j else none))))))] t.heap ∧ va_D (va_A [(y, .inr (15, [.int (ki mo), .ref ea, .int (ki (n : Int))])), (ea, .inl (cy 6, n, .inr (.inr (.inr (.inr f)))))] sz) [(y, .inr (15, [.int (ki mo), .ref u, .int (ki (n : Int))])), (u, .inl (cy 6, (n + n / 2), .inr (.inr (.inr (.inr (fun j => if j < n then f j else none))))))]) (va_A [(y, .inr (15, [.int (ki mo), .ref ea, .int (ki (n : Int))])), (ea, .inl (cy 6, n, .inr (.inr (.inr (.inr f)))))] sz)) 1 100 (va_A [(y, .inr (15, [.int (ki mo), .ref ea, .int (ki (n : Int))])), (ea, .inl (cy 6, n, .inr (.inr (.inr (.inr f)))))] sz) := by
  refine Met.ofW (cc := cJx4a65c_grow_d5877) (maxL := 1) (ret := (some (.array (.object "java/lang/Object")))) (by decide) rfl ?_
  intro p e s m args below meth c s₁ B hml hv
  obtain ⟨rfl, hsz, hP, hK, hD0, hN, hZ⟩ := hv
  subst hsz
  have hx := B.exec
  have hb := B.bytes
  have hr := B.returns
  have hts : ∀ w ∈ xTB, w.before ([.ref y] : List Value).toArray s = true := fun w hw => atoms_spec (ws := Cond.code yJx4a65c_grow_d5877 cJx4a65c_grow_d5877 1 (some (.array (.object "java/lang/Object"))) :: xTB) B.pre w (List.mem_cons_of_mem _ hw)
  have hown : s.vm.findClass RJx4a65c = some m.cls := findClass_of_methodNamed B.named
  have hlocks := B.notSynchronized
  have hl := lv_entry ([.ref y]) (n := 1) (Nat.le_of_ble_eq_true rfl)
  rw [lg_entry_eq]
  generalize (lg_sl ([.ref y]) ++ List.replicate (1 - (lg_sl ([.ref y])).length) Slot.unset).toArray = ls at hl ⊢
  have hl : lv_has ls 1 [(0, .ref y)] := hl
  have hD := hD0.self (sz := s.heap.size)
  generalize hAe : va_A [(y, .inr (15, [.int (ki mo), .ref ea, .int (ki (n : Int))])), (ea, .inl (cy 6, n, .inr (.inr (.inr (.inr f)))))] s.heap.size = A at hD hZ ⊢
  have hA : ∀ q : Nat, s.heap.size ≤ q → A q := fun q h => by rw [← hAe]; exact Or.inr h
  have hS : va_S A s.heap s.heap [] := va_S.rf
  have hP : va_P D vwCl [(y, .inr (15, [.int (ki mo), .ref ea, .int (ki (n : Int))])), (ea, .inl (cy 6, n, .inr (.inr (.inr (.inr f)))))] s.heap := hP
  refine lv_aload_n hx hb dJx4a65c_grow_d5877_0 rfl (lv_at hl 0 rfl) ?_
  refine lv_aload_n hx hb dJx4a65c_grow_d5877_1 rfl (lv_at hl 0 rfl) ?_
  refine va_get (D := D) (ci := 15) (v := .int (ki (n : Int))) (C := RJx4a65c) (T := TJx4a65c) (N := 3) hx hb hts xin_Jx4a65c hown hK hP 0 rfl rfl 2 (by decide) (hts _ (xw_mem 851 (by decide +kernel) rfl)) (fun _ h9 => h9) rfl dJx4a65c_grow_d5877_2 ?_
  refine lv_iconst (v := ki 1) hx hb dJx4a65c_grow_d5877_5 rfl ?_
  refine kv_add (r := (n : Int) + 1) hx hb rfl dJx4a65c_grow_d5877_6 ?_
  have hPc : va_P D vwCl ([] ++ [(y, .inr (15, [.int (ki mo), .ref ea, .int (ki (n : Int))])), (ea, .inl (cy 6, n, .inr (.inr (.inr (.inr f)))))]) _ := hP
  have hDc : va_D A ([] ++ [(y, .inr (15, [.int (ki mo), .ref ea, .int (ki (n : Int))])), (ea, .inl (cy 6, n, .inr (.inr (.inr (.inr f)))))]) := hD
  refine kc_Vr hx hb hml hown hts (⟨xw_mem 902 (by decide +kernel) rfl, xw_mem 46 (by decide +kernel) rfl, xw_mem 899 (by decide +kernel) rfl, by decide +kernel⟩ : xML RJx4a65c 69 yJx4a65c_grow_92f84 cJx4a65c_grow_92f84 4 (some (.array (.object "java/lang/Object"))) 1) (xw_mem 901 (by decide +kernel) rfl) (xw_mem 20 (by decide +kernel) rfl) (va_recv hK hPc (rfl : vwCl[15]? = some (RJx4a65c, TJx4a65c, 3)) (show (([] : va_W) ++ ([(y, .inr (15, [.int (ki mo), .ref ea, .int (ki (n : Int))])), (ea, .inl (cy 6, n, .inr (.inr (.inr (.inr f)))))] : va_W))[0]? = _ from rfl)) hPc hDc hS hA [.int (ki ((n : Int) + 1))] (rest := []) _ _ (c_grow1B n0 n1 hf _) jP_bl (fun U hU hW => jP_to hPc hDc hS hA hK hN hZ hU hW) ⟨(Nat.le_of_ble_eq_true rfl), (Nat.le_of_ble_eq_true rfl)⟩ (Nat.le_of_ble_eq_true rfl) (Nat.le_of_ble_eq_true rfl) rfl hl.1 rfl (Nat.le_of_ble_eq_true rfl) dJx4a65c_grow_d5877_7 (fun r u t H locs ht hw hB hz hJ hS => ?_)
  obtain ⟨hra, hP1, hD1⟩ := hB
  subst hra
  rw [ht] at hP1
  obtain ⟨hP, hD⟩ := hJ _ hP1 hD1
  have hP : va_P D vwCl [(y, .inr (15, [.int (ki mo), .ref r, .int (ki (n : Int))])), (r, .inl (cy 6, (n + n / 2), .inr (.inr (.inr (.inr (fun j => if j < n then f j else none))))))] H := hP
  have hD : va_D A [(y, .inr (15, [.int (ki mo), .ref r, .int (ki (n : Int))])), (r, .inl (cy 6, (n + n / 2), .inr (.inr (.inr (.inr (fun j => if j < n then f j else none))))))] := hD
  have hP := hP.sub (ws' := [(y, .inr (15, [.int (ki mo), .ref r, .int (ki (n : Int))])), (r, .inl (cy 6, (n + n / 2), .inr (.inr (.inr (.inr (fun j => if j < n then f j else none))))))]) [0, 1] rfl
  have hD := hD.sub (ws' := [(y, .inr (15, [.int (ki mo), .ref r, .int (ki (n : Int))])), (r, .inl (cy 6, (n + n / 2), .inr (.inr (.inr (.inr (fun j => if j < n then f j else none))))))]) [0, 1] (by decide) rfl
  exact W.aret (v := .ref r) (rt := (.array (.object "java/lang/Object"))) hx hb hr (Or.inr ⟨_, rfl⟩) (Or.inr ⟨_, rfl⟩) (fun t ht hW => ⟨⟨r, _, rfl, trivial, rfl, by rw [ht]; exact hP, hD⟩, hS.F ht⟩) hS.2.2 dJx4a65c_grow_d5877_10
end C2
