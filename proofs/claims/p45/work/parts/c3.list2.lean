/-! part c3: the JDK's list: adding, reading, iterating (made by wip/p45/gen_c3.py) -/
section C3
variable {l : Launch} {D : va_G} {cy : Nat → ClassId} {mi zE zc : Nat} {ad : Nat → Nat}
set_option maxHeartbeats 2000000 in
set_option maxRecDepth 20000 in
theorem c_add3E {y : Nat} {mo : Int} {k : Nat} (hk : k < 256) (sz : Nat) : Met l yJx4a65c_add_72be8 (Cond.code yJx4a65c_add_72be8 cJx4a65c_add_72be8 4 none :: xTB) ({ frames := 5, cells := 1, slots := 100, locals := 220 } : Room) (va_Pc [.ref y, .ref (ad k), .ref zE, .int (ki 0)] (jP D cy mi zE zc ad [(y, .inr (15, [.int (ki mo), .ref zE, .int (ki 0)]))] sz)) (va_Qv (S := Nat) (fun _ => True) (fun u t => va_P D vwCl [(y, .inr (15, [.int (ki mo), .ref u, .int (ki 1)])), (u, .inl (cy 6, 10, .inr (.inr (.inr (.inr (va_up (fun _ => none) 0 (some (ad k))))))))] t.heap ∧ va_D (va_A [(y, .inr (15, [.int (ki mo), .ref zE, .int (ki 0)]))] sz) [(y, .inr (15, [.int (ki mo), .ref u, .int (ki 1)])), (u, .inl (cy 6, 10, .inr (.inr (.inr (.inr (va_up (fun _ => none) 0 (some (ad k))))))))]) (va_A [(y, .inr (15, [.int (ki mo), .ref zE, .int (ki 0)]))] sz)) 1 100 (va_A [(y, .inr (15, [.int (ki mo), .ref zE, .int (ki 0)]))] sz) := by
  refine Met.ofW (cc := cJx4a65c_add_72be8) (maxL := 4) (ret := none) (by decide) rfl ?_
  intro p e s m args below meth c s₁ B hml hv
  obtain ⟨rfl, hsz, hP, hK, hD0, hN, hZ⟩ := hv
  subst hsz
  have hx := B.exec
  have hb := B.bytes
  have hr := B.returns
  have hts : ∀ w ∈ xTB, w.before ([.ref y, .ref (ad k), .ref zE, .int (ki 0)] : List Value).toArray s = true := fun w hw => atoms_spec (ws := Cond.code yJx4a65c_add_72be8 cJx4a65c_add_72be8 4 none :: xTB) B.pre w (List.mem_cons_of_mem _ hw)
  have hown : s.vm.findClass RJx4a65c = some m.cls := findClass_of_methodNamed B.named
  have hlocks := B.notSynchronized
  have hl := lv_entry ([.ref y, .ref (ad k), .ref zE, .int (ki 0)]) (n := 4) (Nat.le_of_ble_eq_true rfl)
  rw [lg_entry_eq]
  generalize (lg_sl ([.ref y, .ref (ad k), .ref zE, .int (ki 0)]) ++ List.replicate (4 - (lg_sl ([.ref y, .ref (ad k), .ref zE, .int (ki 0)])).length) Slot.unset).toArray = ls at hl ⊢
  have hl : lv_has ls 4 [(0, .ref y), (1, .ref (ad k)), (2, .ref zE), (3, .int (ki 0))] := hl
  have hD := hD0.self (sz := s.heap.size)
  generalize hAe : va_A [(y, .inr (15, [.int (ki mo), .ref zE, .int (ki 0)]))] s.heap.size = A at hD hZ ⊢
  have hA : ∀ q : Nat, s.heap.size ≤ q → A q := fun q h => by rw [← hAe]; exact Or.inr h
  have hS : va_S A s.heap s.heap [] := va_S.rf
  have hP : va_P D vwCl [(y, .inr (15, [.int (ki mo), .ref zE, .int (ki 0)]))] s.heap := hP
  refine lv_iload_n hx hb dJx4a65c_add_72be8_0 rfl (lv_at hl 3 rfl) ?_
  refine lv_aload_n hx hb dJx4a65c_add_72be8_1 rfl (lv_at hl 2 rfl) ?_
  refine va_tlen (v := ki 0) hx hb hZ.2.1 hS rfl dJx4a65c_add_72be8_2 ?_
  refine kv_icmp_ne_f (tgt := 11) hx hb (by omega) (by omega) (by omega) (by omega) (by omega) dJx4a65c_add_72be8_3 (by decide) ?_
  refine lv_aload_n hx hb dJx4a65c_add_72be8_6 rfl (lv_at hl 0 rfl) ?_
  have hPc : va_P D vwCl ([] ++ [(y, .inr (15, [.int (ki mo), .ref zE, .int (ki 0)]))]) _ := hP
  have hDc : va_D A ([] ++ [(y, .inr (15, [.int (ki mo), .ref zE, .int (ki 0)]))]) := hD
  refine kc_Vr hx hb hml hown hts (⟨xw_mem 898 (by decide +kernel) rfl, xw_mem 46 (by decide +kernel) rfl, xw_mem 895 (by decide +kernel) rfl, by decide +kernel⟩ : xML RJx4a65c 129 yJx4a65c_grow_d5877 cJx4a65c_grow_d5877 1 (some (.array (.object "java/lang/Object"))) 0) (xw_mem 897 (by decide +kernel) rfl) (xw_mem 19 (by decide +kernel) rfl) (va_recv hK hPc (rfl : vwCl[15]? = some (RJx4a65c, TJx4a65c, 3)) (show (([] : va_W) ++ ([(y, .inr (15, [.int (ki mo), .ref zE, .int (ki 0)]))] : va_W))[0]? = _ from rfl)) hPc hDc hS hA [] (rest := []) _ _ (c_grow0A _) jP_bl (fun U hU hW => jP_to hPc hDc hS hA hK hN hZ hU hW) ⟨(Nat.le_of_ble_eq_true rfl), (Nat.le_of_ble_eq_true rfl)⟩ (Nat.le_of_ble_eq_true rfl) (Nat.le_of_ble_eq_true rfl) rfl hl.1 rfl (Nat.le_of_ble_eq_true rfl) dJx4a65c_add_72be8_7 (fun r u t H locs ht hw hB hz hJ hS => ?_)
  obtain ⟨hra, hP1, hD1⟩ := hB
  subst hra
  rw [ht] at hP1
  obtain ⟨hP, hD⟩ := hJ _ hP1 hD1
  have hP : va_P D vwCl [(y, .inr (15, [.int (ki mo), .ref r, .int (ki 0)])), (r, .inl (cy 6, 10, .inr (.inr (.inr (.inr (fun _ => none))))))] H := hP
  have hD : va_D A [(y, .inr (15, [.int (ki mo), .ref r, .int (ki 0)])), (r, .inl (cy 6, 10, .inr (.inr (.inr (.inr (fun _ => none))))))] := hD
  refine lv_astore_n (lv' := [(2, .ref r), (0, .ref y), (1, .ref (ad k)), (3, .int (ki 0))]) hx hb dJx4a65c_add_72be8_10 rfl hl (by decide) rfl (fun ls hl => ?_)
  refine lv_aload_n hx hb dJx4a65c_add_72be8_11 rfl (lv_at hl 0 rfl) ?_
  refine lv_iload_n hx hb dJx4a65c_add_72be8_12 rfl (lv_at hl 3 rfl) ?_
  refine lv_aload_n hx hb dJx4a65c_add_72be8_13 rfl (lv_at hl 2 rfl) ?_
  refine vb_astq (C := "java/lang/Integer") hx hb hK hP hD hS 1 6 rfl rfl (vb_recv (X := []) (LP := []) (p := fun _ => 0) (D := D) (cl := vwCl) (ci := 13) (n := 1) (T := TJ6) hZ.2.2.2.2.2 hS hK (fun k q h => by simp [va_pl] at h) rfl (Or.inr ⟨k, hk, rfl⟩)) (fun comp c0 h1 h2 => vb_asgC hN.2.2.2.1 comp c0 h1 h2) (vin (by omega) (by omega) (by omega)) dJx4a65c_add_72be8_14 (fun H locs hP hD hS => ?_)
  rw [kcl (by omega) (by omega)] at hP hD
  have hP : va_P D vwCl [(y, .inr (15, [.int (ki mo), .ref r, .int (ki 0)])), (r, .inl (cy 6, 10, .inr (.inr (.inr (.inr (va_up (fun _ => none) 0 (some (ad k))))))))] H := hP
  have hD : va_D A [(y, .inr (15, [.int (ki mo), .ref r, .int (ki 0)])), (r, .inl (cy 6, 10, .inr (.inr (.inr (.inr (va_up (fun _ => none) 0 (some (ad k))))))))] := hD
  refine lv_aload_n hx hb dJx4a65c_add_72be8_15 rfl (lv_at hl 1 rfl) ?_
  refine lv_iload_n hx hb dJx4a65c_add_72be8_16 rfl (lv_at hl 3 rfl) ?_
  refine lv_iconst (v := ki 1) hx hb dJx4a65c_add_72be8_17 rfl ?_
  refine kv_add (r := 1) hx hb (by omega) dJx4a65c_add_72be8_18 ?_
  refine va_put (D := D) (ci := 15) (v := .int (ki 1)) (ty := .int) (C := RJx4a65c) (T := TJx4a65c) (N := 3) hx hb hts xin_Jx4a65c tyJx4a65c tyJx4a65c_ok nmJx4a65c hown hK hP hD hS 0 rfl rfl 2 (by decide) (hts _ (xw_mem 851 (by decide +kernel) rfl)) (fun _ h9 => h9) rfl (by decide +kernel) rfl rfl (Nat.le_of_ble_eq_true rfl) dJx4a65c_add_72be8_19 (fun H locs hP hD hS => ?_)
  have hP : va_P D vwCl [(y, .inr (15, [.int (ki mo), .ref r, .int (ki 1)])), (r, .inl (cy 6, 10, .inr (.inr (.inr (.inr (va_up (fun _ => none) 0 (some (ad k))))))))] H := hP
  have hD : va_D A [(y, .inr (15, [.int (ki mo), .ref r, .int (ki 1)])), (r, .inl (cy 6, 10, .inr (.inr (.inr (.inr (va_up (fun _ => none) 0 (some (ad k))))))))] := hD
  exact W.vret hx hb hr (fun t ht hW => ⟨⟨r, rfl, trivial, by rw [ht]; exact hP, hD⟩, hS.F ht⟩) hS.2.2 dJx4a65c_add_72be8_22
set_option maxHeartbeats 2000000 in
set_option maxRecDepth 20000 in
theorem c_add3R {y ea n cap : Nat} {mo : Int} {f : Nat → Option Nat} (n1 : n < cap) (n2 : cap ≤ 100) {k : Nat} (hk : k < 256) (sz : Nat) : Met l yJx4a65c_add_72be8 (Cond.code yJx4a65c_add_72be8 cJx4a65c_add_72be8 4 none :: xTB) ({ frames := 5, cells := 1, slots := 100, locals := 220 } : Room) (va_Pc [.ref y, .ref (ad k), .ref ea, .int (ki (n : Int))] (jP D cy mi zE zc ad [(y, .inr (15, [.int (ki mo), .ref ea, .int (ki (n : Int))])), (ea, .inl (cy 6, cap, .inr (.inr (.inr (.inr f)))))] sz)) (va_Qv (S := Nat) (fun _ => True) (fun u t => va_P D vwCl [(y, .inr (15, [.int (ki mo), .ref u, .int (ki ((n + 1 : Nat) : Int))])), (u, .inl (cy 6, cap, .inr (.inr (.inr (.inr (va_up f n (some (ad k))))))))] t.heap ∧ va_D (va_A [(y, .inr (15, [.int (ki mo), .ref ea, .int (ki (n : Int))])), (ea, .inl (cy 6, cap, .inr (.inr (.inr (.inr f)))))] sz) [(y, .inr (15, [.int (ki mo), .ref u, .int (ki ((n + 1 : Nat) : Int))])), (u, .inl (cy 6, cap, .inr (.inr (.inr (.inr (va_up f n (some (ad k))))))))]) (va_A [(y, .inr (15, [.int (ki mo), .ref ea, .int (ki (n : Int))])), (ea, .inl (cy 6, cap, .inr (.inr (.inr (.inr f)))))] sz)) 1 100 (va_A [(y, .inr (15, [.int (ki mo), .ref ea, .int (ki (n : Int))])), (ea, .inl (cy 6, cap, .inr (.inr (.inr (.inr f)))))] sz) := by
  refine Met.ofW (cc := cJx4a65c_add_72be8) (maxL := 4) (ret := none) (by decide) rfl ?_
  intro p e s m args below meth c s₁ B hml hv
  obtain ⟨rfl, hsz, hP, hK, hD0, hN, hZ⟩ := hv
  subst hsz
  have hx := B.exec
  have hb := B.bytes
  have hr := B.returns
  have hts : ∀ w ∈ xTB, w.before ([.ref y, .ref (ad k), .ref ea, .int (ki (n : Int))] : List Value).toArray s = true := fun w hw => atoms_spec (ws := Cond.code yJx4a65c_add_72be8 cJx4a65c_add_72be8 4 none :: xTB) B.pre w (List.mem_cons_of_mem _ hw)
  have hown : s.vm.findClass RJx4a65c = some m.cls := findClass_of_methodNamed B.named
  have hlocks := B.notSynchronized
  have hl := lv_entry ([.ref y, .ref (ad k), .ref ea, .int (ki (n : Int))]) (n := 4) (Nat.le_of_ble_eq_true rfl)
  rw [lg_entry_eq]
  generalize (lg_sl ([.ref y, .ref (ad k), .ref ea, .int (ki (n : Int))]) ++ List.replicate (4 - (lg_sl ([.ref y, .ref (ad k), .ref ea, .int (ki (n : Int))])).length) Slot.unset).toArray = ls at hl ⊢
  have hl : lv_has ls 4 [(0, .ref y), (1, .ref (ad k)), (2, .ref ea), (3, .int (ki (n : Int)))] := hl
  have hD := hD0.self (sz := s.heap.size)
  generalize hAe : va_A [(y, .inr (15, [.int (ki mo), .ref ea, .int (ki (n : Int))])), (ea, .inl (cy 6, cap, .inr (.inr (.inr (.inr f)))))] s.heap.size = A at hD hZ ⊢
  have hA : ∀ q : Nat, s.heap.size ≤ q → A q := fun q h => by rw [← hAe]; exact Or.inr h
  have hS : va_S A s.heap s.heap [] := va_S.rf
  have hP : va_P D vwCl [(y, .inr (15, [.int (ki mo), .ref ea, .int (ki (n : Int))])), (ea, .inl (cy 6, cap, .inr (.inr (.inr (.inr f)))))] s.heap := hP
  refine lv_iload_n hx hb dJx4a65c_add_72be8_0 rfl (lv_at hl 3 rfl) ?_
  refine lv_aload_n hx hb dJx4a65c_add_72be8_1 rfl (lv_at hl 2 rfl) ?_
  refine va_alen (v := ki (cap : Int)) hx hb hK hP 1 6 rfl rfl (nI_ki (by omega)) dJx4a65c_add_72be8_2 ?_
  refine kv_icmp_ne_t (tgt := 11) hx hb (by omega) (by omega) (by omega) (by omega) (by omega) dJx4a65c_add_72be8_3 (by decide) ?_
  refine lv_aload_n hx hb dJx4a65c_add_72be8_11 rfl (lv_at hl 2 rfl) ?_
  refine lv_iload_n hx hb dJx4a65c_add_72be8_12 rfl (lv_at hl 3 rfl) ?_
  refine lv_aload_n hx hb dJx4a65c_add_72be8_13 rfl (lv_at hl 1 rfl) ?_
  refine vb_astq (C := "java/lang/Integer") hx hb hK hP hD hS 1 6 rfl rfl (vb_recv (X := []) (LP := []) (p := fun _ => 0) (D := D) (cl := vwCl) (ci := 13) (n := 1) (T := TJ6) hZ.2.2.2.2.2 hS hK (fun k q h => by simp [va_pl] at h) rfl (Or.inr ⟨k, hk, rfl⟩)) (fun comp c0 h1 h2 => vb_asgC hN.2.2.2.1 comp c0 h1 h2) (vin (by omega) (by omega) (by omega)) dJx4a65c_add_72be8_14 (fun H locs hP hD hS => ?_)
  rw [kcl (by omega) (by omega)] at hP hD
  have hP : va_P D vwCl [(y, .inr (15, [.int (ki mo), .ref ea, .int (ki (n : Int))])), (ea, .inl (cy 6, cap, .inr (.inr (.inr (.inr (va_up f n (some (ad k))))))))] H := hP
  have hD : va_D A [(y, .inr (15, [.int (ki mo), .ref ea, .int (ki (n : Int))])), (ea, .inl (cy 6, cap, .inr (.inr (.inr (.inr (va_up f n (some (ad k))))))))] := hD
  refine lv_aload_n hx hb dJx4a65c_add_72be8_15 rfl (lv_at hl 0 rfl) ?_
  refine lv_iload_n hx hb dJx4a65c_add_72be8_16 rfl (lv_at hl 3 rfl) ?_
  refine lv_iconst (v := ki 1) hx hb dJx4a65c_add_72be8_17 rfl ?_
  refine kv_add (r := ((n + 1 : Nat) : Int)) hx hb (by omega) dJx4a65c_add_72be8_18 ?_
  refine va_put (D := D) (ci := 15) (v := .int (ki ((n + 1 : Nat) : Int))) (ty := .int) (C := RJx4a65c) (T := TJx4a65c) (N := 3) hx hb hts xin_Jx4a65c tyJx4a65c tyJx4a65c_ok nmJx4a65c hown hK hP hD hS 0 rfl rfl 2 (by decide) (hts _ (xw_mem 851 (by decide +kernel) rfl)) (fun _ h9 => h9) rfl (by decide +kernel) rfl rfl (Nat.le_of_ble_eq_true rfl) dJx4a65c_add_72be8_19 (fun H locs hP hD hS => ?_)
  have hP : va_P D vwCl [(y, .inr (15, [.int (ki mo), .ref ea, .int (ki ((n + 1 : Nat) : Int))])), (ea, .inl (cy 6, cap, .inr (.inr (.inr (.inr (va_up f n (some (ad k))))))))] H := hP
  have hD : va_D A [(y, .inr (15, [.int (ki mo), .ref ea, .int (ki ((n + 1 : Nat) : Int))])), (ea, .inl (cy 6, cap, .inr (.inr (.inr (.inr (va_up f n (some (ad k))))))))] := hD
  refine W.widen (k := 1) (n := 100) (by omega) (by omega) ?_
  exact W.vret hx hb hr (fun t ht hW => ⟨⟨ea, rfl, trivial, by rw [ht]; exact hP, hD⟩, hS.F ht⟩) hS.2.2 dJx4a65c_add_72be8_22
set_option maxHeartbeats 2000000 in
set_option maxRecDepth 20000 in
theorem c_add3G {y ea n : Nat} {mo : Int} {f : Nat → Option Nat} (n0 : 10 ≤ n) (n1 : n ≤ 30) (hf : ∀ (j y : Nat), f j = some y → ∃ k : Nat, k < 256 ∧ y = ad k) {k : Nat} (hk : k < 256) (sz : Nat) : Met l yJx4a65c_add_72be8 (Cond.code yJx4a65c_add_72be8 cJx4a65c_add_72be8 4 none :: xTB) ({ frames := 5, cells := 1, slots := 100, locals := 220 } : Room) (va_Pc [.ref y, .ref (ad k), .ref ea, .int (ki (n : Int))] (jP D cy mi zE zc ad [(y, .inr (15, [.int (ki mo), .ref ea, .int (ki (n : Int))])), (ea, .inl (cy 6, n, .inr (.inr (.inr (.inr f)))))] sz)) (va_Qv (S := Nat) (fun _ => True) (fun u t => va_P D vwCl [(y, .inr (15, [.int (ki mo), .ref u, .int (ki ((n + 1 : Nat) : Int))])), (u, .inl (cy 6, (n + n / 2), .inr (.inr (.inr (.inr (va_up (fun j => if j < n then f j else none) n (some (ad k))))))))] t.heap ∧ va_D (va_A [(y, .inr (15, [.int (ki mo), .ref ea, .int (ki (n : Int))])), (ea, .inl (cy 6, n, .inr (.inr (.inr (.inr f)))))] sz) [(y, .inr (15, [.int (ki mo), .ref u, .int (ki ((n + 1 : Nat) : Int))])), (u, .inl (cy 6, (n + n / 2), .inr (.inr (.inr (.inr (va_up (fun j => if j < n then f j else none) n (some (ad k))))))))]) (va_A [(y, .inr (15, [.int (ki mo), .ref ea, .int (ki (n : Int))])), (ea, .inl (cy 6, n, .inr (.inr (.inr (.inr f)))))] sz)) 1 100 (va_A [(y, .inr (15, [.int (ki mo), .ref ea, .int (ki (n : Int))])), (ea, .inl (cy 6, n, .inr (.inr (.inr (.inr f)))))] sz) := by
  refine Met.ofW (cc := cJx4a65c_add_72be8) (maxL := 4) (ret := none) (by decide) rfl ?_
  intro p e s m args below meth c s₁ B hml hv
  obtain ⟨rfl, hsz, hP, hK, hD0, hN, hZ⟩ := hv
  subst hsz
  have hx := B.exec
  have hb := B.bytes
  have hr := B.returns
  have hts : ∀ w ∈ xTB, w.before ([.ref y, .ref (ad k), .ref ea, .int (ki (n : Int))] : List Value).toArray s = true := fun w hw => atoms_spec (ws := Cond.code yJx4a65c_add_72be8 cJx4a65c_add_72be8 4 none :: xTB) B.pre w (List.mem_cons_of_mem _ hw)
  have hown : s.vm.findClass RJx4a65c = some m.cls := findClass_of_methodNamed B.named
  have hlocks := B.notSynchronized
  have hl := lv_entry ([.ref y, .ref (ad k), .ref ea, .int (ki (n : Int))]) (n := 4) (Nat.le_of_ble_eq_true rfl)
  rw [lg_entry_eq]
  generalize (lg_sl ([.ref y, .ref (ad k), .ref ea, .int (ki (n : Int))]) ++ List.replicate (4 - (lg_sl ([.ref y, .ref (ad k), .ref ea, .int (ki (n : Int))])).length) Slot.unset).toArray = ls at hl ⊢
  have hl : lv_has ls 4 [(0, .ref y), (1, .ref (ad k)), (2, .ref ea), (3, .int (ki (n : Int)))] := hl
  have hD := hD0.self (sz := s.heap.size)
  generalize hAe : va_A [(y, .inr (15, [.int (ki mo), .ref ea, .int (ki (n : Int))])), (ea, .inl (cy 6, n, .inr (.inr (.inr (.inr f)))))] s.heap.size = A at hD hZ ⊢
  have hA : ∀ q : Nat, s.heap.size ≤ q → A q := fun q h => by rw [← hAe]; exact Or.inr h
  have hS : va_S A s.heap s.heap [] := va_S.rf
  have hP : va_P D vwCl [(y, .inr (15, [.int (ki mo), .ref ea, .int (ki (n : Int))])), (ea, .inl (cy 6, n, .inr (.inr (.inr (.inr f)))))] s.heap := hP
  refine lv_iload_n hx hb dJx4a65c_add_72be8_0 rfl (lv_at hl 3 rfl) ?_
  refine lv_aload_n hx hb dJx4a65c_add_72be8_1 rfl (lv_at hl 2 rfl) ?_
  refine va_alen (v := ki (n : Int)) hx hb hK hP 1 6 rfl rfl (nI_ki (by omega)) dJx4a65c_add_72be8_2 ?_
  refine kv_icmp_ne_f (tgt := 11) hx hb (by omega) (by omega) (by omega) (by omega) (by omega) dJx4a65c_add_72be8_3 (by decide) ?_
  refine lv_aload_n hx hb dJx4a65c_add_72be8_6 rfl (lv_at hl 0 rfl) ?_
  have hPc : va_P D vwCl ([] ++ [(y, .inr (15, [.int (ki mo), .ref ea, .int (ki (n : Int))])), (ea, .inl (cy 6, n, .inr (.inr (.inr (.inr f)))))]) _ := hP
  have hDc : va_D A ([] ++ [(y, .inr (15, [.int (ki mo), .ref ea, .int (ki (n : Int))])), (ea, .inl (cy 6, n, .inr (.inr (.inr (.inr f)))))]) := hD
  refine kc_Vr hx hb hml hown hts (⟨xw_mem 898 (by decide +kernel) rfl, xw_mem 46 (by decide +kernel) rfl, xw_mem 895 (by decide +kernel) rfl, by decide +kernel⟩ : xML RJx4a65c 129 yJx4a65c_grow_d5877 cJx4a65c_grow_d5877 1 (some (.array (.object "java/lang/Object"))) 0) (xw_mem 897 (by decide +kernel) rfl) (xw_mem 19 (by decide +kernel) rfl) (va_recv hK hPc (rfl : vwCl[15]? = some (RJx4a65c, TJx4a65c, 3)) (show (([] : va_W) ++ ([(y, .inr (15, [.int (ki mo), .ref ea, .int (ki (n : Int))])), (ea, .inl (cy 6, n, .inr (.inr (.inr (.inr f)))))] : va_W))[0]? = _ from rfl)) hPc hDc hS hA [] (rest := []) _ _ (c_grow0B n0 n1 hf _) jP_bl (fun U hU hW => jP_to hPc hDc hS hA hK hN hZ hU hW) ⟨(Nat.le_of_ble_eq_true rfl), (Nat.le_of_ble_eq_true rfl)⟩ (Nat.le_of_ble_eq_true rfl) (Nat.le_of_ble_eq_true rfl) rfl hl.1 rfl (Nat.le_of_ble_eq_true rfl) dJx4a65c_add_72be8_7 (fun r u t H locs ht hw hB hz hJ hS => ?_)
  obtain ⟨hra, hP1, hD1⟩ := hB
  subst hra
  rw [ht] at hP1
  obtain ⟨hP, hD⟩ := hJ _ hP1 hD1
  have hP : va_P D vwCl [(y, .inr (15, [.int (ki mo), .ref r, .int (ki (n : Int))])), (r, .inl (cy 6, (n + n / 2), .inr (.inr (.inr (.inr (fun j => if j < n then f j else none))))))] H := hP
  have hD : va_D A [(y, .inr (15, [.int (ki mo), .ref r, .int (ki (n : Int))])), (r, .inl (cy 6, (n + n / 2), .inr (.inr (.inr (.inr (fun j => if j < n then f j else none))))))] := hD
  refine lv_astore_n (lv' := [(2, .ref r), (0, .ref y), (1, .ref (ad k)), (3, .int (ki (n : Int)))]) hx hb dJx4a65c_add_72be8_10 rfl hl (by decide) rfl (fun ls hl => ?_)
  refine lv_aload_n hx hb dJx4a65c_add_72be8_11 rfl (lv_at hl 0 rfl) ?_
  refine lv_iload_n hx hb dJx4a65c_add_72be8_12 rfl (lv_at hl 3 rfl) ?_
  refine lv_aload_n hx hb dJx4a65c_add_72be8_13 rfl (lv_at hl 2 rfl) ?_
  refine vb_astq (C := "java/lang/Integer") hx hb hK hP hD hS 1 6 rfl rfl (vb_recv (X := []) (LP := []) (p := fun _ => 0) (D := D) (cl := vwCl) (ci := 13) (n := 1) (T := TJ6) hZ.2.2.2.2.2 hS hK (fun k q h => by simp [va_pl] at h) rfl (Or.inr ⟨k, hk, rfl⟩)) (fun comp c0 h1 h2 => vb_asgC hN.2.2.2.1 comp c0 h1 h2) (vin (by omega) (by omega) (by omega)) dJx4a65c_add_72be8_14 (fun H locs hP hD hS => ?_)
  rw [kcl (by omega) (by omega)] at hP hD
  have hP : va_P D vwCl [(y, .inr (15, [.int (ki mo), .ref r, .int (ki (n : Int))])), (r, .inl (cy 6, (n + n / 2), .inr (.inr (.inr (.inr (va_up (fun j => if j < n then f j else none) n (some (ad k))))))))] H := hP
  have hD : va_D A [(y, .inr (15, [.int (ki mo), .ref r, .int (ki (n : Int))])), (r, .inl (cy 6, (n + n / 2), .inr (.inr (.inr (.inr (va_up (fun j => if j < n then f j else none) n (some (ad k))))))))] := hD
  refine lv_aload_n hx hb dJx4a65c_add_72be8_15 rfl (lv_at hl 1 rfl) ?_
  refine lv_iload_n hx hb dJx4a65c_add_72be8_16 rfl (lv_at hl 3 rfl) ?_
  refine lv_iconst (v := ki 1) hx hb dJx4a65c_add_72be8_17 rfl ?_
  refine kv_add (r := ((n + 1 : Nat) : Int)) hx hb (by omega) dJx4a65c_add_72be8_18 ?_
  refine va_put (D := D) (ci := 15) (v := .int (ki ((n + 1 : Nat) : Int))) (ty := .int) (C := RJx4a65c) (T := TJx4a65c) (N := 3) hx hb hts xin_Jx4a65c tyJx4a65c tyJx4a65c_ok nmJx4a65c hown hK hP hD hS 0 rfl rfl 2 (by decide) (hts _ (xw_mem 851 (by decide +kernel) rfl)) (fun _ h9 => h9) rfl (by decide +kernel) rfl rfl (Nat.le_of_ble_eq_true rfl) dJx4a65c_add_72be8_19 (fun H locs hP hD hS => ?_)
  have hP : va_P D vwCl [(y, .inr (15, [.int (ki mo), .ref r, .int (ki ((n + 1 : Nat) : Int))])), (r, .inl (cy 6, (n + n / 2), .inr (.inr (.inr (.inr (va_up (fun j => if j < n then f j else none) n (some (ad k))))))))] H := hP
  have hD : va_D A [(y, .inr (15, [.int (ki mo), .ref r, .int (ki ((n + 1 : Nat) : Int))])), (r, .inl (cy 6, (n + n / 2), .inr (.inr (.inr (.inr (va_up (fun j => if j < n then f j else none) n (some (ad k))))))))] := hD
  exact W.vret hx hb hr (fun t ht hW => ⟨⟨r, rfl, trivial, by rw [ht]; exact hP, hD⟩, hS.F ht⟩) hS.2.2 dJx4a65c_add_72be8_22
set_option maxHeartbeats 2000000 in
set_option maxRecDepth 20000 in
theorem c_add1E {y : Nat} {mo : Int} {k : Nat} (hk : k < 256) (sz : Nat) : Met l yJx4a65c_add_9ea2d (Cond.code yJx4a65c_add_9ea2d cJx4a65c_add_9ea2d 2 (some .boolean) :: xTB) ({ frames := 6, cells := 1, slots := 100, locals := 270 } : Room) (va_Pc [.ref y, .ref (ad k)] (jP D cy mi zE zc ad [(y, .inr (15, [.int (ki mo), .ref zE, .int (ki 0)]))] sz)) (va_Qi (S := Nat) (fun r _ => r = ki 1) (fun u t => va_P D vwCl [(y, .inr (15, [.int (ki (mo + 1)), .ref u, .int (ki 1)])), (u, .inl (cy 6, 10, .inr (.inr (.inr (.inr (va_up (fun _ => none) 0 (some (ad k))))))))] t.heap ∧ va_D (va_A [(y, .inr (15, [.int (ki mo), .ref zE, .int (ki 0)]))] sz) [(y, .inr (15, [.int (ki (mo + 1)), .ref u, .int (ki 1)])), (u, .inl (cy 6, 10, .inr (.inr (.inr (.inr (va_up (fun _ => none) 0 (some (ad k))))))))]) (va_A [(y, .inr (15, [.int (ki mo), .ref zE, .int (ki 0)]))] sz)) 1 100 (va_A [(y, .inr (15, [.int (ki mo), .ref zE, .int (ki 0)]))] sz) := by
  refine Met.ofW (cc := cJx4a65c_add_9ea2d) (maxL := 2) (ret := (some .boolean)) (by decide) rfl ?_
  intro p e s m args below meth c s₁ B hml hv
  obtain ⟨rfl, hsz, hP, hK, hD0, hN, hZ⟩ := hv
  subst hsz
  have hx := B.exec
  have hb := B.bytes
  have hr := B.returns
  have hts : ∀ w ∈ xTB, w.before ([.ref y, .ref (ad k)] : List Value).toArray s = true := fun w hw => atoms_spec (ws := Cond.code yJx4a65c_add_9ea2d cJx4a65c_add_9ea2d 2 (some .boolean) :: xTB) B.pre w (List.mem_cons_of_mem _ hw)
  have hown : s.vm.findClass RJx4a65c = some m.cls := findClass_of_methodNamed B.named
  have hlocks := B.notSynchronized
  have hl := lv_entry ([.ref y, .ref (ad k)]) (n := 2) (Nat.le_of_ble_eq_true rfl)
  rw [lg_entry_eq]
  generalize (lg_sl ([.ref y, .ref (ad k)]) ++ List.replicate (2 - (lg_sl ([.ref y, .ref (ad k)])).length) Slot.unset).toArray = ls at hl ⊢
  have hl : lv_has ls 2 [(0, .ref y), (1, .ref (ad k))] := hl
  have hD := hD0.self (sz := s.heap.size)
  generalize hAe : va_A [(y, .inr (15, [.int (ki mo), .ref zE, .int (ki 0)]))] s.heap.size = A at hD hZ ⊢
  have hA : ∀ q : Nat, s.heap.size ≤ q → A q := fun q h => by rw [← hAe]; exact Or.inr h
  have hS : va_S A s.heap s.heap [] := va_S.rf
  have hP : va_P D vwCl [(y, .inr (15, [.int (ki mo), .ref zE, .int (ki 0)]))] s.heap := hP
  refine lv_aload_n hx hb dJx4a65c_add_9ea2d_0 rfl (lv_at hl 0 rfl) ?_
  refine lv_dup hx hb dJx4a65c_add_9ea2d_1 rfl ?_
  refine va_get (D := D) (ref := "java/util/ArrayList") (ci := 15) (v := .int (ki mo)) (C := RJx4a65c) (T := TJx4a65c) (N := 3) hx hb hts xin_Jx4a65c hown hK hP 0 rfl rfl 0 (by decide) (hts _ (xw_mem 855 (by decide +kernel) rfl)) (fun x h9 => u_same (hts _ (xw_mem 854 (by decide +kernel) rfl)) x h9) rfl dJx4a65c_add_9ea2d_2 ?_
  refine lv_iconst (v := ki 1) hx hb dJx4a65c_add_9ea2d_5 rfl ?_
  refine kv_add (r := mo + 1) hx hb rfl dJx4a65c_add_9ea2d_6 ?_
  refine va_put (D := D) (ref := "java/util/ArrayList") (ci := 15) (v := .int (ki (mo + 1))) (ty := .int) (C := RJx4a65c) (T := TJx4a65c) (N := 3) hx hb hts xin_Jx4a65c tyJx4a65c tyJx4a65c_ok nmJx4a65c hown hK hP hD hS 0 rfl rfl 0 (by decide) (hts _ (xw_mem 855 (by decide +kernel) rfl)) (fun x h9 => u_same (hts _ (xw_mem 854 (by decide +kernel) rfl)) x h9) rfl (by decide +kernel) rfl rfl (Nat.le_of_ble_eq_true rfl) dJx4a65c_add_9ea2d_7 (fun H locs hP hD hS => ?_)
  have hP : va_P D vwCl [(y, .inr (15, [.int (ki (mo + 1)), .ref zE, .int (ki 0)]))] H := hP
  have hD : va_D A [(y, .inr (15, [.int (ki (mo + 1)), .ref zE, .int (ki 0)]))] := hD
  refine lv_aload_n hx hb dJx4a65c_add_9ea2d_10 rfl (lv_at hl 0 rfl) ?_
  refine lv_aload_n hx hb dJx4a65c_add_9ea2d_11 rfl (lv_at hl 1 rfl) ?_
  refine lv_aload_n hx hb dJx4a65c_add_9ea2d_12 rfl (lv_at hl 0 rfl) ?_
  refine va_get (D := D) (ci := 15) (v := .ref zE) (C := RJx4a65c) (T := TJx4a65c) (N := 3) hx hb hts xin_Jx4a65c hown hK hP 0 rfl rfl 1 (by decide) (hts _ (xw_mem 848 (by decide +kernel) rfl)) (fun _ h9 => h9) rfl dJx4a65c_add_9ea2d_13 ?_
  refine lv_aload_n hx hb dJx4a65c_add_9ea2d_16 rfl (lv_at hl 0 rfl) ?_
  refine va_get (D := D) (ci := 15) (v := .int (ki 0)) (C := RJx4a65c) (T := TJx4a65c) (N := 3) hx hb hts xin_Jx4a65c hown hK hP 0 rfl rfl 2 (by decide) (hts _ (xw_mem 851 (by decide +kernel) rfl)) (fun _ h9 => h9) rfl dJx4a65c_add_9ea2d_17 ?_
  have hPc : va_P D vwCl ([] ++ [(y, .inr (15, [.int (ki (mo + 1)), .ref zE, .int (ki 0)]))]) _ := hP
  have hDc : va_D A ([] ++ [(y, .inr (15, [.int (ki (mo + 1)), .ref zE, .int (ki 0)]))]) := hD
  refine kc_Vv hx hb hml hown hts (⟨xw_mem 894 (by decide +kernel) rfl, xw_mem 46 (by decide +kernel) rfl, xw_mem 891 (by decide +kernel) rfl, by decide +kernel⟩ : xML RJx4a65c 131 yJx4a65c_add_72be8 cJx4a65c_add_72be8 4 none 3) (xw_mem 893 (by decide +kernel) rfl) (xw_mem 18 (by decide +kernel) rfl) (va_recv hK hPc (rfl : vwCl[15]? = some (RJx4a65c, TJx4a65c, 3)) (show (([] : va_W) ++ ([(y, .inr (15, [.int (ki (mo + 1)), .ref zE, .int (ki 0)]))] : va_W))[0]? = _ from rfl)) hPc hDc hS hA [.ref (ad k), .ref zE, .int (ki 0)] (rest := []) _ _ (c_add3E (mo := mo + 1) hk _) jP_bl (fun U hU hW => jP_to hPc hDc hS hA hK hN hZ hU hW) ⟨(Nat.le_of_ble_eq_true rfl), (Nat.le_of_ble_eq_true rfl)⟩ (Nat.le_of_ble_eq_true rfl) (Nat.le_of_ble_eq_true rfl) rfl hl.1 rfl (Nat.le_of_ble_eq_true rfl) dJx4a65c_add_9ea2d_20 (fun u t H locs ht hw hB hz hJ hS => ?_)
  obtain ⟨hP1, hD1⟩ := hB
  rw [ht] at hP1
  obtain ⟨hP, hD⟩ := hJ _ hP1 hD1
  have hP : va_P D vwCl [(y, .inr (15, [.int (ki (mo + 1)), .ref u, .int (ki 1)])), (u, .inl (cy 6, 10, .inr (.inr (.inr (.inr (va_up (fun _ => none) 0 (some (ad k))))))))] H := hP
  have hD : va_D A [(y, .inr (15, [.int (ki (mo + 1)), .ref u, .int (ki 1)])), (u, .inl (cy 6, 10, .inr (.inr (.inr (.inr (va_up (fun _ => none) 0 (some (ad k))))))))] := hD
  refine lv_iconst (v := ki 1) hx hb dJx4a65c_add_9ea2d_23 rfl ?_
  exact W.zret (v := (ki 1)) hx hb hr (x_nz (Or.inr rfl)) (fun t ht hW => ⟨⟨_, u, rfl, rfl, by rw [ht]; exact hP, hD⟩, hS.F ht⟩) hS.2.2 dJx4a65c_add_9ea2d_24
set_option maxHeartbeats 2000000 in
set_option maxRecDepth 20000 in
theorem c_add1R {y ea n cap : Nat} {mo : Int} {f : Nat → Option Nat} (n1 : n < cap) (n2 : cap ≤ 100) {k : Nat} (hk : k < 256) (sz : Nat) : Met l yJx4a65c_add_9ea2d (Cond.code yJx4a65c_add_9ea2d cJx4a65c_add_9ea2d 2 (some .boolean) :: xTB) ({ frames := 6, cells := 1, slots := 100, locals := 270 } : Room) (va_Pc [.ref y, .ref (ad k)] (jP D cy mi zE zc ad [(y, .inr (15, [.int (ki mo), .ref ea, .int (ki (n : Int))])), (ea, .inl (cy 6, cap, .inr (.inr (.inr (.inr f)))))] sz)) (va_Qi (S := Nat) (fun r _ => r = ki 1) (fun u t => va_P D vwCl [(y, .inr (15, [.int (ki (mo + 1)), .ref u, .int (ki ((n + 1 : Nat) : Int))])), (u, .inl (cy 6, cap, .inr (.inr (.inr (.inr (va_up f n (some (ad k))))))))] t.heap ∧ va_D (va_A [(y, .inr (15, [.int (ki mo), .ref ea, .int (ki (n : Int))])), (ea, .inl (cy 6, cap, .inr (.inr (.inr (.inr f)))))] sz) [(y, .inr (15, [.int (ki (mo + 1)), .ref u, .int (ki ((n + 1 : Nat) : Int))])), (u, .inl (cy 6, cap, .inr (.inr (.inr (.inr (va_up f n (some (ad k))))))))]) (va_A [(y, .inr (15, [.int (ki mo), .ref ea, .int (ki (n : Int))])), (ea, .inl (cy 6, cap, .inr (.inr (.inr (.inr f)))))] sz)) 1 100 (va_A [(y, .inr (15, [.int (ki mo), .ref ea, .int (ki (n : Int))])), (ea, .inl (cy 6, cap, .inr (.inr (.inr (.inr f)))))] sz) := by
  refine Met.ofW (cc := cJx4a65c_add_9ea2d) (maxL := 2) (ret := (some .boolean)) (by decide) rfl ?_
  intro p e s m args below meth c s₁ B hml hv
  obtain ⟨rfl, hsz, hP, hK, hD0, hN, hZ⟩ := hv
  subst hsz
  have hx := B.exec
  have hb := B.bytes
  have hr := B.returns
  have hts : ∀ w ∈ xTB, w.before ([.ref y, .ref (ad k)] : List Value).toArray s = true := fun w hw => atoms_spec (ws := Cond.code yJx4a65c_add_9ea2d cJx4a65c_add_9ea2d 2 (some .boolean) :: xTB) B.pre w (List.mem_cons_of_mem _ hw)
  have hown : s.vm.findClass RJx4a65c = some m.cls := findClass_of_methodNamed B.named
  have hlocks := B.notSynchronized
  have hl := lv_entry ([.ref y, .ref (ad k)]) (n := 2) (Nat.le_of_ble_eq_true rfl)
  rw [lg_entry_eq]
  generalize (lg_sl ([.ref y, .ref (ad k)]) ++ List.replicate (2 - (lg_sl ([.ref y, .ref (ad k)])).length) Slot.unset).toArray = ls at hl ⊢
  have hl : lv_has ls 2 [(0, .ref y), (1, .ref (ad k))] := hl
  have hD := hD0.self (sz := s.heap.size)
  generalize hAe : va_A [(y, .inr (15, [.int (ki mo), .ref ea, .int (ki (n : Int))])), (ea, .inl (cy 6, cap, .inr (.inr (.inr (.inr f)))))] s.heap.size = A at hD hZ ⊢
  have hA : ∀ q : Nat, s.heap.size ≤ q → A q := fun q h => by rw [← hAe]; exact Or.inr h
  have hS : va_S A s.heap s.heap [] := va_S.rf
  have hP : va_P D vwCl [(y, .inr (15, [.int (ki mo), .ref ea, .int (ki (n : Int))])), (ea, .inl (cy 6, cap, .inr (.inr (.inr (.inr f)))))] s.heap := hP
  refine lv_aload_n hx hb dJx4a65c_add_9ea2d_0 rfl (lv_at hl 0 rfl) ?_
  refine lv_dup hx hb dJx4a65c_add_9ea2d_1 rfl ?_
  refine va_get (D := D) (ref := "java/util/ArrayList") (ci := 15) (v := .int (ki mo)) (C := RJx4a65c) (T := TJx4a65c) (N := 3) hx hb hts xin_Jx4a65c hown hK hP 0 rfl rfl 0 (by decide) (hts _ (xw_mem 855 (by decide +kernel) rfl)) (fun x h9 => u_same (hts _ (xw_mem 854 (by decide +kernel) rfl)) x h9) rfl dJx4a65c_add_9ea2d_2 ?_
  refine lv_iconst (v := ki 1) hx hb dJx4a65c_add_9ea2d_5 rfl ?_
  refine kv_add (r := mo + 1) hx hb rfl dJx4a65c_add_9ea2d_6 ?_
  refine va_put (D := D) (ref := "java/util/ArrayList") (ci := 15) (v := .int (ki (mo + 1))) (ty := .int) (C := RJx4a65c) (T := TJx4a65c) (N := 3) hx hb hts xin_Jx4a65c tyJx4a65c tyJx4a65c_ok nmJx4a65c hown hK hP hD hS 0 rfl rfl 0 (by decide) (hts _ (xw_mem 855 (by decide +kernel) rfl)) (fun x h9 => u_same (hts _ (xw_mem 854 (by decide +kernel) rfl)) x h9) rfl (by decide +kernel) rfl rfl (Nat.le_of_ble_eq_true rfl) dJx4a65c_add_9ea2d_7 (fun H locs hP hD hS => ?_)
  have hP : va_P D vwCl [(y, .inr (15, [.int (ki (mo + 1)), .ref ea, .int (ki (n : Int))])), (ea, .inl (cy 6, cap, .inr (.inr (.inr (.inr f)))))] H := hP
  have hD : va_D A [(y, .inr (15, [.int (ki (mo + 1)), .ref ea, .int (ki (n : Int))])), (ea, .inl (cy 6, cap, .inr (.inr (.inr (.inr f)))))] := hD
  refine lv_aload_n hx hb dJx4a65c_add_9ea2d_10 rfl (lv_at hl 0 rfl) ?_
  refine lv_aload_n hx hb dJx4a65c_add_9ea2d_11 rfl (lv_at hl 1 rfl) ?_
  refine lv_aload_n hx hb dJx4a65c_add_9ea2d_12 rfl (lv_at hl 0 rfl) ?_
  refine va_get (D := D) (ci := 15) (v := .ref ea) (C := RJx4a65c) (T := TJx4a65c) (N := 3) hx hb hts xin_Jx4a65c hown hK hP 0 rfl rfl 1 (by decide) (hts _ (xw_mem 848 (by decide +kernel) rfl)) (fun _ h9 => h9) rfl dJx4a65c_add_9ea2d_13 ?_
  refine lv_aload_n hx hb dJx4a65c_add_9ea2d_16 rfl (lv_at hl 0 rfl) ?_
  refine va_get (D := D) (ci := 15) (v := .int (ki (n : Int))) (C := RJx4a65c) (T := TJx4a65c) (N := 3) hx hb hts xin_Jx4a65c hown hK hP 0 rfl rfl 2 (by decide) (hts _ (xw_mem 851 (by decide +kernel) rfl)) (fun _ h9 => h9) rfl dJx4a65c_add_9ea2d_17 ?_
  have hPc : va_P D vwCl ([] ++ [(y, .inr (15, [.int (ki (mo + 1)), .ref ea, .int (ki (n : Int))])), (ea, .inl (cy 6, cap, .inr (.inr (.inr (.inr f)))))]) _ := hP
  have hDc : va_D A ([] ++ [(y, .inr (15, [.int (ki (mo + 1)), .ref ea, .int (ki (n : Int))])), (ea, .inl (cy 6, cap, .inr (.inr (.inr (.inr f)))))]) := hD
  refine kc_Vv hx hb hml hown hts (⟨xw_mem 894 (by decide +kernel) rfl, xw_mem 46 (by decide +kernel) rfl, xw_mem 891 (by decide +kernel) rfl, by decide +kernel⟩ : xML RJx4a65c 131 yJx4a65c_add_72be8 cJx4a65c_add_72be8 4 none 3) (xw_mem 893 (by decide +kernel) rfl) (xw_mem 18 (by decide +kernel) rfl) (va_recv hK hPc (rfl : vwCl[15]? = some (RJx4a65c, TJx4a65c, 3)) (show (([] : va_W) ++ ([(y, .inr (15, [.int (ki (mo + 1)), .ref ea, .int (ki (n : Int))])), (ea, .inl (cy 6, cap, .inr (.inr (.inr (.inr f)))))] : va_W))[0]? = _ from rfl)) hPc hDc hS hA [.ref (ad k), .ref ea, .int (ki (n : Int))] (rest := []) _ _ (c_add3R (mo := mo + 1) n1 n2 hk _) jP_bl (fun U hU hW => jP_to hPc hDc hS hA hK hN hZ hU hW) ⟨(Nat.le_of_ble_eq_true rfl), (Nat.le_of_ble_eq_true rfl)⟩ (Nat.le_of_ble_eq_true rfl) (Nat.le_of_ble_eq_true rfl) rfl hl.1 rfl (Nat.le_of_ble_eq_true rfl) dJx4a65c_add_9ea2d_20 (fun u t H locs ht hw hB hz hJ hS => ?_)
  obtain ⟨hP1, hD1⟩ := hB
  rw [ht] at hP1
  obtain ⟨hP, hD⟩ := hJ _ hP1 hD1
  have hP : va_P D vwCl [(y, .inr (15, [.int (ki (mo + 1)), .ref u, .int (ki ((n + 1 : Nat) : Int))])), (u, .inl (cy 6, cap, .inr (.inr (.inr (.inr (va_up f n (some (ad k))))))))] H := hP
  have hD : va_D A [(y, .inr (15, [.int (ki (mo + 1)), .ref u, .int (ki ((n + 1 : Nat) : Int))])), (u, .inl (cy 6, cap, .inr (.inr (.inr (.inr (va_up f n (some (ad k))))))))] := hD
  refine lv_iconst (v := ki 1) hx hb dJx4a65c_add_9ea2d_23 rfl ?_
  exact W.zret (v := (ki 1)) hx hb hr (x_nz (Or.inr rfl)) (fun t ht hW => ⟨⟨_, u, rfl, rfl, by rw [ht]; exact hP, hD⟩, hS.F ht⟩) hS.2.2 dJx4a65c_add_9ea2d_24
set_option maxHeartbeats 2000000 in
set_option maxRecDepth 20000 in
theorem c_add1G {y ea n : Nat} {mo : Int} {f : Nat → Option Nat} (n0 : 10 ≤ n) (n1 : n ≤ 30) (hf : ∀ (j y : Nat), f j = some y → ∃ k : Nat, k < 256 ∧ y = ad k) {k : Nat} (hk : k < 256) (sz : Nat) : Met l yJx4a65c_add_9ea2d (Cond.code yJx4a65c_add_9ea2d cJx4a65c_add_9ea2d 2 (some .boolean) :: xTB) ({ frames := 6, cells := 1, slots := 100, locals := 270 } : Room) (va_Pc [.ref y, .ref (ad k)] (jP D cy mi zE zc ad [(y, .inr (15, [.int (ki mo), .ref ea, .int (ki (n : Int))])), (ea, .inl (cy 6, n, .inr (.inr (.inr (.inr f)))))] sz)) (va_Qi (S := Nat) (fun r _ => r = ki 1) (fun u t => va_P D vwCl [(y, .inr (15, [.int (ki (mo + 1)), .ref u, .int (ki ((n + 1 : Nat) : Int))])), (u, .inl (cy 6, (n + n / 2), .inr (.inr (.inr (.inr (va_up (fun j => if j < n then f j else none) n (some (ad k))))))))] t.heap ∧ va_D (va_A [(y, .inr (15, [.int (ki mo), .ref ea, .int (ki (n : Int))])), (ea, .inl (cy 6, n, .inr (.inr (.inr (.inr f)))))] sz) [(y, .inr (15, [.int (ki (mo + 1)), .ref u, .int (ki ((n + 1 : Nat) : Int))])), (u, .inl (cy 6, (n + n / 2), .inr (.inr (.inr (.inr (va_up (fun j => if j < n then f j else none) n (some (ad k))))))))]) (va_A [(y, .inr (15, [.int (ki mo), .ref ea, .int (ki (n : Int))])), (ea, .inl (cy 6, n, .inr (.inr (.inr (.inr f)))))] sz)) 1 100 (va_A [(y, .inr (15, [.int (ki mo), .ref ea, .int (ki (n : Int))])), (ea, .inl (cy 6, n, .inr (.inr (.inr (.inr f)))))] sz) := by
  refine Met.ofW (cc := cJx4a65c_add_9ea2d) (maxL := 2) (ret := (some .boolean)) (by decide) rfl ?_
  intro p e s m args below meth c s₁ B hml hv
  obtain ⟨rfl, hsz, hP, hK, hD0, hN, hZ⟩ := hv
  subst hsz
  have hx := B.exec
  have hb := B.bytes
  have hr := B.returns
  have hts : ∀ w ∈ xTB, w.before ([.ref y, .ref (ad k)] : List Value).toArray s = true := fun w hw => atoms_spec (ws := Cond.code yJx4a65c_add_9ea2d cJx4a65c_add_9ea2d 2 (some .boolean) :: xTB) B.pre w (List.mem_cons_of_mem _ hw)
  have hown : s.vm.findClass RJx4a65c = some m.cls := findClass_of_methodNamed B.named
  have hlocks := B.notSynchronized
  have hl := lv_entry ([.ref y, .ref (ad k)]) (n := 2) (Nat.le_of_ble_eq_true rfl)
  rw [lg_entry_eq]
  generalize (lg_sl ([.ref y, .ref (ad k)]) ++ List.replicate (2 - (lg_sl ([.ref y, .ref (ad k)])).length) Slot.unset).toArray = ls at hl ⊢
  have hl : lv_has ls 2 [(0, .ref y), (1, .ref (ad k))] := hl
  have hD := hD0.self (sz := s.heap.size)
  generalize hAe : va_A [(y, .inr (15, [.int (ki mo), .ref ea, .int (ki (n : Int))])), (ea, .inl (cy 6, n, .inr (.inr (.inr (.inr f)))))] s.heap.size = A at hD hZ ⊢
  have hA : ∀ q : Nat, s.heap.size ≤ q → A q := fun q h => by rw [← hAe]; exact Or.inr h
  have hS : va_S A s.heap s.heap [] := va_S.rf
  have hP : va_P D vwCl [(y, .inr (15, [.int (ki mo), .ref ea, .int (ki (n : Int))])), (ea, .inl (cy 6, n, .inr (.inr (.inr (.inr f)))))] s.heap := hP
  refine lv_aload_n hx hb dJx4a65c_add_9ea2d_0 rfl (lv_at hl 0 rfl) ?_
  refine lv_dup hx hb dJx4a65c_add_9ea2d_1 rfl ?_
  refine va_get (D := D) (ref := "java/util/ArrayList") (ci := 15) (v := .int (ki mo)) (C := RJx4a65c) (T := TJx4a65c) (N := 3) hx hb hts xin_Jx4a65c hown hK hP 0 rfl rfl 0 (by decide) (hts _ (xw_mem 855 (by decide +kernel) rfl)) (fun x h9 => u_same (hts _ (xw_mem 854 (by decide +kernel) rfl)) x h9) rfl dJx4a65c_add_9ea2d_2 ?_
  refine lv_iconst (v := ki 1) hx hb dJx4a65c_add_9ea2d_5 rfl ?_
  refine kv_add (r := mo + 1) hx hb rfl dJx4a65c_add_9ea2d_6 ?_
  refine va_put (D := D) (ref := "java/util/ArrayList") (ci := 15) (v := .int (ki (mo + 1))) (ty := .int) (C := RJx4a65c) (T := TJx4a65c) (N := 3) hx hb hts xin_Jx4a65c tyJx4a65c tyJx4a65c_ok nmJx4a65c hown hK hP hD hS 0 rfl rfl 0 (by decide) (hts _ (xw_mem 855 (by decide +kernel) rfl)) (fun x h9 => u_same (hts _ (xw_mem 854 (by decide +kernel) rfl)) x h9) rfl (by decide +kernel) rfl rfl (Nat.le_of_ble_eq_true rfl) dJx4a65c_add_9ea2d_7 (fun H locs hP hD hS => ?_)
  have hP : va_P D vwCl [(y, .inr (15, [.int (ki (mo + 1)), .ref ea, .int (ki (n : Int))])), (ea, .inl (cy 6, n, .inr (.inr (.inr (.inr f)))))] H := hP
  have hD : va_D A [(y, .inr (15, [.int (ki (mo + 1)), .ref ea, .int (ki (n : Int))])), (ea, .inl (cy 6, n, .inr (.inr (.inr (.inr f)))))] := hD
  refine lv_aload_n hx hb dJx4a65c_add_9ea2d_10 rfl (lv_at hl 0 rfl) ?_
  refine lv_aload_n hx hb dJx4a65c_add_9ea2d_11 rfl (lv_at hl 1 rfl) ?_
  refine lv_aload_n hx hb dJx4a65c_add_9ea2d_12 rfl (lv_at hl 0 rfl) ?_
  refine va_get (D := D) (ci := 15) (v := .ref ea) (C := RJx4a65c) (T := TJx4a65c) (N := 3) hx hb hts xin_Jx4a65c hown hK hP 0 rfl rfl 1 (by decide) (hts _ (xw_mem 848 (by decide +kernel) rfl)) (fun _ h9 => h9) rfl dJx4a65c_add_9ea2d_13 ?_
  refine lv_aload_n hx hb dJx4a65c_add_9ea2d_16 rfl (lv_at hl 0 rfl) ?_
  refine va_get (D := D) (ci := 15) (v := .int (ki (n : Int))) (C := RJx4a65c) (T := TJx4a65c) (N := 3) hx hb hts xin_Jx4a65c hown hK hP 0 rfl rfl 2 (by decide) (hts _ (xw_mem 851 (by decide +kernel) rfl)) (fun _ h9 => h9) rfl dJx4a65c_add_9ea2d_17 ?_
  have hPc : va_P D vwCl ([] ++ [(y, .inr (15, [.int (ki (mo + 1)), .ref ea, .int (ki (n : Int))])), (ea, .inl (cy 6, n, .inr (.inr (.inr (.inr f)))))]) _ := hP
  have hDc : va_D A ([] ++ [(y, .inr (15, [.int (ki (mo + 1)), .ref ea, .int (ki (n : Int))])), (ea, .inl (cy 6, n, .inr (.inr (.inr (.inr f)))))]) := hD
  refine kc_Vv hx hb hml hown hts (⟨xw_mem 894 (by decide +kernel) rfl, xw_mem 46 (by decide +kernel) rfl, xw_mem 891 (by decide +kernel) rfl, by decide +kernel⟩ : xML RJx4a65c 131 yJx4a65c_add_72be8 cJx4a65c_add_72be8 4 none 3) (xw_mem 893 (by decide +kernel) rfl) (xw_mem 18 (by decide +kernel) rfl) (va_recv hK hPc (rfl : vwCl[15]? = some (RJx4a65c, TJx4a65c, 3)) (show (([] : va_W) ++ ([(y, .inr (15, [.int (ki (mo + 1)), .ref ea, .int (ki (n : Int))])), (ea, .inl (cy 6, n, .inr (.inr (.inr (.inr f)))))] : va_W))[0]? = _ from rfl)) hPc hDc hS hA [.ref (ad k), .ref ea, .int (ki (n : Int))] (rest := []) _ _ (c_add3G (mo := mo + 1) n0 n1 hf hk _) jP_bl (fun U hU hW => jP_to hPc hDc hS hA hK hN hZ hU hW) ⟨(Nat.le_of_ble_eq_true rfl), (Nat.le_of_ble_eq_true rfl)⟩ (Nat.le_of_ble_eq_true rfl) (Nat.le_of_ble_eq_true rfl) rfl hl.1 rfl (Nat.le_of_ble_eq_true rfl) dJx4a65c_add_9ea2d_20 (fun u t H locs ht hw hB hz hJ hS => ?_)
  obtain ⟨hP1, hD1⟩ := hB
  rw [ht] at hP1
  obtain ⟨hP, hD⟩ := hJ _ hP1 hD1
  have hP : va_P D vwCl [(y, .inr (15, [.int (ki (mo + 1)), .ref u, .int (ki ((n + 1 : Nat) : Int))])), (u, .inl (cy 6, (n + n / 2), .inr (.inr (.inr (.inr (va_up (fun j => if j < n then f j else none) n (some (ad k))))))))] H := hP
  have hD : va_D A [(y, .inr (15, [.int (ki (mo + 1)), .ref u, .int (ki ((n + 1 : Nat) : Int))])), (u, .inl (cy 6, (n + n / 2), .inr (.inr (.inr (.inr (va_up (fun j => if j < n then f j else none) n (some (ad k))))))))] := hD
  refine lv_iconst (v := ki 1) hx hb dJx4a65c_add_9ea2d_23 rfl ?_
  exact W.zret (v := (ki 1)) hx hb hr (x_nz (Or.inr rfl)) (fun t ht hW => ⟨⟨_, u, rfl, rfl, by rw [ht]; exact hP, hD⟩, hS.F ht⟩) hS.2.2 dJx4a65c_add_9ea2d_24
set_option maxHeartbeats 2000000 in
set_option maxRecDepth 20000 in
theorem c_size {y ea n : Nat} {mo : Int} (sz : Nat) : Met l yJx4a65c_size_8abf5 (Cond.code yJx4a65c_size_8abf5 cJx4a65c_size_8abf5 1 (some .int) :: xTB) ({ frames := 1, cells := 0, slots := 0, locals := 30 } : Room) (va_Pc [.ref y] (jP D cy mi zE zc ad [(y, .inr (15, [.int (ki mo), .ref ea, .int (ki (n : Int))]))] sz)) (va_Qi (S := Unit) (fun r _ => r = ki (n : Int)) (fun u t => va_P D vwCl [(y, .inr (15, [.int (ki mo), .ref ea, .int (ki (n : Int))]))] t.heap ∧ va_D (va_A [(y, .inr (15, [.int (ki mo), .ref ea, .int (ki (n : Int))]))] sz) [(y, .inr (15, [.int (ki mo), .ref ea, .int (ki (n : Int))]))]) (va_A [(y, .inr (15, [.int (ki mo), .ref ea, .int (ki (n : Int))]))] sz)) 0 0 (va_A [(y, .inr (15, [.int (ki mo), .ref ea, .int (ki (n : Int))]))] sz) := by
  refine Met.ofW (cc := cJx4a65c_size_8abf5) (maxL := 1) (ret := (some .int)) (by decide) rfl ?_
  intro p e s m args below meth c s₁ B hml hv
  obtain ⟨rfl, hsz, hP, hK, hD0, hN, hZ⟩ := hv
  subst hsz
  have hx := B.exec
  have hb := B.bytes
  have hr := B.returns
  have hts : ∀ w ∈ xTB, w.before ([.ref y] : List Value).toArray s = true := fun w hw => atoms_spec (ws := Cond.code yJx4a65c_size_8abf5 cJx4a65c_size_8abf5 1 (some .int) :: xTB) B.pre w (List.mem_cons_of_mem _ hw)
  have hown : s.vm.findClass RJx4a65c = some m.cls := findClass_of_methodNamed B.named
  have hlocks := B.notSynchronized
  have hl := lv_entry ([.ref y]) (n := 1) (Nat.le_of_ble_eq_true rfl)
  rw [lg_entry_eq]
  generalize (lg_sl ([.ref y]) ++ List.replicate (1 - (lg_sl ([.ref y])).length) Slot.unset).toArray = ls at hl ⊢
  have hl : lv_has ls 1 [(0, .ref y)] := hl
  have hD := hD0.self (sz := s.heap.size)
  generalize hAe : va_A [(y, .inr (15, [.int (ki mo), .ref ea, .int (ki (n : Int))]))] s.heap.size = A at hD hZ ⊢
  have hA : ∀ q : Nat, s.heap.size ≤ q → A q := fun q h => by rw [← hAe]; exact Or.inr h
  have hS : va_S A s.heap s.heap [] := va_S.rf
  have hP : va_P D vwCl [(y, .inr (15, [.int (ki mo), .ref ea, .int (ki (n : Int))]))] s.heap := hP
  refine lv_aload_n hx hb dJx4a65c_size_8abf5_0 rfl (lv_at hl 0 rfl) ?_
  refine va_get (D := D) (ci := 15) (v := .int (ki (n : Int))) (C := RJx4a65c) (T := TJx4a65c) (N := 3) hx hb hts xin_Jx4a65c hown hK hP 0 rfl rfl 2 (by decide) (hts _ (xw_mem 851 (by decide +kernel) rfl)) (fun _ h9 => h9) rfl dJx4a65c_size_8abf5_1 ?_
  exact W.iret (v := (ki (n : Int))) hx hb hr (fun t ht hW => ⟨⟨_, (), rfl, rfl, by rw [ht]; exact hP, hD⟩, hS.F ht⟩) hS.2.2 dJx4a65c_size_8abf5_4
set_option maxHeartbeats 2000000 in
set_option maxRecDepth 20000 in
theorem c_isEmpty {y ea n : Nat} {mo : Int} (n1 : n ≤ 100) (sz : Nat) : Met l yJx4a65c_isEmpty_aae02 (Cond.code yJx4a65c_isEmpty_aae02 cJx4a65c_isEmpty_aae02 1 (some .boolean) :: xTB) ({ frames := 1, cells := 0, slots := 0, locals := 30 } : Room) (va_Pc [.ref y] (jP D cy mi zE zc ad [(y, .inr (15, [.int (ki mo), .ref ea, .int (ki (n : Int))]))] sz)) (va_Qi (S := Unit) (fun r _ => r = ki (bi (n = 0))) (fun u t => va_P D vwCl [(y, .inr (15, [.int (ki mo), .ref ea, .int (ki (n : Int))]))] t.heap ∧ va_D (va_A [(y, .inr (15, [.int (ki mo), .ref ea, .int (ki (n : Int))]))] sz) [(y, .inr (15, [.int (ki mo), .ref ea, .int (ki (n : Int))]))]) (va_A [(y, .inr (15, [.int (ki mo), .ref ea, .int (ki (n : Int))]))] sz)) 0 0 (va_A [(y, .inr (15, [.int (ki mo), .ref ea, .int (ki (n : Int))]))] sz) := by
  refine Met.ofW (cc := cJx4a65c_isEmpty_aae02) (maxL := 1) (ret := (some .boolean)) (by decide) rfl ?_
  intro p e s m args below meth c s₁ B hml hv
  obtain ⟨rfl, hsz, hP, hK, hD0, hN, hZ⟩ := hv
  subst hsz
  have hx := B.exec
  have hb := B.bytes
  have hr := B.returns
  have hts : ∀ w ∈ xTB, w.before ([.ref y] : List Value).toArray s = true := fun w hw => atoms_spec (ws := Cond.code yJx4a65c_isEmpty_aae02 cJx4a65c_isEmpty_aae02 1 (some .boolean) :: xTB) B.pre w (List.mem_cons_of_mem _ hw)
  have hown : s.vm.findClass RJx4a65c = some m.cls := findClass_of_methodNamed B.named
  have hlocks := B.notSynchronized
  have hl := lv_entry ([.ref y]) (n := 1) (Nat.le_of_ble_eq_true rfl)
  rw [lg_entry_eq]
  generalize (lg_sl ([.ref y]) ++ List.replicate (1 - (lg_sl ([.ref y])).length) Slot.unset).toArray = ls at hl ⊢
  have hl : lv_has ls 1 [(0, .ref y)] := hl
  have hD := hD0.self (sz := s.heap.size)
  generalize hAe : va_A [(y, .inr (15, [.int (ki mo), .ref ea, .int (ki (n : Int))]))] s.heap.size = A at hD hZ ⊢
  have hA : ∀ q : Nat, s.heap.size ≤ q → A q := fun q h => by rw [← hAe]; exact Or.inr h
  have hS : va_S A s.heap s.heap [] := va_S.rf
  have hP : va_P D vwCl [(y, .inr (15, [.int (ki mo), .ref ea, .int (ki (n : Int))]))] s.heap := hP
  refine lv_aload_n hx hb dJx4a65c_isEmpty_aae02_0 rfl (lv_at hl 0 rfl) ?_
  refine va_get (D := D) (ci := 15) (v := .int (ki (n : Int))) (C := RJx4a65c) (T := TJx4a65c) (N := 3) hx hb hts xin_Jx4a65c hown hK hP 0 rfl rfl 2 (by decide) (hts _ (xw_mem 851 (by decide +kernel) rfl)) (fun _ h9 => h9) rfl dJx4a65c_isEmpty_aae02_1 ?_
  refine kv_if_ne (tgt := 11) hx hb (by omega) (by omega) dJx4a65c_isEmpty_aae02_4 (by decide) (fun h4 => ?_) (fun h4 => ?_)
  · refine lv_iconst (v := ki 0) hx hb dJx4a65c_isEmpty_aae02_11 rfl ?_
    exact W.zret (v := (ki 0)) hx hb hr (x_nz (Or.inl rfl)) (fun t ht hW => ⟨⟨_, (), rfl, (by show ki _ = ki (bi _); unfold bi; first | rw [if_pos (by omega)] | rw [if_neg (by omega)]), by rw [ht]; exact hP, hD⟩, hS.F ht⟩) hS.2.2 dJx4a65c_isEmpty_aae02_12
  · refine lv_iconst (v := ki 1) hx hb dJx4a65c_isEmpty_aae02_7 rfl ?_
    refine lv_goto (tgt := 12) hx hb dJx4a65c_isEmpty_aae02_8 (by decide) ?_
    exact W.zret (v := (ki 1)) hx hb hr (x_nz (Or.inr rfl)) (fun t ht hW => ⟨⟨_, (), rfl, (by show ki _ = ki (bi _); unfold bi; first | rw [if_pos (by omega)] | rw [if_neg (by omega)]), by rw [ht]; exact hP, hD⟩, hS.F ht⟩) hS.2.2 dJx4a65c_isEmpty_aae02_12
set_option maxHeartbeats 2000000 in
set_option maxRecDepth 20000 in
theorem c_elementData {y ea n cap i aj : Nat} {mo : Int} {f : Nat → Option Nat} (hi : i < cap) (hc : cap ≤ 100) (hf : f i = some aj) (sz : Nat) : Met l yJx4a65c_elementData_915e3 (Cond.code yJx4a65c_elementData_915e3 cJx4a65c_elementData_915e3 2 (some (.object "java/lang/Object")) :: xTB) ({ frames := 1, cells := 0, slots := 0, locals := 30 } : Room) (va_Pc [.ref y, .int (ki (i : Int))] (jP D cy mi zE zc ad [(y, .inr (15, [.int (ki mo), .ref ea, .int (ki (n : Int))])), (ea, .inl (cy 6, cap, .inr (.inr (.inr (.inr f)))))] sz)) (va_Qr (S := Unit) (fun _ => True) (fun u a t => a = aj ∧ va_P D vwCl [(y, .inr (15, [.int (ki mo), .ref ea, .int (ki (n : Int))])), (ea, .inl (cy 6, cap, .inr (.inr (.inr (.inr f)))))] t.heap ∧ va_D (va_A [(y, .inr (15, [.int (ki mo), .ref ea, .int (ki (n : Int))])), (ea, .inl (cy 6, cap, .inr (.inr (.inr (.inr f)))))] sz) [(y, .inr (15, [.int (ki mo), .ref ea, .int (ki (n : Int))])), (ea, .inl (cy 6, cap, .inr (.inr (.inr (.inr f)))))]) (va_A [(y, .inr (15, [.int (ki mo), .ref ea, .int (ki (n : Int))])), (ea, .inl (cy 6, cap, .inr (.inr (.inr (.inr f)))))] sz)) 0 0 (va_A [(y, .inr (15, [.int (ki mo), .ref ea, .int (ki (n : Int))])), (ea, .inl (cy 6, cap, .inr (.inr (.inr (.inr f)))))] sz) := by
  refine Met.ofW (cc := cJx4a65c_elementData_915e3) (maxL := 2) (ret := (some (.object "java/lang/Object"))) (by decide) rfl ?_
  intro p e s m args below meth c s₁ B hml hv
  obtain ⟨rfl, hsz, hP, hK, hD0, hN, hZ⟩ := hv
  subst hsz
  have hx := B.exec
  have hb := B.bytes
  have hr := B.returns
  have hts : ∀ w ∈ xTB, w.before ([.ref y, .int (ki (i : Int))] : List Value).toArray s = true := fun w hw => atoms_spec (ws := Cond.code yJx4a65c_elementData_915e3 cJx4a65c_elementData_915e3 2 (some (.object "java/lang/Object")) :: xTB) B.pre w (List.mem_cons_of_mem _ hw)
  have hown : s.vm.findClass RJx4a65c = some m.cls := findClass_of_methodNamed B.named
  have hlocks := B.notSynchronized
  have hl := lv_entry ([.ref y, .int (ki (i : Int))]) (n := 2) (Nat.le_of_ble_eq_true rfl)
  rw [lg_entry_eq]
  generalize (lg_sl ([.ref y, .int (ki (i : Int))]) ++ List.replicate (2 - (lg_sl ([.ref y, .int (ki (i : Int))])).length) Slot.unset).toArray = ls at hl ⊢
  have hl : lv_has ls 2 [(0, .ref y), (1, .int (ki (i : Int)))] := hl
  have hD := hD0.self (sz := s.heap.size)
  generalize hAe : va_A [(y, .inr (15, [.int (ki mo), .ref ea, .int (ki (n : Int))])), (ea, .inl (cy 6, cap, .inr (.inr (.inr (.inr f)))))] s.heap.size = A at hD hZ ⊢
  have hA : ∀ q : Nat, s.heap.size ≤ q → A q := fun q h => by rw [← hAe]; exact Or.inr h
  have hS : va_S A s.heap s.heap [] := va_S.rf
  have hP : va_P D vwCl [(y, .inr (15, [.int (ki mo), .ref ea, .int (ki (n : Int))])), (ea, .inl (cy 6, cap, .inr (.inr (.inr (.inr f)))))] s.heap := hP
  refine lv_aload_n hx hb dJx4a65c_elementData_915e3_0 rfl (lv_at hl 0 rfl) ?_
  refine va_get (D := D) (ci := 15) (v := .ref ea) (C := RJx4a65c) (T := TJx4a65c) (N := 3) hx hb hts xin_Jx4a65c hown hK hP 0 rfl rfl 1 (by decide) (hts _ (xw_mem 848 (by decide +kernel) rfl)) (fun _ h9 => h9) rfl dJx4a65c_elementData_915e3_1 ?_
  refine lv_iload_n hx hb dJx4a65c_elementData_915e3_4 rfl (lv_at hl 1 rfl) ?_
  refine kv_aldq hx hb hK hP 1 6 rfl rfl (by omega) (by omega) (by omega) hf dJx4a65c_elementData_915e3_5 ?_
  exact W.aret (v := .ref aj) (rt := .object "java/lang/Object") hx hb hr (Or.inl ⟨_, rfl⟩) (Or.inr ⟨_, rfl⟩) (fun t ht hW => ⟨⟨(), _, rfl, trivial, rfl, by rw [ht]; exact hP, hD⟩, hS.F ht⟩) hS.2.2 dJx4a65c_elementData_915e3_6
set_option maxHeartbeats 2000000 in
set_option maxRecDepth 20000 in
theorem c_checkIndex3 {i n : Nat} (hi : i < n) (hn : n ≤ 100) (sz : Nat) : Met l yJ3_checkIndex_8e157 (Cond.code yJ3_checkIndex_8e157 cJ3_checkIndex_8e157 3 (some .int) :: xTB) ({ frames := 1, cells := 0, slots := 0, locals := 30 } : Room) (va_Pc [.int (ki (i : Int)), .int (ki (n : Int)), .null] (jP D cy mi zE zc ad [] sz)) (va_Qi (S := Unit) (fun r _ => r = ki (i : Int)) (fun u t => True) (va_A [] sz)) 0 0 (va_A [] sz) := by
  refine Met.ofW (cc := cJ3_checkIndex_8e157) (maxL := 3) (ret := (some .int)) (by decide) rfl ?_
  intro p e s m args below meth c s₁ B hml hv
  obtain ⟨rfl, hsz, hP, hK, hD0, hN, hZ⟩ := hv
  subst hsz
  have hx := B.exec
  have hb := B.bytes
  have hr := B.returns
  have hts : ∀ w ∈ xTB, w.before ([.int (ki (i : Int)), .int (ki (n : Int)), .null] : List Value).toArray s = true := fun w hw => atoms_spec (ws := Cond.code yJ3_checkIndex_8e157 cJ3_checkIndex_8e157 3 (some .int) :: xTB) B.pre w (List.mem_cons_of_mem _ hw)
  have hown : s.vm.findClass RJ3 = some m.cls := findClass_of_methodNamed B.named
  have hlocks := B.notSynchronized
  have hl := lv_entry ([.int (ki (i : Int)), .int (ki (n : Int)), .null]) (n := 3) (Nat.le_of_ble_eq_true rfl)
  rw [lg_entry_eq]
  generalize (lg_sl ([.int (ki (i : Int)), .int (ki (n : Int)), .null]) ++ List.replicate (3 - (lg_sl ([.int (ki (i : Int)), .int (ki (n : Int)), .null])).length) Slot.unset).toArray = ls at hl ⊢
  have hl : lv_has ls 3 [(0, .int (ki (i : Int))), (1, .int (ki (n : Int))), (2, .null)] := hl
  have hD := hD0.self (sz := s.heap.size)
  generalize hAe : va_A [] s.heap.size = A at hD hZ ⊢
  have hA : ∀ q : Nat, s.heap.size ≤ q → A q := fun q h => by rw [← hAe]; exact Or.inr h
  have hS : va_S A s.heap s.heap [] := va_S.rf
  have hP : va_P D vwCl [] s.heap := hP
  refine lv_iload_n hx hb dJ3_checkIndex_8e157_0 rfl (lv_at hl 0 rfl) ?_
  refine kv_if_lt_f (tgt := 9) hx hb (by omega) (by omega) (by omega) dJ3_checkIndex_8e157_1 (by decide) ?_
  refine lv_iload_n hx hb dJ3_checkIndex_8e157_4 rfl (lv_at hl 0 rfl) ?_
  refine lv_iload_n hx hb dJ3_checkIndex_8e157_5 rfl (lv_at hl 1 rfl) ?_
  refine kv_icmp_lt_t (tgt := 16) hx hb (by omega) (by omega) (by omega) (by omega) (by omega) dJ3_checkIndex_8e157_6 (by decide) ?_
  refine lv_iload_n hx hb dJ3_checkIndex_8e157_16 rfl (lv_at hl 0 rfl) ?_
  exact W.iret (v := (ki (i : Int))) hx hb hr (fun t ht hW => ⟨⟨_, (), rfl, rfl, trivial⟩, hS.F ht⟩) hS.2.2 dJ3_checkIndex_8e157_17
set_option maxHeartbeats 2000000 in
set_option maxRecDepth 20000 in
theorem c_checkIndex {i n : Nat} (hi : i < n) (hn : n ≤ 100) (sz : Nat) : Met l yJ15_checkIndex_7cf53 (Cond.code yJ15_checkIndex_7cf53 cJ15_checkIndex_7cf53 2 (some .int) :: xTB) ({ frames := 2, cells := 0, slots := 0, locals := 60 } : Room) (va_Pc [.int (ki (i : Int)), .int (ki (n : Int))] (jP D cy mi zE zc ad [] sz)) (va_Qi (S := Unit) (fun r _ => r = ki (i : Int)) (fun u t => True) (va_A [] sz)) 0 0 (va_A [] sz) := by
  refine Met.ofW (cc := cJ15_checkIndex_7cf53) (maxL := 2) (ret := (some .int)) (by decide) rfl ?_
  intro p e s m args below meth c s₁ B hml hv
  obtain ⟨rfl, hsz, hP, hK, hD0, hN, hZ⟩ := hv
  subst hsz
  have hx := B.exec
  have hb := B.bytes
  have hr := B.returns
  have hts : ∀ w ∈ xTB, w.before ([.int (ki (i : Int)), .int (ki (n : Int))] : List Value).toArray s = true := fun w hw => atoms_spec (ws := Cond.code yJ15_checkIndex_7cf53 cJ15_checkIndex_7cf53 2 (some .int) :: xTB) B.pre w (List.mem_cons_of_mem _ hw)
  have hown : s.vm.findClass RJ15 = some m.cls := findClass_of_methodNamed B.named
  have hlocks := B.notSynchronized
  have hl := lv_entry ([.int (ki (i : Int)), .int (ki (n : Int))]) (n := 2) (Nat.le_of_ble_eq_true rfl)
  rw [lg_entry_eq]
  generalize (lg_sl ([.int (ki (i : Int)), .int (ki (n : Int))]) ++ List.replicate (2 - (lg_sl ([.int (ki (i : Int)), .int (ki (n : Int))])).length) Slot.unset).toArray = ls at hl ⊢
  have hl : lv_has ls 2 [(0, .int (ki (i : Int))), (1, .int (ki (n : Int)))] := hl
  have hD := hD0.self (sz := s.heap.size)
  generalize hAe : va_A [] s.heap.size = A at hD hZ ⊢
  have hA : ∀ q : Nat, s.heap.size ≤ q → A q := fun q h => by rw [← hAe]; exact Or.inr h
  have hS : va_S A s.heap s.heap [] := va_S.rf
  have hP : va_P D vwCl [] s.heap := hP
  refine lv_iload_n hx hb dJ15_checkIndex_7cf53_0 rfl (lv_at hl 0 rfl) ?_
  refine lv_iload_n hx hb dJ15_checkIndex_7cf53_1 rfl (lv_at hl 1 rfl) ?_
  refine lv_null hx hb dJ15_checkIndex_7cf53_2 ?_
  have hPc : va_P D vwCl ([] ++ []) _ := hP
  have hDc : va_D A ([] ++ []) := hD
  refine kc_Si hx hb hml hown hts (⟨xw_mem 1081 (by decide +kernel) rfl, xw_mem 54 (by decide +kernel) rfl, xw_mem 1079 (by decide +kernel) rfl, by decide +kernel⟩ : xML RJ15 105 yJ3_checkIndex_8e157 cJ3_checkIndex_8e157 3 (some .int) 3) (xw_mem 1080 (by decide +kernel) rfl) hPc hDc hS hA [.int (ki (i : Int)), .int (ki (n : Int)), .null] (rest := []) _ _ (c_checkIndex3 hi hn _) jP_bl (fun U hU hW => jP_to hPc hDc hS hA hK hN hZ hU hW) ⟨(Nat.le_of_ble_eq_true rfl), (Nat.le_of_ble_eq_true rfl)⟩ (Nat.le_of_ble_eq_true rfl) (Nat.le_of_ble_eq_true rfl) rfl hl.1 rfl (Nat.le_of_ble_eq_true rfl) dJ15_checkIndex_7cf53_3 (fun r u t H locs ht hw hB hz hJ hS => ?_)
  subst hw
  obtain ⟨hP, hD⟩ := hJ [] (fun k q h => by simp at h) ⟨fun i j p q h => by simp at h, fun k q h => by simp at h⟩
  exact W.iret (v := (ki (i : Int))) hx hb hr (fun t ht hW => ⟨⟨_, (), rfl, rfl, trivial⟩, hS.F ht⟩) hS.2.2 dJ15_checkIndex_7cf53_6
set_option maxHeartbeats 2000000 in
set_option maxRecDepth 20000 in
theorem c_get {y ea n cap i aj : Nat} {mo : Int} {f : Nat → Option Nat} (hi : i < n) (hn : n ≤ cap) (hc : cap ≤ 100) (hf : f i = some aj) (sz : Nat) : Met l yJx4a65c_get_915e3 (Cond.code yJx4a65c_get_915e3 cJx4a65c_get_915e3 2 (some (.object "java/lang/Object")) :: xTB) ({ frames := 3, cells := 0, slots := 0, locals := 100 } : Room) (va_Pc [.ref y, .int (ki (i : Int))] (jP D cy mi zE zc ad [(y, .inr (15, [.int (ki mo), .ref ea, .int (ki (n : Int))])), (ea, .inl (cy 6, cap, .inr (.inr (.inr (.inr f)))))] sz)) (va_Qr (S := Unit) (fun _ => True) (fun u a t => a = aj ∧ va_P D vwCl [(y, .inr (15, [.int (ki mo), .ref ea, .int (ki (n : Int))])), (ea, .inl (cy 6, cap, .inr (.inr (.inr (.inr f)))))] t.heap ∧ va_D (va_A [(y, .inr (15, [.int (ki mo), .ref ea, .int (ki (n : Int))])), (ea, .inl (cy 6, cap, .inr (.inr (.inr (.inr f)))))] sz) [(y, .inr (15, [.int (ki mo), .ref ea, .int (ki (n : Int))])), (ea, .inl (cy 6, cap, .inr (.inr (.inr (.inr f)))))]) (va_A [(y, .inr (15, [.int (ki mo), .ref ea, .int (ki (n : Int))])), (ea, .inl (cy 6, cap, .inr (.inr (.inr (.inr f)))))] sz)) 0 0 (va_A [(y, .inr (15, [.int (ki mo), .ref ea, .int (ki (n : Int))])), (ea, .inl (cy 6, cap, .inr (.inr (.inr (.inr f)))))] sz) := by
  refine Met.ofW (cc := cJx4a65c_get_915e3) (maxL := 2) (ret := (some (.object "java/lang/Object"))) (by decide) rfl ?_
  intro p e s m args below meth c s₁ B hml hv
  obtain ⟨rfl, hsz, hP, hK, hD0, hN, hZ⟩ := hv
  subst hsz
  have hx := B.exec
  have hb := B.bytes
  have hr := B.returns
  have hts : ∀ w ∈ xTB, w.before ([.ref y, .int (ki (i : Int))] : List Value).toArray s = true := fun w hw => atoms_spec (ws := Cond.code yJx4a65c_get_915e3 cJx4a65c_get_915e3 2 (some (.object "java/lang/Object")) :: xTB) B.pre w (List.mem_cons_of_mem _ hw)
  have hown : s.vm.findClass RJx4a65c = some m.cls := findClass_of_methodNamed B.named
  have hlocks := B.notSynchronized
  have hl := lv_entry ([.ref y, .int (ki (i : Int))]) (n := 2) (Nat.le_of_ble_eq_true rfl)
  rw [lg_entry_eq]
  generalize (lg_sl ([.ref y, .int (ki (i : Int))]) ++ List.replicate (2 - (lg_sl ([.ref y, .int (ki (i : Int))])).length) Slot.unset).toArray = ls at hl ⊢
  have hl : lv_has ls 2 [(0, .ref y), (1, .int (ki (i : Int)))] := hl
  have hD := hD0.self (sz := s.heap.size)
  generalize hAe : va_A [(y, .inr (15, [.int (ki mo), .ref ea, .int (ki (n : Int))])), (ea, .inl (cy 6, cap, .inr (.inr (.inr (.inr f)))))] s.heap.size = A at hD hZ ⊢
  have hA : ∀ q : Nat, s.heap.size ≤ q → A q := fun q h => by rw [← hAe]; exact Or.inr h
  have hS : va_S A s.heap s.heap [] := va_S.rf
  have hP : va_P D vwCl [(y, .inr (15, [.int (ki mo), .ref ea, .int (ki (n : Int))])), (ea, .inl (cy 6, cap, .inr (.inr (.inr (.inr f)))))] s.heap := hP
  refine lv_iload_n hx hb dJx4a65c_get_915e3_0 rfl (lv_at hl 1 rfl) ?_
  refine lv_aload_n hx hb dJx4a65c_get_915e3_1 rfl (lv_at hl 0 rfl) ?_
  refine va_get (D := D) (ci := 15) (v := .int (ki (n : Int))) (C := RJx4a65c) (T := TJx4a65c) (N := 3) hx hb hts xin_Jx4a65c hown hK hP 0 rfl rfl 2 (by decide) (hts _ (xw_mem 851 (by decide +kernel) rfl)) (fun _ h9 => h9) rfl dJx4a65c_get_915e3_2 ?_
  have hPc : va_P D vwCl ([(y, .inr (15, [.int (ki mo), .ref ea, .int (ki (n : Int))])), (ea, .inl (cy 6, cap, .inr (.inr (.inr (.inr f)))))] ++ []) _ := hP
  have hDc : va_D A ([(y, .inr (15, [.int (ki mo), .ref ea, .int (ki (n : Int))])), (ea, .inl (cy 6, cap, .inr (.inr (.inr (.inr f)))))] ++ []) := hD
  refine kc_Si hx hb hml hown hts (⟨xw_mem 1078 (by decide +kernel) rfl, xw_mem 53 (by decide +kernel) rfl, xw_mem 1076 (by decide +kernel) rfl, by decide +kernel⟩ : xML RJx4a65c 118 yJ15_checkIndex_7cf53 cJ15_checkIndex_7cf53 2 (some .int) 2) (xw_mem 1077 (by decide +kernel) rfl) hPc hDc hS hA [.int (ki (i : Int)), .int (ki (n : Int))] (rest := []) _ _ (c_checkIndex hi (by omega) _) jP_bl (fun U hU hW => jP_to hPc hDc hS hA hK hN hZ hU hW) ⟨(Nat.le_of_ble_eq_true rfl), (Nat.le_of_ble_eq_true rfl)⟩ (Nat.le_of_ble_eq_true rfl) (Nat.le_of_ble_eq_true rfl) rfl hl.1 rfl (Nat.le_of_ble_eq_true rfl) dJx4a65c_get_915e3_5 (fun r u t H locs ht hw hB hz hJ hS => ?_)
  subst hw
  obtain ⟨hP, hD⟩ := hJ [] (fun k q h => by simp at h) ⟨fun i j p q h => by simp at h, fun k q h => by simp at h⟩
  have hP : va_P D vwCl [(y, .inr (15, [.int (ki mo), .ref ea, .int (ki (n : Int))])), (ea, .inl (cy 6, cap, .inr (.inr (.inr (.inr f)))))] H := hP
  have hD : va_D A [(y, .inr (15, [.int (ki mo), .ref ea, .int (ki (n : Int))])), (ea, .inl (cy 6, cap, .inr (.inr (.inr (.inr f)))))] := hD
  refine lv_pop hx hb dJx4a65c_get_915e3_8 rfl ?_
  refine lv_aload_n hx hb dJx4a65c_get_915e3_9 rfl (lv_at hl 0 rfl) ?_
  refine lv_iload_n hx hb dJx4a65c_get_915e3_10 rfl (lv_at hl 1 rfl) ?_
  have hPc : va_P D vwCl ([] ++ [(y, .inr (15, [.int (ki mo), .ref ea, .int (ki (n : Int))])), (ea, .inl (cy 6, cap, .inr (.inr (.inr (.inr f)))))]) _ := hP
  have hDc : va_D A ([] ++ [(y, .inr (15, [.int (ki mo), .ref ea, .int (ki (n : Int))])), (ea, .inl (cy 6, cap, .inr (.inr (.inr (.inr f)))))]) := hD
  refine kc_Vr hx hb hml hown hts (⟨xw_mem 1085 (by decide +kernel) rfl, xw_mem 46 (by decide +kernel) rfl, xw_mem 1082 (by decide +kernel) rfl, by decide +kernel⟩ : xML RJx4a65c 123 yJx4a65c_elementData_915e3 cJx4a65c_elementData_915e3 2 (some (.object "java/lang/Object")) 1) (xw_mem 1083 (by decide +kernel) rfl) (xw_mem 1084 (by decide +kernel) rfl) (va_recv hK hPc (rfl : vwCl[15]? = some (RJx4a65c, TJx4a65c, 3)) (show (([] : va_W) ++ ([(y, .inr (15, [.int (ki mo), .ref ea, .int (ki (n : Int))])), (ea, .inl (cy 6, cap, .inr (.inr (.inr (.inr f)))))] : va_W))[0]? = _ from rfl)) hPc hDc hS hA [.int (ki (i : Int))] (rest := []) _ _ (c_elementData (by omega) hc hf _) jP_bl (fun U hU hW => jP_to hPc hDc hS hA hK hN hZ hU hW) ⟨(Nat.le_of_ble_eq_true rfl), (Nat.le_of_ble_eq_true rfl)⟩ (Nat.le_of_ble_eq_true rfl) (Nat.le_of_ble_eq_true rfl) rfl hl.1 rfl (Nat.le_of_ble_eq_true rfl) dJx4a65c_get_915e3_11 (fun r u t H locs ht hw hB hz hJ hS => ?_)
  obtain ⟨hra, hP1, hD1⟩ := hB
  subst hra
  rw [ht] at hP1
  obtain ⟨hP, hD⟩ := hJ _ hP1 hD1
  have hP : va_P D vwCl [(y, .inr (15, [.int (ki mo), .ref ea, .int (ki (n : Int))])), (ea, .inl (cy 6, cap, .inr (.inr (.inr (.inr f)))))] H := hP
  have hD : va_D A [(y, .inr (15, [.int (ki mo), .ref ea, .int (ki (n : Int))])), (ea, .inl (cy 6, cap, .inr (.inr (.inr (.inr f)))))] := hD
  exact W.aret (v := .ref r) (rt := .object "java/lang/Object") hx hb hr (Or.inl ⟨_, rfl⟩) (Or.inr ⟨_, rfl⟩) (fun t ht hW => ⟨⟨(), _, rfl, trivial, rfl, by rw [ht]; exact hP, hD⟩, hS.F ht⟩) hS.2.2 dJx4a65c_get_915e3_14
set_option maxHeartbeats 2000000 in
set_option maxRecDepth 20000 in
theorem c_itI {i y ea n : Nat} {mo : Int} (sz : Nat) : Met l yJx35411_init_45d68 (Cond.code yJx35411_init_45d68 cJx35411_init_45d68 2 none :: xTB) ({ frames := 1, cells := 0, slots := 0, locals := 30 } : Room) (va_Pc [.ref i, .ref y] (jP D cy mi zE zc ad [(y, .inr (15, [.int (ki mo), .ref ea, .int (ki (n : Int))])), (i, .inr (14, [.int (ki 0), .int (ki 0), .int (ki 0), .null]))] sz)) (va_Qv (S := Unit) (fun _ => True) (fun u t => va_P D vwCl [(y, .inr (15, [.int (ki mo), .ref ea, .int (ki (n : Int))])), (i, .inr (14, [.int (ki 0), .int (ki (-1)), .int (ki mo), .ref y]))] t.heap ∧ va_D (va_A [(y, .inr (15, [.int (ki mo), .ref ea, .int (ki (n : Int))])), (i, .inr (14, [.int (ki 0), .int (ki 0), .int (ki 0), .null]))] sz) [(y, .inr (15, [.int (ki mo), .ref ea, .int (ki (n : Int))])), (i, .inr (14, [.int (ki 0), .int (ki (-1)), .int (ki mo), .ref y]))]) (va_A [(y, .inr (15, [.int (ki mo), .ref ea, .int (ki (n : Int))])), (i, .inr (14, [.int (ki 0), .int (ki 0), .int (ki 0), .null]))] sz)) 0 0 (va_A [(y, .inr (15, [.int (ki mo), .ref ea, .int (ki (n : Int))])), (i, .inr (14, [.int (ki 0), .int (ki 0), .int (ki 0), .null]))] sz) := by
  refine Met.ofW (cc := cJx35411_init_45d68) (maxL := 2) (ret := none) (by decide) rfl ?_
  intro p e s m args below meth c s₁ B hml hv
  obtain ⟨rfl, hsz, hP, hK, hD0, hN, hZ⟩ := hv
  subst hsz
  have hx := B.exec
  have hb := B.bytes
  have hr := B.returns
  have hts : ∀ w ∈ xTB, w.before ([.ref i, .ref y] : List Value).toArray s = true := fun w hw => atoms_spec (ws := Cond.code yJx35411_init_45d68 cJx35411_init_45d68 2 none :: xTB) B.pre w (List.mem_cons_of_mem _ hw)
  have hown : s.vm.findClass RJx35411 = some m.cls := findClass_of_methodNamed B.named
  have hlocks := B.notSynchronized
  have hl := lv_entry ([.ref i, .ref y]) (n := 2) (Nat.le_of_ble_eq_true rfl)
  rw [lg_entry_eq]
  generalize (lg_sl ([.ref i, .ref y]) ++ List.replicate (2 - (lg_sl ([.ref i, .ref y])).length) Slot.unset).toArray = ls at hl ⊢
  have hl : lv_has ls 2 [(0, .ref i), (1, .ref y)] := hl
  have hin : meth.name = "<init>" := (name_of_methodNamed B.named B.method).1
  have hD := hD0.self (sz := s.heap.size)
  generalize hAe : va_A [(y, .inr (15, [.int (ki mo), .ref ea, .int (ki (n : Int))])), (i, .inr (14, [.int (ki 0), .int (ki 0), .int (ki 0), .null]))] s.heap.size = A at hD hZ ⊢
  have hA : ∀ q : Nat, s.heap.size ≤ q → A q := fun q h => by rw [← hAe]; exact Or.inr h
  have hS : va_S A s.heap s.heap [] := va_S.rf
  have hP : va_P D vwCl [(y, .inr (15, [.int (ki mo), .ref ea, .int (ki (n : Int))])), (i, .inr (14, [.int (ki 0), .int (ki 0), .int (ki 0), .null]))] s.heap := hP
  refine lv_aload_n hx hb dJx35411_init_45d68_0 rfl (lv_at hl 0 rfl) ?_
  refine lv_aload_n hx hb dJx35411_init_45d68_1 rfl (lv_at hl 1 rfl) ?_
  refine va_putF (D := D) (ci := 14) (v := .ref y) (ty := (.object "java/util/ArrayList")) (C := RJx35411) (T := TJx35411) (N := 4) hx hb hts xin_Jx35411 tyJx35411 tyJx35411_ok nmJx35411 hown hK hP hD hS 1 rfl rfl 3 (by decide) (hts _ (xw_mem 1099 (by decide +kernel) rfl)) (fun _ h9 => h9) rfl hin rfl (by decide +kernel) rfl rfl (Nat.le_of_ble_eq_true rfl) dJx35411_init_45d68_2 (fun H locs hP hD hS => ?_)
  have hP : va_P D vwCl [(y, .inr (15, [.int (ki mo), .ref ea, .int (ki (n : Int))])), (i, .inr (14, [.int (ki 0), .int (ki 0), .int (ki 0), .ref y]))] H := hP
  have hD : va_D A [(y, .inr (15, [.int (ki mo), .ref ea, .int (ki (n : Int))])), (i, .inr (14, [.int (ki 0), .int (ki 0), .int (ki 0), .ref y]))] := hD
  refine lv_aload_n hx hb dJx35411_init_45d68_5 rfl (lv_at hl 0 rfl) ?_
  refine W.objInit hx hb hown (hts _ (xw_mem 1095 (by decide +kernel) rfl)) (hts _ (xw_mem 63 (by decide +kernel) rfl)) (hts _ (xw_mem 64 (by decide +kernel) rfl)) rfl (by rw [hml]; exact hl.1) rfl dJx35411_init_45d68_6 (Nat.le_of_ble_eq_true rfl) (Nat.le_of_ble_eq_true rfl) ?_
  refine W.eq (g2 := F0 m 9 ls []) rfl ?_
  have hP : va_P D vwCl [(y, .inr (15, [.int (ki mo), .ref ea, .int (ki (n : Int))])), (i, .inr (14, [.int (ki 0), .int (ki 0), .int (ki 0), .ref y]))] H := hP
  refine lv_aload_n hx hb dJx35411_init_45d68_9 rfl (lv_at hl 0 rfl) ?_
  refine lv_iconst (v := ki (-1)) hx hb dJx35411_init_45d68_10 rfl ?_
  refine va_put (D := D) (ci := 14) (v := .int (ki (-1))) (ty := .int) (C := RJx35411) (T := TJx35411) (N := 4) hx hb hts xin_Jx35411 tyJx35411 tyJx35411_ok nmJx35411 hown hK hP hD hS 1 rfl rfl 1 (by decide) (hts _ (xw_mem 1097 (by decide +kernel) rfl)) (fun _ h9 => h9) rfl (by decide +kernel) rfl rfl (Nat.le_of_ble_eq_true rfl) dJx35411_init_45d68_11 (fun H locs hP hD hS => ?_)
  have hP : va_P D vwCl [(y, .inr (15, [.int (ki mo), .ref ea, .int (ki (n : Int))])), (i, .inr (14, [.int (ki 0), .int (ki (-1)), .int (ki 0), .ref y]))] H := hP
  have hD : va_D A [(y, .inr (15, [.int (ki mo), .ref ea, .int (ki (n : Int))])), (i, .inr (14, [.int (ki 0), .int (ki (-1)), .int (ki 0), .ref y]))] := hD
  refine lv_aload_n hx hb dJx35411_init_45d68_14 rfl (lv_at hl 0 rfl) ?_
  refine lv_aload_n hx hb dJx35411_init_45d68_15 rfl (lv_at hl 0 rfl) ?_
  refine va_get (D := D) (ci := 14) (v := .ref y) (C := RJx35411) (T := TJx35411) (N := 4) hx hb hts xin_Jx35411 hown hK hP 1 rfl rfl 3 (by decide) (hts _ (xw_mem 1099 (by decide +kernel) rfl)) (fun _ h9 => h9) rfl dJx35411_init_45d68_16 ?_
  refine va_get (D := D) (ref := "java/util/ArrayList") (ci := 15) (v := .int (ki mo)) (C := RJx4a65c) (T := TJx4a65c) (N := 3) hx hb hts xin_Jx4a65c hown hK hP 0 rfl rfl 0 (by decide) (hts _ (xw_mem 853 (by decide +kernel) rfl)) (fun x h9 => u_same (hts _ (xw_mem 854 (by decide +kernel) rfl)) x h9) rfl dJx35411_init_45d68_19 ?_
  refine va_put (D := D) (ci := 14) (v := .int (ki mo)) (ty := .int) (C := RJx35411) (T := TJx35411) (N := 4) hx hb hts xin_Jx35411 tyJx35411 tyJx35411_ok nmJx35411 hown hK hP hD hS 1 rfl rfl 2 (by decide) (hts _ (xw_mem 1098 (by decide +kernel) rfl)) (fun _ h9 => h9) rfl (by decide +kernel) rfl rfl (Nat.le_of_ble_eq_true rfl) dJx35411_init_45d68_22 (fun H locs hP hD hS => ?_)
  have hP : va_P D vwCl [(y, .inr (15, [.int (ki mo), .ref ea, .int (ki (n : Int))])), (i, .inr (14, [.int (ki 0), .int (ki (-1)), .int (ki mo), .ref y]))] H := hP
  have hD : va_D A [(y, .inr (15, [.int (ki mo), .ref ea, .int (ki (n : Int))])), (i, .inr (14, [.int (ki 0), .int (ki (-1)), .int (ki mo), .ref y]))] := hD
  exact W.vret hx hb hr (fun t ht hW => ⟨⟨(), rfl, trivial, by rw [ht]; exact hP, hD⟩, hS.F ht⟩) hS.2.2 dJx35411_init_45d68_25
set_option maxHeartbeats 2000000 in
set_option maxRecDepth 20000 in
theorem c_iterator {y ea n : Nat} {mo : Int} (sz : Nat) : Met l yJx4a65c_iterator_32c93 (Cond.code yJx4a65c_iterator_32c93 cJx4a65c_iterator_32c93 1 (some (.object "java/util/Iterator")) :: xTB) ({ frames := 2, cells := 1, slots := 4, locals := 60 } : Room) (va_Pc [.ref y] (jP D cy mi zE zc ad [(y, .inr (15, [.int (ki mo), .ref ea, .int (ki (n : Int))]))] sz)) (va_Qr (S := Nat) (fun _ => True) (fun u a t => a = u ∧ va_P D vwCl [(y, .inr (15, [.int (ki mo), .ref ea, .int (ki (n : Int))])), (u, .inr (14, [.int (ki 0), .int (ki (-1)), .int (ki mo), .ref y]))] t.heap ∧ va_D (va_A [(y, .inr (15, [.int (ki mo), .ref ea, .int (ki (n : Int))]))] sz) [(y, .inr (15, [.int (ki mo), .ref ea, .int (ki (n : Int))])), (u, .inr (14, [.int (ki 0), .int (ki (-1)), .int (ki mo), .ref y]))]) (va_A [(y, .inr (15, [.int (ki mo), .ref ea, .int (ki (n : Int))]))] sz)) 1 4 (va_A [(y, .inr (15, [.int (ki mo), .ref ea, .int (ki (n : Int))]))] sz) := by
  refine Met.ofW (cc := cJx4a65c_iterator_32c93) (maxL := 1) (ret := (some (.object "java/util/Iterator"))) (by decide) rfl ?_
  intro p e s m args below meth c s₁ B hml hv
  obtain ⟨rfl, hsz, hP, hK, hD0, hN, hZ⟩ := hv
  subst hsz
  have hx := B.exec
  have hb := B.bytes
  have hr := B.returns
  have hts : ∀ w ∈ xTB, w.before ([.ref y] : List Value).toArray s = true := fun w hw => atoms_spec (ws := Cond.code yJx4a65c_iterator_32c93 cJx4a65c_iterator_32c93 1 (some (.object "java/util/Iterator")) :: xTB) B.pre w (List.mem_cons_of_mem _ hw)
  have hown : s.vm.findClass RJx4a65c = some m.cls := findClass_of_methodNamed B.named
  have hlocks := B.notSynchronized
  have hl := lv_entry ([.ref y]) (n := 1) (Nat.le_of_ble_eq_true rfl)
  rw [lg_entry_eq]
  generalize (lg_sl ([.ref y]) ++ List.replicate (1 - (lg_sl ([.ref y])).length) Slot.unset).toArray = ls at hl ⊢
  have hl : lv_has ls 1 [(0, .ref y)] := hl
  have hD := hD0.self (sz := s.heap.size)
  generalize hAe : va_A [(y, .inr (15, [.int (ki mo), .ref ea, .int (ki (n : Int))]))] s.heap.size = A at hD hZ ⊢
  have hA : ∀ q : Nat, s.heap.size ≤ q → A q := fun q h => by rw [← hAe]; exact Or.inr h
  have hS : va_S A s.heap s.heap [] := va_S.rf
  have hP : va_P D vwCl [(y, .inr (15, [.int (ki mo), .ref ea, .int (ki (n : Int))]))] s.heap := hP
  refine va_new (ci := 14) (C := RJx35411) (T := TJx35411) (N := 4) (fs := [.int (ki 0), .int (ki 0), .int (ki 0), .null]) hx hb hts xin_Jx35411 tyJx35411 tyJx35411_ok hown (hts _ (xw_mem 1090 (by decide +kernel) rfl)) (hts _ (xw_mem 1091 (by decide +kernel) rfl)) (hts _ (xw_mem 56 (by decide +kernel) rfl)) hK hP hD hS hA rfl (by decide +kernel) (Nat.le_of_ble_eq_true rfl) (Nat.le_of_ble_eq_true rfl) dJx4a65c_iterator_32c93_0 (fun q0 H hP hD hS => ?_)
  have hP : va_P D vwCl [(y, .inr (15, [.int (ki mo), .ref ea, .int (ki (n : Int))])), (q0, .inr (14, [.int (ki 0), .int (ki 0), .int (ki 0), .null]))] H := hP
  have hD : va_D A [(y, .inr (15, [.int (ki mo), .ref ea, .int (ki (n : Int))])), (q0, .inr (14, [.int (ki 0), .int (ki 0), .int (ki 0), .null]))] := hD
  refine lv_dup hx hb dJx4a65c_iterator_32c93_3 rfl ?_
  refine lv_aload_n hx hb dJx4a65c_iterator_32c93_4 rfl (lv_at hl 0 rfl) ?_
  have hPc : va_P D vwCl ([] ++ [(y, .inr (15, [.int (ki mo), .ref ea, .int (ki (n : Int))])), (q0, .inr (14, [.int (ki 0), .int (ki 0), .int (ki 0), .null]))]) _ := hP
  have hDc : va_D A ([] ++ [(y, .inr (15, [.int (ki mo), .ref ea, .int (ki (n : Int))])), (q0, .inr (14, [.int (ki 0), .int (ki 0), .int (ki 0), .null]))]) := hD
  refine x_ctor (n := 1) hx hb hml hown hts (xgood (xw_mem 1094 (by decide +kernel) rfl)) (xw_mem 56 (by decide +kernel) rfl) (xw_mem 1092 (by decide +kernel) rfl) ⟨by decide, by decide, by decide +kernel⟩ rfl (xw_mem 1093 (by decide +kernel) rfl) hPc hDc hS hA (rest := [.ref q0]) [.ref y] (c_itI _) jP_bl (fun U hU hW => jP_to hPc hDc hS hA hK hN hZ hU hW) ⟨(Nat.le_of_ble_eq_true rfl), (Nat.le_of_ble_eq_true rfl)⟩ (Nat.le_of_ble_eq_true rfl) (Nat.le_of_ble_eq_true rfl) rfl hl.1 rfl (Nat.le_of_ble_eq_true rfl) dJx4a65c_iterator_32c93_5 (fun t H locs ht hB hJ hS => ?_)
  obtain ⟨hP1, hD1⟩ := hB
  rw [ht] at hP1
  obtain ⟨hP, hD⟩ := hJ _ hP1 hD1
  have hP : va_P D vwCl [(y, .inr (15, [.int (ki mo), .ref ea, .int (ki (n : Int))])), (q0, .inr (14, [.int (ki 0), .int (ki (-1)), .int (ki mo), .ref y]))] H := hP
  have hD : va_D A [(y, .inr (15, [.int (ki mo), .ref ea, .int (ki (n : Int))])), (q0, .inr (14, [.int (ki 0), .int (ki (-1)), .int (ki mo), .ref y]))] := hD
  exact W.aret (v := .ref q0) (rt := .object "java/util/Iterator") hx hb hr (Or.inl ⟨_, rfl⟩) (Or.inr ⟨_, rfl⟩) (fun t ht hW => ⟨⟨q0, _, rfl, trivial, rfl, by rw [ht]; exact hP, hD⟩, hS.F ht⟩) hS.2.2 dJx4a65c_iterator_32c93_8
set_option maxHeartbeats 2000000 in
set_option maxRecDepth 20000 in
theorem c_hasNext {i y ea n j : Nat} {la mo : Int} (hj : j ≤ 100) (hn : n ≤ 100) (sz : Nat) : Met l yJx35411_hasNext_aae02 (Cond.code yJx35411_hasNext_aae02 cJx35411_hasNext_aae02 1 (some .boolean) :: xTB) ({ frames := 1, cells := 0, slots := 0, locals := 30 } : Room) (va_Pc [.ref i] (jP D cy mi zE zc ad [(y, .inr (15, [.int (ki mo), .ref ea, .int (ki (n : Int))])), (i, .inr (14, [.int (ki (j : Int)), .int (ki la), .int (ki mo), .ref y]))] sz)) (va_Qi (S := Unit) (fun r _ => r = ki (bi (j ≠ n))) (fun u t => va_P D vwCl [(y, .inr (15, [.int (ki mo), .ref ea, .int (ki (n : Int))])), (i, .inr (14, [.int (ki (j : Int)), .int (ki la), .int (ki mo), .ref y]))] t.heap ∧ va_D (va_A [(y, .inr (15, [.int (ki mo), .ref ea, .int (ki (n : Int))])), (i, .inr (14, [.int (ki (j : Int)), .int (ki la), .int (ki mo), .ref y]))] sz) [(y, .inr (15, [.int (ki mo), .ref ea, .int (ki (n : Int))])), (i, .inr (14, [.int (ki (j : Int)), .int (ki la), .int (ki mo), .ref y]))]) (va_A [(y, .inr (15, [.int (ki mo), .ref ea, .int (ki (n : Int))])), (i, .inr (14, [.int (ki (j : Int)), .int (ki la), .int (ki mo), .ref y]))] sz)) 0 0 (va_A [(y, .inr (15, [.int (ki mo), .ref ea, .int (ki (n : Int))])), (i, .inr (14, [.int (ki (j : Int)), .int (ki la), .int (ki mo), .ref y]))] sz) := by
  refine Met.ofW (cc := cJx35411_hasNext_aae02) (maxL := 1) (ret := (some .boolean)) (by decide) rfl ?_
  intro p e s m args below meth c s₁ B hml hv
  obtain ⟨rfl, hsz, hP, hK, hD0, hN, hZ⟩ := hv
  subst hsz
  have hx := B.exec
  have hb := B.bytes
  have hr := B.returns
  have hts : ∀ w ∈ xTB, w.before ([.ref i] : List Value).toArray s = true := fun w hw => atoms_spec (ws := Cond.code yJx35411_hasNext_aae02 cJx35411_hasNext_aae02 1 (some .boolean) :: xTB) B.pre w (List.mem_cons_of_mem _ hw)
  have hown : s.vm.findClass RJx35411 = some m.cls := findClass_of_methodNamed B.named
  have hlocks := B.notSynchronized
  have hl := lv_entry ([.ref i]) (n := 1) (Nat.le_of_ble_eq_true rfl)
  rw [lg_entry_eq]
  generalize (lg_sl ([.ref i]) ++ List.replicate (1 - (lg_sl ([.ref i])).length) Slot.unset).toArray = ls at hl ⊢
  have hl : lv_has ls 1 [(0, .ref i)] := hl
  have hD := hD0.self (sz := s.heap.size)
  generalize hAe : va_A [(y, .inr (15, [.int (ki mo), .ref ea, .int (ki (n : Int))])), (i, .inr (14, [.int (ki (j : Int)), .int (ki la), .int (ki mo), .ref y]))] s.heap.size = A at hD hZ ⊢
  have hA : ∀ q : Nat, s.heap.size ≤ q → A q := fun q h => by rw [← hAe]; exact Or.inr h
  have hS : va_S A s.heap s.heap [] := va_S.rf
  have hP : va_P D vwCl [(y, .inr (15, [.int (ki mo), .ref ea, .int (ki (n : Int))])), (i, .inr (14, [.int (ki (j : Int)), .int (ki la), .int (ki mo), .ref y]))] s.heap := hP
  refine lv_aload_n hx hb dJx35411_hasNext_aae02_0 rfl (lv_at hl 0 rfl) ?_
  refine va_get (D := D) (ci := 14) (v := .int (ki (j : Int))) (C := RJx35411) (T := TJx35411) (N := 4) hx hb hts xin_Jx35411 hown hK hP 1 rfl rfl 0 (by decide) (hts _ (xw_mem 1096 (by decide +kernel) rfl)) (fun _ h9 => h9) rfl dJx35411_hasNext_aae02_1 ?_
  refine lv_aload_n hx hb dJx35411_hasNext_aae02_4 rfl (lv_at hl 0 rfl) ?_
  refine va_get (D := D) (ci := 14) (v := .ref y) (C := RJx35411) (T := TJx35411) (N := 4) hx hb hts xin_Jx35411 hown hK hP 1 rfl rfl 3 (by decide) (hts _ (xw_mem 1099 (by decide +kernel) rfl)) (fun _ h9 => h9) rfl dJx35411_hasNext_aae02_5 ?_
  refine va_getN (ref := RJx4a65c) (host := RJx4a65c) (D := D) (ci := 15) (v := .int (ki (n : Int))) (C := RJx4a65c) (T := TJx4a65c) (N := 3) hx hb hts xin_Jx4a65c hown hK hP 0 rfl rfl 2 (by decide) (va_Nw.use rfl hN.2.2.2.2.1) (fun _ h9 => h9) rfl dJx35411_hasNext_aae02_8 ?_
  refine kv_icmp_eq (tgt := 18) hx hb (by omega) (by omega) (by omega) (by omega) dJx35411_hasNext_aae02_11 (by decide) (fun h11 => ?_) (fun h11 => ?_)
  · refine lv_iconst (v := ki 0) hx hb dJx35411_hasNext_aae02_18 rfl ?_
    exact W.zret (v := (ki 0)) hx hb hr (x_nz (Or.inl rfl)) (fun t ht hW => ⟨⟨_, (), rfl, (by show ki _ = ki (bi _); unfold bi; first | rw [if_pos (by omega)] | rw [if_neg (by omega)]), by rw [ht]; exact hP, hD⟩, hS.F ht⟩) hS.2.2 dJx35411_hasNext_aae02_19
  · refine lv_iconst (v := ki 1) hx hb dJx35411_hasNext_aae02_14 rfl ?_
    refine lv_goto (tgt := 19) hx hb dJx35411_hasNext_aae02_15 (by decide) ?_
    exact W.zret (v := (ki 1)) hx hb hr (x_nz (Or.inr rfl)) (fun t ht hW => ⟨⟨_, (), rfl, (by show ki _ = ki (bi _); unfold bi; first | rw [if_pos (by omega)] | rw [if_neg (by omega)]), by rw [ht]; exact hP, hD⟩, hS.F ht⟩) hS.2.2 dJx35411_hasNext_aae02_19
set_option maxHeartbeats 2000000 in
set_option maxRecDepth 20000 in
theorem c_check {i y ea n : Nat} {j la mo : Int} (m0 : 0 ≤ mo) (m1 : mo ≤ 100) (sz : Nat) : Met l yJx35411_checkForComodification_da8c8 (Cond.code yJx35411_checkForComodification_da8c8 cJx35411_checkForComodification_da8c8 1 none :: xTB) ({ frames := 1, cells := 0, slots := 0, locals := 30 } : Room) (va_Pc [.ref i] (jP D cy mi zE zc ad [(y, .inr (15, [.int (ki mo), .ref ea, .int (ki (n : Int))])), (i, .inr (14, [.int (ki j), .int (ki la), .int (ki mo), .ref y]))] sz)) (va_Qv (S := Unit) (fun _ => True) (fun u t => va_P D vwCl [(y, .inr (15, [.int (ki mo), .ref ea, .int (ki (n : Int))])), (i, .inr (14, [.int (ki j), .int (ki la), .int (ki mo), .ref y]))] t.heap ∧ va_D (va_A [(y, .inr (15, [.int (ki mo), .ref ea, .int (ki (n : Int))])), (i, .inr (14, [.int (ki j), .int (ki la), .int (ki mo), .ref y]))] sz) [(y, .inr (15, [.int (ki mo), .ref ea, .int (ki (n : Int))])), (i, .inr (14, [.int (ki j), .int (ki la), .int (ki mo), .ref y]))]) (va_A [(y, .inr (15, [.int (ki mo), .ref ea, .int (ki (n : Int))])), (i, .inr (14, [.int (ki j), .int (ki la), .int (ki mo), .ref y]))] sz)) 0 0 (va_A [(y, .inr (15, [.int (ki mo), .ref ea, .int (ki (n : Int))])), (i, .inr (14, [.int (ki j), .int (ki la), .int (ki mo), .ref y]))] sz) := by
  refine Met.ofW (cc := cJx35411_checkForComodification_da8c8) (maxL := 1) (ret := none) (by decide) rfl ?_
  intro p e s m args below meth c s₁ B hml hv
  obtain ⟨rfl, hsz, hP, hK, hD0, hN, hZ⟩ := hv
  subst hsz
  have hx := B.exec
  have hb := B.bytes
  have hr := B.returns
  have hts : ∀ w ∈ xTB, w.before ([.ref i] : List Value).toArray s = true := fun w hw => atoms_spec (ws := Cond.code yJx35411_checkForComodification_da8c8 cJx35411_checkForComodification_da8c8 1 none :: xTB) B.pre w (List.mem_cons_of_mem _ hw)
  have hown : s.vm.findClass RJx35411 = some m.cls := findClass_of_methodNamed B.named
  have hlocks := B.notSynchronized
  have hl := lv_entry ([.ref i]) (n := 1) (Nat.le_of_ble_eq_true rfl)
  rw [lg_entry_eq]
  generalize (lg_sl ([.ref i]) ++ List.replicate (1 - (lg_sl ([.ref i])).length) Slot.unset).toArray = ls at hl ⊢
  have hl : lv_has ls 1 [(0, .ref i)] := hl
  have hD := hD0.self (sz := s.heap.size)
  generalize hAe : va_A [(y, .inr (15, [.int (ki mo), .ref ea, .int (ki (n : Int))])), (i, .inr (14, [.int (ki j), .int (ki la), .int (ki mo), .ref y]))] s.heap.size = A at hD hZ ⊢
  have hA : ∀ q : Nat, s.heap.size ≤ q → A q := fun q h => by rw [← hAe]; exact Or.inr h
  have hS : va_S A s.heap s.heap [] := va_S.rf
  have hP : va_P D vwCl [(y, .inr (15, [.int (ki mo), .ref ea, .int (ki (n : Int))])), (i, .inr (14, [.int (ki j), .int (ki la), .int (ki mo), .ref y]))] s.heap := hP
  refine lv_aload_n hx hb dJx35411_checkForComodification_da8c8_0 rfl (lv_at hl 0 rfl) ?_
  refine va_get (D := D) (ci := 14) (v := .ref y) (C := RJx35411) (T := TJx35411) (N := 4) hx hb hts xin_Jx35411 hown hK hP 1 rfl rfl 3 (by decide) (hts _ (xw_mem 1099 (by decide +kernel) rfl)) (fun _ h9 => h9) rfl dJx35411_checkForComodification_da8c8_1 ?_
  refine va_get (D := D) (ref := "java/util/ArrayList") (ci := 15) (v := .int (ki mo)) (C := RJx4a65c) (T := TJx4a65c) (N := 3) hx hb hts xin_Jx4a65c hown hK hP 0 rfl rfl 0 (by decide) (hts _ (xw_mem 853 (by decide +kernel) rfl)) (fun x h9 => u_same (hts _ (xw_mem 854 (by decide +kernel) rfl)) x h9) rfl dJx35411_checkForComodification_da8c8_4 ?_
  refine lv_aload_n hx hb dJx35411_checkForComodification_da8c8_7 rfl (lv_at hl 0 rfl) ?_
  refine va_get (D := D) (ci := 14) (v := .int (ki mo)) (C := RJx35411) (T := TJx35411) (N := 4) hx hb hts xin_Jx35411 hown hK hP 1 rfl rfl 2 (by decide) (hts _ (xw_mem 1098 (by decide +kernel) rfl)) (fun _ h9 => h9) rfl dJx35411_checkForComodification_da8c8_8 ?_
  refine kv_icmp_eq_t (tgt := 22) hx hb (by omega) (by omega) (by omega) (by omega) (by omega) dJx35411_checkForComodification_da8c8_11 (by decide) ?_
  exact W.vret hx hb hr (fun t ht hW => ⟨⟨(), rfl, trivial, by rw [ht]; exact hP, hD⟩, hS.F ht⟩) hS.2.2 dJx35411_checkForComodification_da8c8_22
set_option maxHeartbeats 2000000 in
set_option maxRecDepth 20000 in
theorem c_next {i y ea n cap j aj : Nat} {la mo : Int} {f : Nat → Option Nat} (hj : j < n) (hn : n ≤ cap) (hc : cap ≤ 100) (m0 : 0 ≤ mo) (m1 : mo ≤ 100) (hf : f j = some aj) (sz : Nat) : Met l yJx35411_next_0502b (Cond.code yJx35411_next_0502b cJx35411_next_0502b 3 (some (.object "java/lang/Object")) :: xTB) ({ frames := 3, cells := 0, slots := 0, locals := 90 } : Room) (va_Pc [.ref i] (jP D cy mi zE zc ad [(y, .inr (15, [.int (ki mo), .ref ea, .int (ki (n : Int))])), (ea, .inl (cy 6, cap, .inr (.inr (.inr (.inr f))))), (i, .inr (14, [.int (ki (j : Int)), .int (ki la), .int (ki mo), .ref y]))] sz)) (va_Qr (S := Unit) (fun _ => True) (fun u a t => a = aj ∧ va_P D vwCl [(y, .inr (15, [.int (ki mo), .ref ea, .int (ki (n : Int))])), (ea, .inl (cy 6, cap, .inr (.inr (.inr (.inr f))))), (i, .inr (14, [.int (ki ((j + 1 : Nat) : Int)), .int (ki (j : Int)), .int (ki mo), .ref y]))] t.heap ∧ va_D (va_A [(y, .inr (15, [.int (ki mo), .ref ea, .int (ki (n : Int))])), (ea, .inl (cy 6, cap, .inr (.inr (.inr (.inr f))))), (i, .inr (14, [.int (ki (j : Int)), .int (ki la), .int (ki mo), .ref y]))] sz) [(y, .inr (15, [.int (ki mo), .ref ea, .int (ki (n : Int))])), (ea, .inl (cy 6, cap, .inr (.inr (.inr (.inr f))))), (i, .inr (14, [.int (ki ((j + 1 : Nat) : Int)), .int (ki (j : Int)), .int (ki mo), .ref y]))]) (va_A [(y, .inr (15, [.int (ki mo), .ref ea, .int (ki (n : Int))])), (ea, .inl (cy 6, cap, .inr (.inr (.inr (.inr f))))), (i, .inr (14, [.int (ki (j : Int)), .int (ki la), .int (ki mo), .ref y]))] sz)) 0 0 (va_A [(y, .inr (15, [.int (ki mo), .ref ea, .int (ki (n : Int))])), (ea, .inl (cy 6, cap, .inr (.inr (.inr (.inr f))))), (i, .inr (14, [.int (ki (j : Int)), .int (ki la), .int (ki mo), .ref y]))] sz) := by
  refine Met.ofW (cc := cJx35411_next_0502b) (maxL := 3) (ret := (some (.object "java/lang/Object"))) (by decide) rfl ?_
  intro p e s m args below meth c s₁ B hml hv
  obtain ⟨rfl, hsz, hP, hK, hD0, hN, hZ⟩ := hv
  subst hsz
  have hx := B.exec
  have hb := B.bytes
  have hr := B.returns
  have hts : ∀ w ∈ xTB, w.before ([.ref i] : List Value).toArray s = true := fun w hw => atoms_spec (ws := Cond.code yJx35411_next_0502b cJx35411_next_0502b 3 (some (.object "java/lang/Object")) :: xTB) B.pre w (List.mem_cons_of_mem _ hw)
  have hown : s.vm.findClass RJx35411 = some m.cls := findClass_of_methodNamed B.named
  have hlocks := B.notSynchronized
  have hl := lv_entry ([.ref i]) (n := 3) (Nat.le_of_ble_eq_true rfl)
  rw [lg_entry_eq]
  generalize (lg_sl ([.ref i]) ++ List.replicate (3 - (lg_sl ([.ref i])).length) Slot.unset).toArray = ls at hl ⊢
  have hl : lv_has ls 3 [(0, .ref i)] := hl
  have hD := hD0.self (sz := s.heap.size)
  generalize hAe : va_A [(y, .inr (15, [.int (ki mo), .ref ea, .int (ki (n : Int))])), (ea, .inl (cy 6, cap, .inr (.inr (.inr (.inr f))))), (i, .inr (14, [.int (ki (j : Int)), .int (ki la), .int (ki mo), .ref y]))] s.heap.size = A at hD hZ ⊢
  have hA : ∀ q : Nat, s.heap.size ≤ q → A q := fun q h => by rw [← hAe]; exact Or.inr h
  have hS : va_S A s.heap s.heap [] := va_S.rf
  have hP : va_P D vwCl [(y, .inr (15, [.int (ki mo), .ref ea, .int (ki (n : Int))])), (ea, .inl (cy 6, cap, .inr (.inr (.inr (.inr f))))), (i, .inr (14, [.int (ki (j : Int)), .int (ki la), .int (ki mo), .ref y]))] s.heap := hP
  have hP := hP.sub (ws' := [(ea, .inl (cy 6, cap, .inr (.inr (.inr (.inr f))))), (y, .inr (15, [.int (ki mo), .ref ea, .int (ki (n : Int))])), (i, .inr (14, [.int (ki (j : Int)), .int (ki la), .int (ki mo), .ref y]))]) [1, 0, 2] rfl
  have hD := hD.sub (ws' := [(ea, .inl (cy 6, cap, .inr (.inr (.inr (.inr f))))), (y, .inr (15, [.int (ki mo), .ref ea, .int (ki (n : Int))])), (i, .inr (14, [.int (ki (j : Int)), .int (ki la), .int (ki mo), .ref y]))]) [1, 0, 2] (by decide) rfl
  refine lv_aload_n hx hb dJx35411_next_0502b_0 rfl (lv_at hl 0 rfl) ?_
  have hPc : va_P D vwCl ([(ea, .inl (cy 6, cap, .inr (.inr (.inr (.inr f)))))] ++ [(y, .inr (15, [.int (ki mo), .ref ea, .int (ki (n : Int))])), (i, .inr (14, [.int (ki (j : Int)), .int (ki la), .int (ki mo), .ref y]))]) _ := hP
  have hDc : va_D A ([(ea, .inl (cy 6, cap, .inr (.inr (.inr (.inr f)))))] ++ [(y, .inr (15, [.int (ki mo), .ref ea, .int (ki (n : Int))])), (i, .inr (14, [.int (ki (j : Int)), .int (ki la), .int (ki mo), .ref y]))]) := hD
  refine kc_Vv hx hb hml hown hts (⟨xw_mem 1131 (by decide +kernel) rfl, xw_mem 56 (by decide +kernel) rfl, xw_mem 1128 (by decide +kernel) rfl, by decide +kernel⟩ : xML RJx35411 31 yJx35411_checkForComodification_da8c8 cJx35411_checkForComodification_da8c8 1 none 0) (xw_mem 1129 (by decide +kernel) rfl) (xw_mem 1130 (by decide +kernel) rfl) (va_recv hK hPc (rfl : vwCl[14]? = some (RJx35411, TJx35411, 4)) (show (([(ea, .inl (cy 6, cap, .inr (.inr (.inr (.inr f)))))] : va_W) ++ ([(y, .inr (15, [.int (ki mo), .ref ea, .int (ki (n : Int))])), (i, .inr (14, [.int (ki (j : Int)), .int (ki la), .int (ki mo), .ref y]))] : va_W))[2]? = _ from rfl)) hPc hDc hS hA [] (rest := []) _ _ (c_check m0 m1 _) jP_bl (fun U hU hW => jP_to hPc hDc hS hA hK hN hZ hU hW) ⟨(Nat.le_of_ble_eq_true rfl), (Nat.le_of_ble_eq_true rfl)⟩ (Nat.le_of_ble_eq_true rfl) (Nat.le_of_ble_eq_true rfl) rfl hl.1 rfl (Nat.le_of_ble_eq_true rfl) dJx35411_next_0502b_1 (fun u t H locs ht hw hB hz hJ hS => ?_)
  obtain ⟨hP1, hD1⟩ := hB
  rw [ht] at hP1
  obtain ⟨hP, hD⟩ := hJ _ hP1 hD1
  have hP := xP_perm hP List.perm_append_comm
  have hD := xD_perm hD List.perm_append_comm
  have hP : va_P D vwCl [(y, .inr (15, [.int (ki mo), .ref ea, .int (ki (n : Int))])), (i, .inr (14, [.int (ki (j : Int)), .int (ki la), .int (ki mo), .ref y])), (ea, .inl (cy 6, cap, .inr (.inr (.inr (.inr f)))))] H := hP
  have hD : va_D A [(y, .inr (15, [.int (ki mo), .ref ea, .int (ki (n : Int))])), (i, .inr (14, [.int (ki (j : Int)), .int (ki la), .int (ki mo), .ref y])), (ea, .inl (cy 6, cap, .inr (.inr (.inr (.inr f)))))] := hD
  refine lv_aload_n hx hb dJx35411_next_0502b_4 rfl (lv_at hl 0 rfl) ?_
  refine va_get (D := D) (ci := 14) (v := .int (ki (j : Int))) (C := RJx35411) (T := TJx35411) (N := 4) hx hb hts xin_Jx35411 hown hK hP 1 rfl rfl 0 (by decide) (hts _ (xw_mem 1096 (by decide +kernel) rfl)) (fun _ h9 => h9) rfl dJx35411_next_0502b_5 ?_
  refine lv_istore_n (lv' := [(1, .int (ki (j : Int))), (0, .ref i)]) hx hb dJx35411_next_0502b_8 rfl hl (by decide) rfl (fun ls hl => ?_)
  refine lv_iload_n hx hb dJx35411_next_0502b_9 rfl (lv_at hl 0 rfl) ?_
  refine lv_aload_n hx hb dJx35411_next_0502b_10 rfl (lv_at hl 1 rfl) ?_
  refine va_get (D := D) (ci := 14) (v := .ref y) (C := RJx35411) (T := TJx35411) (N := 4) hx hb hts xin_Jx35411 hown hK hP 1 rfl rfl 3 (by decide) (hts _ (xw_mem 1099 (by decide +kernel) rfl)) (fun _ h9 => h9) rfl dJx35411_next_0502b_11 ?_
  refine va_getN (ref := RJx4a65c) (host := RJx4a65c) (D := D) (ci := 15) (v := .int (ki (n : Int))) (C := RJx4a65c) (T := TJx4a65c) (N := 3) hx hb hts xin_Jx4a65c hown hK hP 0 rfl rfl 2 (by decide) (va_Nw.use rfl hN.2.2.2.2.1) (fun _ h9 => h9) rfl dJx35411_next_0502b_14 ?_
  refine kv_icmp_lt_t (tgt := 28) hx hb (by omega) (by omega) (by omega) (by omega) (by omega) dJx35411_next_0502b_17 (by decide) ?_
  refine lv_aload_n hx hb dJx35411_next_0502b_28 rfl (lv_at hl 1 rfl) ?_
  refine va_get (D := D) (ci := 14) (v := .ref y) (C := RJx35411) (T := TJx35411) (N := 4) hx hb hts xin_Jx35411 hown hK hP 1 rfl rfl 3 (by decide) (hts _ (xw_mem 1099 (by decide +kernel) rfl)) (fun _ h9 => h9) rfl dJx35411_next_0502b_29 ?_
  refine va_get (D := D) (ci := 15) (v := .ref ea) (C := RJx4a65c) (T := TJx4a65c) (N := 3) hx hb hts xin_Jx4a65c hown hK hP 0 rfl rfl 1 (by decide) (hts _ (xw_mem 849 (by decide +kernel) rfl)) (fun _ h9 => h9) rfl dJx35411_next_0502b_32 ?_
  refine lv_astore_n (lv' := [(2, .ref ea), (1, .int (ki (j : Int))), (0, .ref i)]) hx hb dJx35411_next_0502b_35 rfl hl (by decide) rfl (fun ls hl => ?_)
  refine lv_iload_n hx hb dJx35411_next_0502b_36 rfl (lv_at hl 1 rfl) ?_
  refine lv_aload_n hx hb dJx35411_next_0502b_37 rfl (lv_at hl 0 rfl) ?_
  refine va_alen (v := ki (cap : Int)) hx hb hK hP 2 6 rfl rfl (nI_ki (by omega)) dJx35411_next_0502b_38 ?_
  refine kv_icmp_lt_t (tgt := 50) hx hb (by omega) (by omega) (by omega) (by omega) (by omega) dJx35411_next_0502b_39 (by decide) ?_
  refine lv_aload_n hx hb dJx35411_next_0502b_50 rfl (lv_at hl 2 rfl) ?_
  refine lv_iload_n hx hb dJx35411_next_0502b_51 rfl (lv_at hl 1 rfl) ?_
  refine lv_iconst (v := ki 1) hx hb dJx35411_next_0502b_52 rfl ?_
  refine kv_add (r := ((j + 1 : Nat) : Int)) hx hb (by omega) dJx35411_next_0502b_53 ?_
  refine va_put (D := D) (ci := 14) (v := .int (ki ((j + 1 : Nat) : Int))) (ty := .int) (C := RJx35411) (T := TJx35411) (N := 4) hx hb hts xin_Jx35411 tyJx35411 tyJx35411_ok nmJx35411 hown hK hP hD hS 1 rfl rfl 0 (by decide) (hts _ (xw_mem 1096 (by decide +kernel) rfl)) (fun _ h9 => h9) rfl (by decide +kernel) rfl rfl (Nat.le_of_ble_eq_true rfl) dJx35411_next_0502b_54 (fun H locs hP hD hS => ?_)
  have hP : va_P D vwCl [(y, .inr (15, [.int (ki mo), .ref ea, .int (ki (n : Int))])), (i, .inr (14, [.int (ki ((j + 1 : Nat) : Int)), .int (ki la), .int (ki mo), .ref y])), (ea, .inl (cy 6, cap, .inr (.inr (.inr (.inr f)))))] H := hP
  have hD : va_D A [(y, .inr (15, [.int (ki mo), .ref ea, .int (ki (n : Int))])), (i, .inr (14, [.int (ki ((j + 1 : Nat) : Int)), .int (ki la), .int (ki mo), .ref y])), (ea, .inl (cy 6, cap, .inr (.inr (.inr (.inr f)))))] := hD
  refine lv_aload_n hx hb dJx35411_next_0502b_57 rfl (lv_at hl 0 rfl) ?_
  refine lv_aload_n hx hb dJx35411_next_0502b_58 rfl (lv_at hl 2 rfl) ?_
  refine lv_iload_n hx hb dJx35411_next_0502b_59 rfl (lv_at hl 1 rfl) ?_
  refine lv_dup_x1 hx hb dJx35411_next_0502b_60 rfl rfl ?_
  refine va_put (D := D) (ci := 14) (v := .int (ki (j : Int))) (ty := .int) (C := RJx35411) (T := TJx35411) (N := 4) hx hb hts xin_Jx35411 tyJx35411 tyJx35411_ok nmJx35411 hown hK hP hD hS 1 rfl rfl 1 (by decide) (hts _ (xw_mem 1097 (by decide +kernel) rfl)) (fun _ h9 => h9) rfl (by decide +kernel) rfl rfl (Nat.le_of_ble_eq_true rfl) dJx35411_next_0502b_61 (fun H locs hP hD hS => ?_)
  have hP : va_P D vwCl [(y, .inr (15, [.int (ki mo), .ref ea, .int (ki (n : Int))])), (i, .inr (14, [.int (ki ((j + 1 : Nat) : Int)), .int (ki (j : Int)), .int (ki mo), .ref y])), (ea, .inl (cy 6, cap, .inr (.inr (.inr (.inr f)))))] H := hP
  have hD : va_D A [(y, .inr (15, [.int (ki mo), .ref ea, .int (ki (n : Int))])), (i, .inr (14, [.int (ki ((j + 1 : Nat) : Int)), .int (ki (j : Int)), .int (ki mo), .ref y])), (ea, .inl (cy 6, cap, .inr (.inr (.inr (.inr f)))))] := hD
  refine kv_aldq hx hb hK hP 2 6 rfl rfl (by omega) (by omega) (by omega) hf dJx35411_next_0502b_64 ?_
  have hP := hP.sub (ws' := [(y, .inr (15, [.int (ki mo), .ref ea, .int (ki (n : Int))])), (ea, .inl (cy 6, cap, .inr (.inr (.inr (.inr f))))), (i, .inr (14, [.int (ki ((j + 1 : Nat) : Int)), .int (ki (j : Int)), .int (ki mo), .ref y]))]) [0, 2, 1] rfl
  have hD := hD.sub (ws' := [(y, .inr (15, [.int (ki mo), .ref ea, .int (ki (n : Int))])), (ea, .inl (cy 6, cap, .inr (.inr (.inr (.inr f))))), (i, .inr (14, [.int (ki ((j + 1 : Nat) : Int)), .int (ki (j : Int)), .int (ki mo), .ref y]))]) [0, 2, 1] (by decide) rfl
  exact W.aret (v := .ref aj) (rt := .object "java/lang/Object") hx hb hr (Or.inl ⟨_, rfl⟩) (Or.inr ⟨_, rfl⟩) (fun t ht hW => ⟨⟨(), _, rfl, trivial, rfl, by rw [ht]; exact hP, hD⟩, hS.F ht⟩) hS.2.2 dJx35411_next_0502b_65
end C3
