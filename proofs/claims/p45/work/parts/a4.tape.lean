/-! part a4: the constructor of HotStack$Tape -/
set_option maxHeartbeats 8000000 in
set_option maxRecDepth 100000 in
theorem c_X9_init (l : Launch) (D : va_G) (cy : Nat → ClassId) (h0 sz : Nat) : Met l yX9_init (Cond.code yX9_init cX9_init 1 none :: xTB) ({ frames := 1, cells := 5, slots := 600, locals := 12 } : Room) (va_Pc [.ref h0] (fun U => U.heap.size = sz ∧ va_P D vwCl [(h0, .inr (9, [.null, .int 0, .null, .null, .int 0, .null, .null, .int 0, .int 0, .int 0]))] U.heap ∧ va_K D vwCl (xty cy) U ∧ va_D (fun _ => True) [(h0, .inr (9, [.null, .int 0, .null, .null, .int 0, .null, .null, .int 0, .int 0, .int 0]))])) (va_Qv (fun _ : Unit => True) (fun _ t => ∃ q1 q2 q3 q4 q5 : Nat, va_P D vwCl [(h0, .inr (9, [.ref q1, .int 0, .ref q2, .ref q3, .int 0, .ref q4, .ref q5, .int 0, .int 0, .int 0])), (q1, .inl (cy 0, 120, .inl (fun _ => (0 : Int32)))), (q2, .inl (cy 0, 120, .inl (fun _ => (0 : Int32)))), (q3, .inl (cy 0, 120, .inl (fun _ => (0 : Int32)))), (q4, .inl (cy 0, 120, .inl (fun _ => (0 : Int32)))), (q5, .inl (cy 0, 120, .inl (fun _ => (0 : Int32))))] t.heap ∧ va_D (va_A [(h0, .inr (9, [.null, .int 0, .null, .null, .int 0, .null, .null, .int 0, .int 0, .int 0]))] sz) [(h0, .inr (9, [.ref q1, .int 0, .ref q2, .ref q3, .int 0, .ref q4, .ref q5, .int 0, .int 0, .int 0])), (q1, .inl (cy 0, 120, .inl (fun _ => (0 : Int32)))), (q2, .inl (cy 0, 120, .inl (fun _ => (0 : Int32)))), (q3, .inl (cy 0, 120, .inl (fun _ => (0 : Int32)))), (q4, .inl (cy 0, 120, .inl (fun _ => (0 : Int32)))), (q5, .inl (cy 0, 120, .inl (fun _ => (0 : Int32))))]) (va_A [(h0, .inr (9, [.null, .int 0, .null, .null, .int 0, .null, .null, .int 0, .int 0, .int 0]))] sz)) 5 600 (va_A [(h0, .inr (9, [.null, .int 0, .null, .null, .int 0, .null, .null, .int 0, .int 0, .int 0]))] sz) := by
  refine Met.ofW (cc := cX9_init) (maxL := 1) (ret := none) (by decide) rfl ?_
  intro p e s m args below meth c s₁ B hml hv
  obtain ⟨rfl, hsz, hP, hK, hD0⟩ := hv
  have hx := B.exec
  have hb := B.bytes
  have hr := B.returns
  have hts : ∀ w ∈ xTB, w.before ([.ref h0] : List Value).toArray s = true := fun w hw => atoms_spec (ws := Cond.code yX9_init cX9_init 1 none :: xTB) B.pre w (List.mem_cons_of_mem _ hw)
  have hown : s.vm.findClass RX9 = some m.cls := findClass_of_methodNamed B.named
  have hin : meth.name = "<init>" := (name_of_methodNamed B.named B.method).1
  subst hsz
  have hD := hD0.self (sz := s.heap.size)
  generalize hAe : va_A [(h0, .inr (9, [.null, .int 0, .null, .null, .int 0, .null, .null, .int 0, .int 0, .int 0]))] s.heap.size = A at hD ⊢
  have hA : ∀ q : Nat, s.heap.size ≤ q → A q := fun q h => by rw [← hAe]; exact Or.inr h
  have hS : va_S A s.heap s.heap [] := va_S.rf
  have hP : va_P D vwCl [(h0, .inr (9, [.null, .int 0, .null, .null, .int 0, .null, .null, .int 0, .int 0, .int 0]))] s.heap := hP
  have hl := lv_entry ([.ref h0]) (n := 1) (Nat.le_of_ble_eq_true rfl)
  rw [lg_entry_eq]
  generalize (lg_sl ([.ref h0]) ++ List.replicate (1 - (lg_sl ([.ref h0])).length) Slot.unset).toArray = ls at hl ⊢
  have hl : lv_has ls 1 [(0, .ref h0)] := hl
  refine lv_aload_n hx hb dX9_init_0 rfl (lv_at hl 0 rfl) ?_
  refine W.objInit hx hb hown (hts _ (xw_mem 70 (by decide +kernel) rfl)) (hts _ (xw_mem 63 (by decide +kernel) rfl)) (hts _ (xw_mem 64 (by decide +kernel) rfl)) rfl (by rw [hml]; exact hl.1) rfl dX9_init_1 (Nat.le_of_ble_eq_true rfl) (Nat.le_of_ble_eq_true rfl) ?_
  refine W.eq (g2 := F0 m 4 ls []) rfl ?_
  refine lv_aload_n hx hb dX9_init_4 rfl (lv_at hl 0 rfl) ?_
  refine lv_bipush (v := (120 : Int32)) hx hb dX9_init_5 (by decide) ?_
  refine x_newa (atype := .int) (ty := .int) hx hb (hts _ xar_i) rfl hK 0 rfl hP hD hS hA (N' := 120) (a0 := (120, .inl (fun _ => (0 : Int32)))) rfl (by decide) (by decide) (Nat.le_of_ble_eq_true rfl) (Nat.le_of_ble_eq_true rfl) (Nat.le_of_ble_eq_true rfl) dX9_init_7 (fun q1 H hP hD hS hq1 hr1 => ?_)
  refine x_pf hx hb hts hown hin hK (ci := 9) (k := 0) (C := RX9) (T := TX9) (N := 10) rfl xin_X9 tyX9 tyX9_ok nmX9 (Nat.le_of_ble_eq_true rfl) rfl (xw_mem 71 (by decide +kernel) rfl) (ty := tyX9 0) (tyX9_ok 0 (Nat.le_of_ble_eq_true rfl)) rfl rfl hP hD hS 0 rfl (Nat.le_of_ble_eq_true rfl) dX9_init_9 (fun H locs hP hD hS => ?_)
  refine lv_aload_n hx hb dX9_init_12 rfl (lv_at hl 0 rfl) ?_
  refine lv_bipush (v := (120 : Int32)) hx hb dX9_init_13 (by decide) ?_
  refine x_newa (atype := .int) (ty := .int) hx hb (hts _ xar_i) rfl hK 0 rfl hP hD hS hA (N' := 120) (a0 := (120, .inl (fun _ => (0 : Int32)))) rfl (by decide) (by decide) (Nat.le_of_ble_eq_true rfl) (Nat.le_of_ble_eq_true rfl) (Nat.le_of_ble_eq_true rfl) dX9_init_15 (fun q2 H hP hD hS hq2 hr2 => ?_)
  refine x_pf hx hb hts hown hin hK (ci := 9) (k := 2) (C := RX9) (T := TX9) (N := 10) rfl xin_X9 tyX9 tyX9_ok nmX9 (Nat.le_of_ble_eq_true rfl) rfl (xw_mem 74 (by decide +kernel) rfl) (ty := tyX9 2) (tyX9_ok 2 (Nat.le_of_ble_eq_true rfl)) rfl rfl hP hD hS 0 rfl (Nat.le_of_ble_eq_true rfl) dX9_init_17 (fun H locs hP hD hS => ?_)
  refine lv_aload_n hx hb dX9_init_20 rfl (lv_at hl 0 rfl) ?_
  refine lv_bipush (v := (120 : Int32)) hx hb dX9_init_21 (by decide) ?_
  refine x_newa (atype := .int) (ty := .int) hx hb (hts _ xar_i) rfl hK 0 rfl hP hD hS hA (N' := 120) (a0 := (120, .inl (fun _ => (0 : Int32)))) rfl (by decide) (by decide) (Nat.le_of_ble_eq_true rfl) (Nat.le_of_ble_eq_true rfl) (Nat.le_of_ble_eq_true rfl) dX9_init_23 (fun q3 H hP hD hS hq3 hr3 => ?_)
  refine x_pf hx hb hts hown hin hK (ci := 9) (k := 3) (C := RX9) (T := TX9) (N := 10) rfl xin_X9 tyX9 tyX9_ok nmX9 (Nat.le_of_ble_eq_true rfl) rfl (xw_mem 76 (by decide +kernel) rfl) (ty := tyX9 3) (tyX9_ok 3 (Nat.le_of_ble_eq_true rfl)) rfl rfl hP hD hS 0 rfl (Nat.le_of_ble_eq_true rfl) dX9_init_25 (fun H locs hP hD hS => ?_)
  refine lv_aload_n hx hb dX9_init_28 rfl (lv_at hl 0 rfl) ?_
  refine lv_bipush (v := (120 : Int32)) hx hb dX9_init_29 (by decide) ?_
  refine x_newa (atype := .int) (ty := .int) hx hb (hts _ xar_i) rfl hK 0 rfl hP hD hS hA (N' := 120) (a0 := (120, .inl (fun _ => (0 : Int32)))) rfl (by decide) (by decide) (Nat.le_of_ble_eq_true rfl) (Nat.le_of_ble_eq_true rfl) (Nat.le_of_ble_eq_true rfl) dX9_init_31 (fun q4 H hP hD hS hq4 hr4 => ?_)
  refine x_pf hx hb hts hown hin hK (ci := 9) (k := 5) (C := RX9) (T := TX9) (N := 10) rfl xin_X9 tyX9 tyX9_ok nmX9 (Nat.le_of_ble_eq_true rfl) rfl (xw_mem 79 (by decide +kernel) rfl) (ty := tyX9 5) (tyX9_ok 5 (Nat.le_of_ble_eq_true rfl)) rfl rfl hP hD hS 0 rfl (Nat.le_of_ble_eq_true rfl) dX9_init_33 (fun H locs hP hD hS => ?_)
  refine lv_aload_n hx hb dX9_init_36 rfl (lv_at hl 0 rfl) ?_
  refine lv_bipush (v := (120 : Int32)) hx hb dX9_init_37 (by decide) ?_
  refine x_newa (atype := .int) (ty := .int) hx hb (hts _ xar_i) rfl hK 0 rfl hP hD hS hA (N' := 120) (a0 := (120, .inl (fun _ => (0 : Int32)))) rfl (by decide) (by decide) (Nat.le_of_ble_eq_true rfl) (Nat.le_of_ble_eq_true rfl) (Nat.le_of_ble_eq_true rfl) dX9_init_39 (fun q5 H hP hD hS hq5 hr5 => ?_)
  refine x_pf hx hb hts hown hin hK (ci := 9) (k := 6) (C := RX9) (T := TX9) (N := 10) rfl xin_X9 tyX9 tyX9_ok nmX9 (Nat.le_of_ble_eq_true rfl) rfl (xw_mem 81 (by decide +kernel) rfl) (ty := tyX9 6) (tyX9_ok 6 (Nat.le_of_ble_eq_true rfl)) rfl rfl hP hD hS 0 rfl (Nat.le_of_ble_eq_true rfl) dX9_init_41 (fun H locs hP hD hS => ?_)
  have hP : va_P D vwCl [(h0, .inr (9, [.ref q1, .int 0, .ref q2, .ref q3, .int 0, .ref q4, .ref q5, .int 0, .int 0, .int 0])), (q1, .inl (cy 0, 120, .inl (fun _ => (0 : Int32)))), (q2, .inl (cy 0, 120, .inl (fun _ => (0 : Int32)))), (q3, .inl (cy 0, 120, .inl (fun _ => (0 : Int32)))), (q4, .inl (cy 0, 120, .inl (fun _ => (0 : Int32)))), (q5, .inl (cy 0, 120, .inl (fun _ => (0 : Int32))))] H := hP
  have hD : va_D A [(h0, .inr (9, [.ref q1, .int 0, .ref q2, .ref q3, .int 0, .ref q4, .ref q5, .int 0, .int 0, .int 0])), (q1, .inl (cy 0, 120, .inl (fun _ => (0 : Int32)))), (q2, .inl (cy 0, 120, .inl (fun _ => (0 : Int32)))), (q3, .inl (cy 0, 120, .inl (fun _ => (0 : Int32)))), (q4, .inl (cy 0, 120, .inl (fun _ => (0 : Int32)))), (q5, .inl (cy 0, 120, .inl (fun _ => (0 : Int32))))] := hD
  refine W.widen (k := 5) (n := 600) (Nat.le_of_ble_eq_true rfl) (Nat.le_of_ble_eq_true rfl) ?_
  exact W.vret hx hb hr (fun t ht hW => ⟨⟨(), rfl, trivial, q1, q2, q3, q4, q5, by rw [ht]; exact hP, hD⟩, hS.F ht⟩) hS.2.2 dX9_init_44
