/-! part a5: the constructor of HotStack$Law -/
set_option maxHeartbeats 8000000 in
set_option maxRecDepth 100000 in
theorem c_X5_init (l : Launch) (D : va_G) (cy : Nat → ClassId) (h0 sz : Nat) : Met l yX5_init (Cond.code yX5_init cX5_init 1 none :: xTB) ({ frames := 1, cells := 7, slots := 2600, locals := 12 } : Room) (va_Pc [.ref h0] (fun U => U.heap.size = sz ∧ va_P D vwCl [(h0, .inr (5, [.int 0, .null, .null, .null, .null, .null, .null, .null]))] U.heap ∧ va_K D vwCl (xty cy) U ∧ va_D (fun _ => True) [(h0, .inr (5, [.int 0, .null, .null, .null, .null, .null, .null, .null]))])) (va_Qv (fun _ : Unit => True) (fun _ t => ∃ q1 q2 q3 q4 q5 q6 q7 : Nat, va_P D vwCl [(h0, .inr (5, [.int 0, .ref q1, .ref q2, .ref q3, .ref q4, .ref q5, .ref q6, .ref q7])), (q1, .inl (cy 0, 120, .inl (fun _ => (0 : Int32)))), (q2, .inl (cy 0, 120, .inl (fun _ => (0 : Int32)))), (q3, .inl (cy 0, 120, .inl (fun _ => (0 : Int32)))), (q4, .inl (cy 0, 120, .inl (fun _ => (0 : Int32)))), (q5, .inl (cy 0, 8, .inl (fun _ => (0 : Int32)))), (q6, .inl (cy 0, 64, .inl (fun _ => (0 : Int32)))), (q7, .inl (cy 0, 2048, .inl (fun _ => (0 : Int32))))] t.heap ∧ va_D (va_A [(h0, .inr (5, [.int 0, .null, .null, .null, .null, .null, .null, .null]))] sz) [(h0, .inr (5, [.int 0, .ref q1, .ref q2, .ref q3, .ref q4, .ref q5, .ref q6, .ref q7])), (q1, .inl (cy 0, 120, .inl (fun _ => (0 : Int32)))), (q2, .inl (cy 0, 120, .inl (fun _ => (0 : Int32)))), (q3, .inl (cy 0, 120, .inl (fun _ => (0 : Int32)))), (q4, .inl (cy 0, 120, .inl (fun _ => (0 : Int32)))), (q5, .inl (cy 0, 8, .inl (fun _ => (0 : Int32)))), (q6, .inl (cy 0, 64, .inl (fun _ => (0 : Int32)))), (q7, .inl (cy 0, 2048, .inl (fun _ => (0 : Int32))))]) (va_A [(h0, .inr (5, [.int 0, .null, .null, .null, .null, .null, .null, .null]))] sz)) 7 2600 (va_A [(h0, .inr (5, [.int 0, .null, .null, .null, .null, .null, .null, .null]))] sz) := by
  refine Met.ofW (cc := cX5_init) (maxL := 1) (ret := none) (by decide) rfl ?_
  intro p e s m args below meth c s₁ B hml hv
  obtain ⟨rfl, hsz, hP, hK, hD0⟩ := hv
  have hx := B.exec
  have hb := B.bytes
  have hr := B.returns
  have hts : ∀ w ∈ xTB, w.before ([.ref h0] : List Value).toArray s = true := fun w hw => atoms_spec (ws := Cond.code yX5_init cX5_init 1 none :: xTB) B.pre w (List.mem_cons_of_mem _ hw)
  have hown : s.vm.findClass RX5 = some m.cls := findClass_of_methodNamed B.named
  have hin : meth.name = "<init>" := (name_of_methodNamed B.named B.method).1
  subst hsz
  have hD := hD0.self (sz := s.heap.size)
  generalize hAe : va_A [(h0, .inr (5, [.int 0, .null, .null, .null, .null, .null, .null, .null]))] s.heap.size = A at hD ⊢
  have hA : ∀ q : Nat, s.heap.size ≤ q → A q := fun q h => by rw [← hAe]; exact Or.inr h
  have hS : va_S A s.heap s.heap [] := va_S.rf
  have hP : va_P D vwCl [(h0, .inr (5, [.int 0, .null, .null, .null, .null, .null, .null, .null]))] s.heap := hP
  have hl := lv_entry ([.ref h0]) (n := 1) (Nat.le_of_ble_eq_true rfl)
  rw [lg_entry_eq]
  generalize (lg_sl ([.ref h0]) ++ List.replicate (1 - (lg_sl ([.ref h0])).length) Slot.unset).toArray = ls at hl ⊢
  have hl : lv_has ls 1 [(0, .ref h0)] := hl
  refine lv_aload_n hx hb dX5_init_0 rfl (lv_at hl 0 rfl) ?_
  refine W.objInit hx hb hown (hts _ (xw_mem 114 (by decide +kernel) rfl)) (hts _ (xw_mem 63 (by decide +kernel) rfl)) (hts _ (xw_mem 64 (by decide +kernel) rfl)) rfl (by rw [hml]; exact hl.1) rfl dX5_init_1 (Nat.le_of_ble_eq_true rfl) (Nat.le_of_ble_eq_true rfl) ?_
  refine W.eq (g2 := F0 m 4 ls []) rfl ?_
  refine lv_aload_n hx hb dX5_init_4 rfl (lv_at hl 0 rfl) ?_
  refine lv_bipush (v := (120 : Int32)) hx hb dX5_init_5 (by decide) ?_
  refine x_newa (atype := .int) (ty := .int) hx hb (hts _ xar_i) rfl hK 0 rfl hP hD hS hA (N' := 120) (a0 := (120, .inl (fun _ => (0 : Int32)))) rfl (by decide) (by decide) (Nat.le_of_ble_eq_true rfl) (Nat.le_of_ble_eq_true rfl) (Nat.le_of_ble_eq_true rfl) dX5_init_7 (fun q1 H hP hD hS hq1 hr1 => ?_)
  refine x_pf hx hb hts hown hin hK (ci := 5) (k := 1) (C := RX5) (T := TX5) (N := 8) rfl xin_X5 tyX5 tyX5_ok nmX5 (Nat.le_of_ble_eq_true rfl) rfl (xw_mem 116 (by decide +kernel) rfl) (ty := tyX5 1) (tyX5_ok 1 (Nat.le_of_ble_eq_true rfl)) rfl rfl hP hD hS 0 rfl (Nat.le_of_ble_eq_true rfl) dX5_init_9 (fun H locs hP hD hS => ?_)
  refine lv_aload_n hx hb dX5_init_12 rfl (lv_at hl 0 rfl) ?_
  refine lv_bipush (v := (120 : Int32)) hx hb dX5_init_13 (by decide) ?_
  refine x_newa (atype := .int) (ty := .int) hx hb (hts _ xar_i) rfl hK 0 rfl hP hD hS hA (N' := 120) (a0 := (120, .inl (fun _ => (0 : Int32)))) rfl (by decide) (by decide) (Nat.le_of_ble_eq_true rfl) (Nat.le_of_ble_eq_true rfl) (Nat.le_of_ble_eq_true rfl) dX5_init_15 (fun q2 H hP hD hS hq2 hr2 => ?_)
  refine x_pf hx hb hts hown hin hK (ci := 5) (k := 2) (C := RX5) (T := TX5) (N := 8) rfl xin_X5 tyX5 tyX5_ok nmX5 (Nat.le_of_ble_eq_true rfl) rfl (xw_mem 117 (by decide +kernel) rfl) (ty := tyX5 2) (tyX5_ok 2 (Nat.le_of_ble_eq_true rfl)) rfl rfl hP hD hS 0 rfl (Nat.le_of_ble_eq_true rfl) dX5_init_17 (fun H locs hP hD hS => ?_)
  refine lv_aload_n hx hb dX5_init_20 rfl (lv_at hl 0 rfl) ?_
  refine lv_bipush (v := (120 : Int32)) hx hb dX5_init_21 (by decide) ?_
  refine x_newa (atype := .int) (ty := .int) hx hb (hts _ xar_i) rfl hK 0 rfl hP hD hS hA (N' := 120) (a0 := (120, .inl (fun _ => (0 : Int32)))) rfl (by decide) (by decide) (Nat.le_of_ble_eq_true rfl) (Nat.le_of_ble_eq_true rfl) (Nat.le_of_ble_eq_true rfl) dX5_init_23 (fun q3 H hP hD hS hq3 hr3 => ?_)
  refine x_pf hx hb hts hown hin hK (ci := 5) (k := 3) (C := RX5) (T := TX5) (N := 8) rfl xin_X5 tyX5 tyX5_ok nmX5 (Nat.le_of_ble_eq_true rfl) rfl (xw_mem 118 (by decide +kernel) rfl) (ty := tyX5 3) (tyX5_ok 3 (Nat.le_of_ble_eq_true rfl)) rfl rfl hP hD hS 0 rfl (Nat.le_of_ble_eq_true rfl) dX5_init_25 (fun H locs hP hD hS => ?_)
  refine lv_aload_n hx hb dX5_init_28 rfl (lv_at hl 0 rfl) ?_
  refine lv_bipush (v := (120 : Int32)) hx hb dX5_init_29 (by decide) ?_
  refine x_newa (atype := .int) (ty := .int) hx hb (hts _ xar_i) rfl hK 0 rfl hP hD hS hA (N' := 120) (a0 := (120, .inl (fun _ => (0 : Int32)))) rfl (by decide) (by decide) (Nat.le_of_ble_eq_true rfl) (Nat.le_of_ble_eq_true rfl) (Nat.le_of_ble_eq_true rfl) dX5_init_31 (fun q4 H hP hD hS hq4 hr4 => ?_)
  refine x_pf hx hb hts hown hin hK (ci := 5) (k := 4) (C := RX5) (T := TX5) (N := 8) rfl xin_X5 tyX5 tyX5_ok nmX5 (Nat.le_of_ble_eq_true rfl) rfl (xw_mem 119 (by decide +kernel) rfl) (ty := tyX5 4) (tyX5_ok 4 (Nat.le_of_ble_eq_true rfl)) rfl rfl hP hD hS 0 rfl (Nat.le_of_ble_eq_true rfl) dX5_init_33 (fun H locs hP hD hS => ?_)
  refine lv_aload_n hx hb dX5_init_36 rfl (lv_at hl 0 rfl) ?_
  refine lv_bipush (v := (8 : Int32)) hx hb dX5_init_37 (by decide) ?_
  refine x_newa (atype := .int) (ty := .int) hx hb (hts _ xar_i) rfl hK 0 rfl hP hD hS hA (N' := 8) (a0 := (8, .inl (fun _ => (0 : Int32)))) rfl (by decide) (by decide) (Nat.le_of_ble_eq_true rfl) (Nat.le_of_ble_eq_true rfl) (Nat.le_of_ble_eq_true rfl) dX5_init_39 (fun q5 H hP hD hS hq5 hr5 => ?_)
  refine x_pf hx hb hts hown hin hK (ci := 5) (k := 5) (C := RX5) (T := TX5) (N := 8) rfl xin_X5 tyX5 tyX5_ok nmX5 (Nat.le_of_ble_eq_true rfl) rfl (xw_mem 120 (by decide +kernel) rfl) (ty := tyX5 5) (tyX5_ok 5 (Nat.le_of_ble_eq_true rfl)) rfl rfl hP hD hS 0 rfl (Nat.le_of_ble_eq_true rfl) dX5_init_41 (fun H locs hP hD hS => ?_)
  refine lv_aload_n hx hb dX5_init_44 rfl (lv_at hl 0 rfl) ?_
  refine lv_bipush (v := (64 : Int32)) hx hb dX5_init_45 (by decide) ?_
  refine x_newa (atype := .int) (ty := .int) hx hb (hts _ xar_i) rfl hK 0 rfl hP hD hS hA (N' := 64) (a0 := (64, .inl (fun _ => (0 : Int32)))) rfl (by decide) (by decide) (Nat.le_of_ble_eq_true rfl) (Nat.le_of_ble_eq_true rfl) (Nat.le_of_ble_eq_true rfl) dX5_init_47 (fun q6 H hP hD hS hq6 hr6 => ?_)
  refine x_pf hx hb hts hown hin hK (ci := 5) (k := 6) (C := RX5) (T := TX5) (N := 8) rfl xin_X5 tyX5 tyX5_ok nmX5 (Nat.le_of_ble_eq_true rfl) rfl (xw_mem 121 (by decide +kernel) rfl) (ty := tyX5 6) (tyX5_ok 6 (Nat.le_of_ble_eq_true rfl)) rfl rfl hP hD hS 0 rfl (Nat.le_of_ble_eq_true rfl) dX5_init_49 (fun H locs hP hD hS => ?_)
  refine lv_aload_n hx hb dX5_init_52 rfl (lv_at hl 0 rfl) ?_
  refine lv_sipush (v := (2048 : Int32)) hx hb dX5_init_53 (by decide) ?_
  refine x_newa (atype := .int) (ty := .int) hx hb (hts _ xar_i) rfl hK 0 rfl hP hD hS hA (N' := 2048) (a0 := (2048, .inl (fun _ => (0 : Int32)))) rfl (by decide) (by decide) (Nat.le_of_ble_eq_true rfl) (Nat.le_of_ble_eq_true rfl) (Nat.le_of_ble_eq_true rfl) dX5_init_56 (fun q7 H hP hD hS hq7 hr7 => ?_)
  refine x_pf hx hb hts hown hin hK (ci := 5) (k := 7) (C := RX5) (T := TX5) (N := 8) rfl xin_X5 tyX5 tyX5_ok nmX5 (Nat.le_of_ble_eq_true rfl) rfl (xw_mem 122 (by decide +kernel) rfl) (ty := tyX5 7) (tyX5_ok 7 (Nat.le_of_ble_eq_true rfl)) rfl rfl hP hD hS 0 rfl (Nat.le_of_ble_eq_true rfl) dX5_init_58 (fun H locs hP hD hS => ?_)
  have hP : va_P D vwCl [(h0, .inr (5, [.int 0, .ref q1, .ref q2, .ref q3, .ref q4, .ref q5, .ref q6, .ref q7])), (q1, .inl (cy 0, 120, .inl (fun _ => (0 : Int32)))), (q2, .inl (cy 0, 120, .inl (fun _ => (0 : Int32)))), (q3, .inl (cy 0, 120, .inl (fun _ => (0 : Int32)))), (q4, .inl (cy 0, 120, .inl (fun _ => (0 : Int32)))), (q5, .inl (cy 0, 8, .inl (fun _ => (0 : Int32)))), (q6, .inl (cy 0, 64, .inl (fun _ => (0 : Int32)))), (q7, .inl (cy 0, 2048, .inl (fun _ => (0 : Int32))))] H := hP
  have hD : va_D A [(h0, .inr (5, [.int 0, .ref q1, .ref q2, .ref q3, .ref q4, .ref q5, .ref q6, .ref q7])), (q1, .inl (cy 0, 120, .inl (fun _ => (0 : Int32)))), (q2, .inl (cy 0, 120, .inl (fun _ => (0 : Int32)))), (q3, .inl (cy 0, 120, .inl (fun _ => (0 : Int32)))), (q4, .inl (cy 0, 120, .inl (fun _ => (0 : Int32)))), (q5, .inl (cy 0, 8, .inl (fun _ => (0 : Int32)))), (q6, .inl (cy 0, 64, .inl (fun _ => (0 : Int32)))), (q7, .inl (cy 0, 2048, .inl (fun _ => (0 : Int32))))] := hD
  refine W.widen (k := 7) (n := 2600) (Nat.le_of_ble_eq_true rfl) (Nat.le_of_ble_eq_true rfl) ?_
  exact W.vret hx hb hr (fun t ht hW => ⟨⟨(), rfl, trivial, q1, q2, q3, q4, q5, q6, q7, by rw [ht]; exact hP, hD⟩, hS.F ht⟩) hS.2.2 dX5_init_61
