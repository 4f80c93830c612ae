/-! part a9: the constructor of HotStack$Laying -/
set_option maxHeartbeats 8000000 in
set_option maxRecDepth 100000 in
theorem c_X6_init (l : Launch) (D : va_G) (cy : Nat → ClassId) (h0 sz x1 x2 : Nat) : Met l yX6_init (Cond.code yX6_init cX6_init 3 none :: xTB) ({ frames := 1, cells := 3, slots := 18, locals := 12 } : Room) (va_Pc [.ref h0, .ref x1, .ref x2] (fun U => U.heap.size = sz ∧ va_P D vwCl [(h0, .inr (6, [.null, .null, .null, .null, .null, .int 0, .int 0]))] U.heap ∧ va_K D vwCl (xty cy) U ∧ va_D (fun _ => True) [(h0, .inr (6, [.null, .null, .null, .null, .null, .int 0, .int 0]))])) (va_Qv (fun _ : Unit => True) (fun _ t => ∃ q1 q2 q3 : Nat, va_P D vwCl [(h0, .inr (6, [.ref x1, .ref x2, .ref q1, .ref q2, .ref q3, .int 0, .int 0])), (q1, .inl (cy 0, 6, .inl (fun _ => (0 : Int32)))), (q2, .inl (cy 0, 6, .inl (fun _ => (0 : Int32)))), (q3, .inl (cy 0, 6, .inl (fun _ => (0 : Int32))))] t.heap ∧ va_D (va_A [(h0, .inr (6, [.null, .null, .null, .null, .null, .int 0, .int 0]))] sz) [(h0, .inr (6, [.ref x1, .ref x2, .ref q1, .ref q2, .ref q3, .int 0, .int 0])), (q1, .inl (cy 0, 6, .inl (fun _ => (0 : Int32)))), (q2, .inl (cy 0, 6, .inl (fun _ => (0 : Int32)))), (q3, .inl (cy 0, 6, .inl (fun _ => (0 : Int32))))]) (va_A [(h0, .inr (6, [.null, .null, .null, .null, .null, .int 0, .int 0]))] sz)) 3 18 (va_A [(h0, .inr (6, [.null, .null, .null, .null, .null, .int 0, .int 0]))] sz) := by
  refine Met.ofW (cc := cX6_init) (maxL := 3) (ret := none) (by decide) rfl ?_
  intro p e s m args below meth c s₁ B hml hv
  obtain ⟨rfl, hsz, hP, hK, hD0⟩ := hv
  have hx := B.exec
  have hb := B.bytes
  have hr := B.returns
  have hts : ∀ w ∈ xTB, w.before ([.ref h0, .ref x1, .ref x2] : List Value).toArray s = true := fun w hw => atoms_spec (ws := Cond.code yX6_init cX6_init 3 none :: xTB) B.pre w (List.mem_cons_of_mem _ hw)
  have hown : s.vm.findClass RX6 = some m.cls := findClass_of_methodNamed B.named
  have hin : meth.name = "<init>" := (name_of_methodNamed B.named B.method).1
  subst hsz
  have hD := hD0.self (sz := s.heap.size)
  generalize hAe : va_A [(h0, .inr (6, [.null, .null, .null, .null, .null, .int 0, .int 0]))] s.heap.size = A at hD ⊢
  have hA : ∀ q : Nat, s.heap.size ≤ q → A q := fun q h => by rw [← hAe]; exact Or.inr h
  have hS : va_S A s.heap s.heap [] := va_S.rf
  have hP : va_P D vwCl [(h0, .inr (6, [.null, .null, .null, .null, .null, .int 0, .int 0]))] s.heap := hP
  have hl := lv_entry ([.ref h0, .ref x1, .ref x2]) (n := 3) (Nat.le_of_ble_eq_true rfl)
  rw [lg_entry_eq]
  generalize (lg_sl ([.ref h0, .ref x1, .ref x2]) ++ List.replicate (3 - (lg_sl ([.ref h0, .ref x1, .ref x2])).length) Slot.unset).toArray = ls at hl ⊢
  have hl : lv_has ls 3 [(0, .ref h0), (1, .ref x1), (2, .ref x2)] := hl
  refine lv_aload_n hx hb dX6_init_0 rfl (lv_at hl 0 rfl) ?_
  refine W.objInit hx hb hown (hts _ (xw_mem 239 (by decide +kernel) rfl)) (hts _ (xw_mem 63 (by decide +kernel) rfl)) (hts _ (xw_mem 64 (by decide +kernel) rfl)) rfl (by rw [hml]; exact hl.1) rfl dX6_init_1 (Nat.le_of_ble_eq_true rfl) (Nat.le_of_ble_eq_true rfl) ?_
  refine W.eq (g2 := F0 m 4 ls []) rfl ?_
  refine lv_aload_n hx hb dX6_init_4 rfl (lv_at hl 0 rfl) ?_
  refine lv_bipush (v := (6 : Int32)) hx hb dX6_init_5 (by decide) ?_
  refine x_newa (atype := .int) (ty := .int) hx hb (hts _ xar_i) rfl hK 0 rfl hP hD hS hA (N' := 6) (a0 := (6, .inl (fun _ => (0 : Int32)))) rfl (by decide) (by decide) (Nat.le_of_ble_eq_true rfl) (Nat.le_of_ble_eq_true rfl) (Nat.le_of_ble_eq_true rfl) dX6_init_7 (fun q1 H hP hD hS hq1 hr1 => ?_)
  refine x_pf hx hb hts hown hin hK (ci := 6) (k := 2) (C := RX6) (T := TX6) (N := 7) rfl xin_X6 tyX6 tyX6_ok nmX6 (Nat.le_of_ble_eq_true rfl) rfl (xw_mem 242 (by decide +kernel) rfl) (ty := tyX6 2) (tyX6_ok 2 (Nat.le_of_ble_eq_true rfl)) rfl rfl hP hD hS 0 rfl (Nat.le_of_ble_eq_true rfl) dX6_init_9 (fun H locs hP hD hS => ?_)
  refine lv_aload_n hx hb dX6_init_12 rfl (lv_at hl 0 rfl) ?_
  refine lv_bipush (v := (6 : Int32)) hx hb dX6_init_13 (by decide) ?_
  refine x_newa (atype := .int) (ty := .int) hx hb (hts _ xar_i) rfl hK 0 rfl hP hD hS hA (N' := 6) (a0 := (6, .inl (fun _ => (0 : Int32)))) rfl (by decide) (by decide) (Nat.le_of_ble_eq_true rfl) (Nat.le_of_ble_eq_true rfl) (Nat.le_of_ble_eq_true rfl) dX6_init_15 (fun q2 H hP hD hS hq2 hr2 => ?_)
  refine x_pf hx hb hts hown hin hK (ci := 6) (k := 3) (C := RX6) (T := TX6) (N := 7) rfl xin_X6 tyX6 tyX6_ok nmX6 (Nat.le_of_ble_eq_true rfl) rfl (xw_mem 243 (by decide +kernel) rfl) (ty := tyX6 3) (tyX6_ok 3 (Nat.le_of_ble_eq_true rfl)) rfl rfl hP hD hS 0 rfl (Nat.le_of_ble_eq_true rfl) dX6_init_17 (fun H locs hP hD hS => ?_)
  refine lv_aload_n hx hb dX6_init_20 rfl (lv_at hl 0 rfl) ?_
  refine lv_bipush (v := (6 : Int32)) hx hb dX6_init_21 (by decide) ?_
  refine x_newa (atype := .int) (ty := .int) hx hb (hts _ xar_i) rfl hK 0 rfl hP hD hS hA (N' := 6) (a0 := (6, .inl (fun _ => (0 : Int32)))) rfl (by decide) (by decide) (Nat.le_of_ble_eq_true rfl) (Nat.le_of_ble_eq_true rfl) (Nat.le_of_ble_eq_true rfl) dX6_init_23 (fun q3 H hP hD hS hq3 hr3 => ?_)
  refine x_pf hx hb hts hown hin hK (ci := 6) (k := 4) (C := RX6) (T := TX6) (N := 7) rfl xin_X6 tyX6 tyX6_ok nmX6 (Nat.le_of_ble_eq_true rfl) rfl (xw_mem 244 (by decide +kernel) rfl) (ty := tyX6 4) (tyX6_ok 4 (Nat.le_of_ble_eq_true rfl)) rfl rfl hP hD hS 0 rfl (Nat.le_of_ble_eq_true rfl) dX6_init_25 (fun H locs hP hD hS => ?_)
  refine lv_aload_n hx hb dX6_init_28 rfl (lv_at hl 0 rfl) ?_
  refine lv_aload_n hx hb dX6_init_29 rfl (lv_at hl 1 rfl) ?_
  refine x_pf hx hb hts hown hin hK (ci := 6) (k := 0) (C := RX6) (T := TX6) (N := 7) rfl xin_X6 tyX6 tyX6_ok nmX6 (Nat.le_of_ble_eq_true rfl) rfl (xw_mem 240 (by decide +kernel) rfl) (ty := tyX6 0) (tyX6_ok 0 (Nat.le_of_ble_eq_true rfl)) rfl rfl hP hD hS 0 rfl (Nat.le_of_ble_eq_true rfl) dX6_init_30 (fun H locs hP hD hS => ?_)
  refine lv_aload_n hx hb dX6_init_33 rfl (lv_at hl 0 rfl) ?_
  refine lv_aload_n hx hb dX6_init_34 rfl (lv_at hl 2 rfl) ?_
  refine x_pf hx hb hts hown hin hK (ci := 6) (k := 1) (C := RX6) (T := TX6) (N := 7) rfl xin_X6 tyX6 tyX6_ok nmX6 (Nat.le_of_ble_eq_true rfl) rfl (xw_mem 241 (by decide +kernel) rfl) (ty := tyX6 1) (tyX6_ok 1 (Nat.le_of_ble_eq_true rfl)) rfl rfl hP hD hS 0 rfl (Nat.le_of_ble_eq_true rfl) dX6_init_35 (fun H locs hP hD hS => ?_)
  have hP : va_P D vwCl [(h0, .inr (6, [.ref x1, .ref x2, .ref q1, .ref q2, .ref q3, .int 0, .int 0])), (q1, .inl (cy 0, 6, .inl (fun _ => (0 : Int32)))), (q2, .inl (cy 0, 6, .inl (fun _ => (0 : Int32)))), (q3, .inl (cy 0, 6, .inl (fun _ => (0 : Int32))))] H := hP
  have hD : va_D A [(h0, .inr (6, [.ref x1, .ref x2, .ref q1, .ref q2, .ref q3, .int 0, .int 0])), (q1, .inl (cy 0, 6, .inl (fun _ => (0 : Int32)))), (q2, .inl (cy 0, 6, .inl (fun _ => (0 : Int32)))), (q3, .inl (cy 0, 6, .inl (fun _ => (0 : Int32))))] := hD
  refine W.widen (k := 3) (n := 18) (Nat.le_of_ble_eq_true rfl) (Nat.le_of_ble_eq_true rfl) ?_
  exact W.vret hx hb hr (fun t ht hW => ⟨⟨(), rfl, trivial, q1, q2, q3, by rw [ht]; exact hP, hD⟩, hS.F ht⟩) hS.2.2 dX6_init_38
