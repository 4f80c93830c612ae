/-! part a8: the constructor of HotStack$Bodies -/
set_option maxHeartbeats 8000000 in
set_option maxRecDepth 100000 in
theorem c_X0_init (l : Launch) (D : va_G) (cy : Nat → ClassId) (h0 sz : Nat) : Met l yX0_init (Cond.code yX0_init cX0_init 1 none :: xTB) ({ frames := 1, cells := 2, slots := 74, locals := 12 } : Room) (va_Pc [.ref h0] (fun U => U.heap.size = sz ∧ va_P D vwCl [(h0, .inr (0, [.null, .int 0, .null, .int 0, .int 0]))] U.heap ∧ va_K D vwCl (xty cy) U ∧ va_D (fun _ => True) [(h0, .inr (0, [.null, .int 0, .null, .int 0, .int 0]))])) (va_Qv (fun _ : Unit => True) (fun _ t => ∃ q1 q2 : Nat, va_P D vwCl [(h0, .inr (0, [.ref q1, .int 0, .ref q2, .int 0, .int 0])), (q1, .inl (cy 0, 50, .inl (fun _ => (0 : Int32)))), (q2, .inl (cy 0, 24, .inl (fun _ => (0 : Int32))))] t.heap ∧ va_D (va_A [(h0, .inr (0, [.null, .int 0, .null, .int 0, .int 0]))] sz) [(h0, .inr (0, [.ref q1, .int 0, .ref q2, .int 0, .int 0])), (q1, .inl (cy 0, 50, .inl (fun _ => (0 : Int32)))), (q2, .inl (cy 0, 24, .inl (fun _ => (0 : Int32))))]) (va_A [(h0, .inr (0, [.null, .int 0, .null, .int 0, .int 0]))] sz)) 2 74 (va_A [(h0, .inr (0, [.null, .int 0, .null, .int 0, .int 0]))] sz) := by
  refine Met.ofW (cc := cX0_init) (maxL := 1) (ret := none) (by decide) rfl ?_
  intro p e s m args below meth c s₁ B hml hv
  obtain ⟨rfl, hsz, hP, hK, hD0⟩ := hv
  have hx := B.exec
  have hb := B.bytes
  have hr := B.returns
  have hts : ∀ w ∈ xTB, w.before ([.ref h0] : List Value).toArray s = true := fun w hw => atoms_spec (ws := Cond.code yX0_init cX0_init 1 none :: xTB) B.pre w (List.mem_cons_of_mem _ hw)
  have hown : s.vm.findClass RX0 = some m.cls := findClass_of_methodNamed B.named
  have hin : meth.name = "<init>" := (name_of_methodNamed B.named B.method).1
  subst hsz
  have hD := hD0.self (sz := s.heap.size)
  generalize hAe : va_A [(h0, .inr (0, [.null, .int 0, .null, .int 0, .int 0]))] s.heap.size = A at hD ⊢
  have hA : ∀ q : Nat, s.heap.size ≤ q → A q := fun q h => by rw [← hAe]; exact Or.inr h
  have hS : va_S A s.heap s.heap [] := va_S.rf
  have hP : va_P D vwCl [(h0, .inr (0, [.null, .int 0, .null, .int 0, .int 0]))] s.heap := hP
  have hl := lv_entry ([.ref h0]) (n := 1) (Nat.le_of_ble_eq_true rfl)
  rw [lg_entry_eq]
  generalize (lg_sl ([.ref h0]) ++ List.replicate (1 - (lg_sl ([.ref h0])).length) Slot.unset).toArray = ls at hl ⊢
  have hl : lv_has ls 1 [(0, .ref h0)] := hl
  refine lv_aload_n hx hb dX0_init_0 rfl (lv_at hl 0 rfl) ?_
  refine W.objInit hx hb hown (hts _ (xw_mem 337 (by decide +kernel) rfl)) (hts _ (xw_mem 63 (by decide +kernel) rfl)) (hts _ (xw_mem 64 (by decide +kernel) rfl)) rfl (by rw [hml]; exact hl.1) rfl dX0_init_1 (Nat.le_of_ble_eq_true rfl) (Nat.le_of_ble_eq_true rfl) ?_
  refine W.eq (g2 := F0 m 4 ls []) rfl ?_
  refine lv_aload_n hx hb dX0_init_4 rfl (lv_at hl 0 rfl) ?_
  refine lv_bipush (v := (50 : Int32)) hx hb dX0_init_5 (by decide) ?_
  refine x_newa (atype := .int) (ty := .int) hx hb (hts _ xar_i) rfl hK 0 rfl hP hD hS hA (N' := 50) (a0 := (50, .inl (fun _ => (0 : Int32)))) rfl (by decide) (by decide) (Nat.le_of_ble_eq_true rfl) (Nat.le_of_ble_eq_true rfl) (Nat.le_of_ble_eq_true rfl) dX0_init_7 (fun q1 H hP hD hS hq1 hr1 => ?_)
  refine x_pf hx hb hts hown hin hK (ci := 0) (k := 0) (C := RX0) (T := TX0) (N := 5) rfl xin_X0 tyX0 tyX0_ok nmX0 (Nat.le_of_ble_eq_true rfl) rfl (xw_mem 338 (by decide +kernel) rfl) (ty := tyX0 0) (tyX0_ok 0 (Nat.le_of_ble_eq_true rfl)) rfl rfl hP hD hS 0 rfl (Nat.le_of_ble_eq_true rfl) dX0_init_9 (fun H locs hP hD hS => ?_)
  refine lv_aload_n hx hb dX0_init_12 rfl (lv_at hl 0 rfl) ?_
  refine lv_bipush (v := (24 : Int32)) hx hb dX0_init_13 (by decide) ?_
  refine x_newa (atype := .int) (ty := .int) hx hb (hts _ xar_i) rfl hK 0 rfl hP hD hS hA (N' := 24) (a0 := (24, .inl (fun _ => (0 : Int32)))) rfl (by decide) (by decide) (Nat.le_of_ble_eq_true rfl) (Nat.le_of_ble_eq_true rfl) (Nat.le_of_ble_eq_true rfl) dX0_init_15 (fun q2 H hP hD hS hq2 hr2 => ?_)
  refine x_pf hx hb hts hown hin hK (ci := 0) (k := 2) (C := RX0) (T := TX0) (N := 5) rfl xin_X0 tyX0 tyX0_ok nmX0 (Nat.le_of_ble_eq_true rfl) rfl (xw_mem 340 (by decide +kernel) rfl) (ty := tyX0 2) (tyX0_ok 2 (Nat.le_of_ble_eq_true rfl)) rfl rfl hP hD hS 0 rfl (Nat.le_of_ble_eq_true rfl) dX0_init_17 (fun H locs hP hD hS => ?_)
  have hP : va_P D vwCl [(h0, .inr (0, [.ref q1, .int 0, .ref q2, .int 0, .int 0])), (q1, .inl (cy 0, 50, .inl (fun _ => (0 : Int32)))), (q2, .inl (cy 0, 24, .inl (fun _ => (0 : Int32))))] H := hP
  have hD : va_D A [(h0, .inr (0, [.ref q1, .int 0, .ref q2, .int 0, .int 0])), (q1, .inl (cy 0, 50, .inl (fun _ => (0 : Int32)))), (q2, .inl (cy 0, 24, .inl (fun _ => (0 : Int32))))] := hD
  refine W.widen (k := 2) (n := 74) (Nat.le_of_ble_eq_true rfl) (Nat.le_of_ble_eq_true rfl) ?_
  exact W.vret hx hb hr (fun t ht hW => ⟨⟨(), rfl, trivial, q1, q2, by rw [ht]; exact hP, hD⟩, hS.F ht⟩) hS.2.2 dX0_init_20
