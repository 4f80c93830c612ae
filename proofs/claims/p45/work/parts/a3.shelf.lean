/-! part a3: the constructor of HotStack$Shelf -/
set_option maxHeartbeats 8000000 in
set_option maxRecDepth 100000 in
theorem c_X8_init (l : Launch) (D : va_G) (cy : Nat → ClassId) (h0 sz : Nat) : Met l yX8_init (Cond.code yX8_init cX8_init 1 none :: xTB) ({ frames := 1, cells := 1, slots := 60, locals := 12 } : Room) (va_Pc [.ref h0] (fun U => U.heap.size = sz ∧ va_P D vwCl [(h0, .inr (8, [.int 0, .int 0, .int 0, .int 0, .null]))] U.heap ∧ va_K D vwCl (xty cy) U ∧ va_D (fun _ => True) [(h0, .inr (8, [.int 0, .int 0, .int 0, .int 0, .null]))])) (va_Qv (fun _ : Unit => True) (fun _ t => ∃ q1 : Nat, va_P D vwCl [(h0, .inr (8, [.int 0, .int 0, .int 0, .int 0, .ref q1])), (q1, .inl (cy 3, 60, .inr (.inl (fun _ => (0 : Int64)))))] t.heap ∧ va_D (va_A [(h0, .inr (8, [.int 0, .int 0, .int 0, .int 0, .null]))] sz) [(h0, .inr (8, [.int 0, .int 0, .int 0, .int 0, .ref q1])), (q1, .inl (cy 3, 60, .inr (.inl (fun _ => (0 : Int64)))))]) (va_A [(h0, .inr (8, [.int 0, .int 0, .int 0, .int 0, .null]))] sz)) 1 60 (va_A [(h0, .inr (8, [.int 0, .int 0, .int 0, .int 0, .null]))] sz) := by
  refine Met.ofW (cc := cX8_init) (maxL := 1) (ret := none) (by decide) rfl ?_
  intro p e s m args below meth c s₁ B hml hv
  obtain ⟨rfl, hsz, hP, hK, hD0⟩ := hv
  have hx := B.exec
  have hb := B.bytes
  have hr := B.returns
  have hts : ∀ w ∈ xTB, w.before ([.ref h0] : List Value).toArray s = true := fun w hw => atoms_spec (ws := Cond.code yX8_init cX8_init 1 none :: xTB) B.pre w (List.mem_cons_of_mem _ hw)
  have hown : s.vm.findClass RX8 = some m.cls := findClass_of_methodNamed B.named
  have hin : meth.name = "<init>" := (name_of_methodNamed B.named B.method).1
  subst hsz
  have hD := hD0.self (sz := s.heap.size)
  generalize hAe : va_A [(h0, .inr (8, [.int 0, .int 0, .int 0, .int 0, .null]))] s.heap.size = A at hD ⊢
  have hA : ∀ q : Nat, s.heap.size ≤ q → A q := fun q h => by rw [← hAe]; exact Or.inr h
  have hS : va_S A s.heap s.heap [] := va_S.rf
  have hP : va_P D vwCl [(h0, .inr (8, [.int 0, .int 0, .int 0, .int 0, .null]))] s.heap := hP
  have hl := lv_entry ([.ref h0]) (n := 1) (Nat.le_of_ble_eq_true rfl)
  rw [lg_entry_eq]
  generalize (lg_sl ([.ref h0]) ++ List.replicate (1 - (lg_sl ([.ref h0])).length) Slot.unset).toArray = ls at hl ⊢
  have hl : lv_has ls 1 [(0, .ref h0)] := hl
  refine lv_aload_n hx hb dX8_init_0 rfl (lv_at hl 0 rfl) ?_
  refine W.objInit hx hb hown (hts _ (xw_mem 359 (by decide +kernel) rfl)) (hts _ (xw_mem 63 (by decide +kernel) rfl)) (hts _ (xw_mem 64 (by decide +kernel) rfl)) rfl (by rw [hml]; exact hl.1) rfl dX8_init_1 (Nat.le_of_ble_eq_true rfl) (Nat.le_of_ble_eq_true rfl) ?_
  refine W.eq (g2 := F0 m 4 ls []) rfl ?_
  refine lv_aload_n hx hb dX8_init_4 rfl (lv_at hl 0 rfl) ?_
  refine lv_iconst (v := (0 : Int32)) hx hb dX8_init_5 (by decide) ?_
  refine x_pf hx hb hts hown hin hK (ci := 8) (k := 0) (C := RX8) (T := TX8) (N := 5) rfl xin_X8 tyX8 tyX8_ok nmX8 (Nat.le_of_ble_eq_true rfl) rfl (xw_mem 360 (by decide +kernel) rfl) (ty := tyX8 0) (tyX8_ok 0 (Nat.le_of_ble_eq_true rfl)) rfl rfl hP hD hS 0 rfl (Nat.le_of_ble_eq_true rfl) dX8_init_6 (fun H locs hP hD hS => ?_)
  refine lv_aload_n hx hb dX8_init_9 rfl (lv_at hl 0 rfl) ?_
  refine lv_bipush (v := (60 : Int32)) hx hb dX8_init_10 (by decide) ?_
  refine x_newa (atype := .long) (ty := .long) hx hb (hts _ xar_l) rfl hK 3 rfl hP hD hS hA (N' := 60) (a0 := (60, .inr (.inl (fun _ => (0 : Int64))))) rfl (by decide) (by decide) (Nat.le_of_ble_eq_true rfl) (Nat.le_of_ble_eq_true rfl) (Nat.le_of_ble_eq_true rfl) dX8_init_12 (fun q1 H hP hD hS hq1 hr1 => ?_)
  refine x_pf hx hb hts hown hin hK (ci := 8) (k := 4) (C := RX8) (T := TX8) (N := 5) rfl xin_X8 tyX8 tyX8_ok nmX8 (Nat.le_of_ble_eq_true rfl) rfl (xw_mem 365 (by decide +kernel) rfl) (ty := tyX8 4) (tyX8_ok 4 (Nat.le_of_ble_eq_true rfl)) rfl rfl hP hD hS 0 rfl (Nat.le_of_ble_eq_true rfl) dX8_init_14 (fun H locs hP hD hS => ?_)
  have hP : va_P D vwCl [(h0, .inr (8, [.int 0, .int 0, .int 0, .int 0, .ref q1])), (q1, .inl (cy 3, 60, .inr (.inl (fun _ => (0 : Int64)))))] H := hP
  have hD : va_D A [(h0, .inr (8, [.int 0, .int 0, .int 0, .int 0, .ref q1])), (q1, .inl (cy 3, 60, .inr (.inl (fun _ => (0 : Int64)))))] := hD
  refine W.widen (k := 1) (n := 60) (Nat.le_of_ble_eq_true rfl) (Nat.le_of_ble_eq_true rfl) ?_
  exact W.vret hx hb hr (fun t ht hW => ⟨⟨(), rfl, trivial, q1, by rw [ht]; exact hP, hD⟩, hS.F ht⟩) hS.2.2 dX8_init_17
