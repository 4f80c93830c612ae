/-! part aa: the constructor of HotStack$Rods -/
set_option maxHeartbeats 8000000 in
set_option maxRecDepth 100000 in
theorem c_X7_init (l : Launch) (D : va_G) (cy : Nat → ClassId) (h0 sz x1 : Nat) : Met l yX7_init (Cond.code yX7_init cX7_init 2 none :: xTB) ({ frames := 1, cells := 1, slots := 30, locals := 12 } : Room) (va_Pc [.ref h0, .ref x1] (fun U => U.heap.size = sz ∧ va_P D vwCl [(h0, .inr (7, [.null, .null, .int 0]))] U.heap ∧ va_K D vwCl (xty cy) U ∧ va_D (fun _ => True) [(h0, .inr (7, [.null, .null, .int 0]))])) (va_Qv (fun _ : Unit => True) (fun _ t => ∃ q1 : Nat, va_P D vwCl [(h0, .inr (7, [.ref x1, .ref q1, .int 0])), (q1, .inl (cy 0, 30, .inl (fun _ => (0 : Int32))))] t.heap ∧ va_D (va_A [(h0, .inr (7, [.null, .null, .int 0]))] sz) [(h0, .inr (7, [.ref x1, .ref q1, .int 0])), (q1, .inl (cy 0, 30, .inl (fun _ => (0 : Int32))))]) (va_A [(h0, .inr (7, [.null, .null, .int 0]))] sz)) 1 30 (va_A [(h0, .inr (7, [.null, .null, .int 0]))] sz) := by
  refine Met.ofW (cc := cX7_init) (maxL := 2) (ret := none) (by decide) rfl ?_
  intro p e s m args below meth c s₁ B hml hv
  obtain ⟨rfl, hsz, hP, hK, hD0⟩ := hv
  have hx := B.exec
  have hb := B.bytes
  have hr := B.returns
  have hts : ∀ w ∈ xTB, w.before ([.ref h0, .ref x1] : List Value).toArray s = true := fun w hw => atoms_spec (ws := Cond.code yX7_init cX7_init 2 none :: xTB) B.pre w (List.mem_cons_of_mem _ hw)
  have hown : s.vm.findClass RX7 = some m.cls := findClass_of_methodNamed B.named
  have hin : meth.name = "<init>" := (name_of_methodNamed B.named B.method).1
  subst hsz
  have hD := hD0.self (sz := s.heap.size)
  generalize hAe : va_A [(h0, .inr (7, [.null, .null, .int 0]))] s.heap.size = A at hD ⊢
  have hA : ∀ q : Nat, s.heap.size ≤ q → A q := fun q h => by rw [← hAe]; exact Or.inr h
  have hS : va_S A s.heap s.heap [] := va_S.rf
  have hP : va_P D vwCl [(h0, .inr (7, [.null, .null, .int 0]))] s.heap := hP
  have hl := lv_entry ([.ref h0, .ref x1]) (n := 2) (Nat.le_of_ble_eq_true rfl)
  rw [lg_entry_eq]
  generalize (lg_sl ([.ref h0, .ref x1]) ++ List.replicate (2 - (lg_sl ([.ref h0, .ref x1])).length) Slot.unset).toArray = ls at hl ⊢
  have hl : lv_has ls 2 [(0, .ref h0), (1, .ref x1)] := hl
  refine lv_aload_n hx hb dX7_init_0 rfl (lv_at hl 0 rfl) ?_
  refine W.objInit hx hb hown (hts _ (xw_mem 222 (by decide +kernel) rfl)) (hts _ (xw_mem 63 (by decide +kernel) rfl)) (hts _ (xw_mem 64 (by decide +kernel) rfl)) rfl (by rw [hml]; exact hl.1) rfl dX7_init_1 (Nat.le_of_ble_eq_true rfl) (Nat.le_of_ble_eq_true rfl) ?_
  refine W.eq (g2 := F0 m 4 ls []) rfl ?_
  refine lv_aload_n hx hb dX7_init_4 rfl (lv_at hl 0 rfl) ?_
  refine lv_bipush (v := (30 : Int32)) hx hb dX7_init_5 (by decide) ?_
  refine x_newa (atype := .int) (ty := .int) hx hb (hts _ xar_i) rfl hK 0 rfl hP hD hS hA (N' := 30) (a0 := (30, .inl (fun _ => (0 : Int32)))) rfl (by decide) (by decide) (Nat.le_of_ble_eq_true rfl) (Nat.le_of_ble_eq_true rfl) (Nat.le_of_ble_eq_true rfl) dX7_init_7 (fun q1 H hP hD hS hq1 hr1 => ?_)
  refine x_pf hx hb hts hown hin hK (ci := 7) (k := 1) (C := RX7) (T := TX7) (N := 3) rfl xin_X7 tyX7 tyX7_ok nmX7 (Nat.le_of_ble_eq_true rfl) rfl (xw_mem 224 (by decide +kernel) rfl) (ty := tyX7 1) (tyX7_ok 1 (Nat.le_of_ble_eq_true rfl)) rfl rfl hP hD hS 0 rfl (Nat.le_of_ble_eq_true rfl) dX7_init_9 (fun H locs hP hD hS => ?_)
  refine lv_aload_n hx hb dX7_init_12 rfl (lv_at hl 0 rfl) ?_
  refine lv_aload_n hx hb dX7_init_13 rfl (lv_at hl 1 rfl) ?_
  refine x_pf hx hb hts hown hin hK (ci := 7) (k := 0) (C := RX7) (T := TX7) (N := 3) rfl xin_X7 tyX7 tyX7_ok nmX7 (Nat.le_of_ble_eq_true rfl) rfl (xw_mem 223 (by decide +kernel) rfl) (ty := tyX7 0) (tyX7_ok 0 (Nat.le_of_ble_eq_true rfl)) rfl rfl hP hD hS 0 rfl (Nat.le_of_ble_eq_true rfl) dX7_init_14 (fun H locs hP hD hS => ?_)
  have hP : va_P D vwCl [(h0, .inr (7, [.ref x1, .ref q1, .int 0])), (q1, .inl (cy 0, 30, .inl (fun _ => (0 : Int32))))] H := hP
  have hD : va_D A [(h0, .inr (7, [.ref x1, .ref q1, .int 0])), (q1, .inl (cy 0, 30, .inl (fun _ => (0 : Int32))))] := hD
  refine W.widen (k := 1) (n := 30) (Nat.le_of_ble_eq_true rfl) (Nat.le_of_ble_eq_true rfl) ?_
  exact W.vret hx hb hr (fun t ht hW => ⟨⟨(), rfl, trivial, q1, by rw [ht]; exact hP, hD⟩, hS.F ht⟩) hS.2.2 dX7_init_17
