/-! part ab: the constructor of HotStack$Thought -/
set_option maxHeartbeats 8000000 in
set_option maxRecDepth 100000 in
theorem c_X10_init (l : Launch) (D : va_G) (cy : Nat → ClassId) (h0 sz x1 x2 : Nat) : Met l yX10_init (Cond.code yX10_init cX10_init 3 none :: xTB) ({ frames := 1, cells := 0, slots := 0, locals := 12 } : Room) (va_Pc [.ref h0, .ref x1, .ref x2] (fun U => U.heap.size = sz ∧ va_P D vwCl [(h0, .inr (10, [.null, .null, .int 0, .int 0]))] U.heap ∧ va_K D vwCl (xty cy) U ∧ va_D (fun _ => True) [(h0, .inr (10, [.null, .null, .int 0, .int 0]))])) (va_Qv (fun _ : Unit => True) (fun _ t => va_P D vwCl [(h0, .inr (10, [.ref x1, .ref x2, .int 0, .int 0]))] t.heap ∧ va_D (va_A [(h0, .inr (10, [.null, .null, .int 0, .int 0]))] sz) [(h0, .inr (10, [.ref x1, .ref x2, .int 0, .int 0]))]) (va_A [(h0, .inr (10, [.null, .null, .int 0, .int 0]))] sz)) 0 0 (va_A [(h0, .inr (10, [.null, .null, .int 0, .int 0]))] sz) := by
  refine Met.ofW (cc := cX10_init) (maxL := 3) (ret := none) (by decide) rfl ?_
  intro p e s m args below meth c s₁ B hml hv
  obtain ⟨rfl, hsz, hP, hK, hD0⟩ := hv
  have hx := B.exec
  have hb := B.bytes
  have hr := B.returns
  have hts : ∀ w ∈ xTB, w.before ([.ref h0, .ref x1, .ref x2] : List Value).toArray s = true := fun w hw => atoms_spec (ws := Cond.code yX10_init cX10_init 3 none :: xTB) B.pre w (List.mem_cons_of_mem _ hw)
  have hown : s.vm.findClass RX10 = some m.cls := findClass_of_methodNamed B.named
  have hin : meth.name = "<init>" := (name_of_methodNamed B.named B.method).1
  subst hsz
  have hD := hD0.self (sz := s.heap.size)
  generalize hAe : va_A [(h0, .inr (10, [.null, .null, .int 0, .int 0]))] s.heap.size = A at hD ⊢
  have hA : ∀ q : Nat, s.heap.size ≤ q → A q := fun q h => by rw [← hAe]; exact Or.inr h
  have hS : va_S A s.heap s.heap [] := va_S.rf
  have hP : va_P D vwCl [(h0, .inr (10, [.null, .null, .int 0, .int 0]))] s.heap := hP
  have hl := lv_entry ([.ref h0, .ref x1, .ref x2]) (n := 3) (Nat.le_of_ble_eq_true rfl)
  rw [lg_entry_eq]
  generalize (lg_sl ([.ref h0, .ref x1, .ref x2]) ++ List.replicate (3 - (lg_sl ([.ref h0, .ref x1, .ref x2])).length) Slot.unset).toArray = ls at hl ⊢
  have hl : lv_has ls 3 [(0, .ref h0), (1, .ref x1), (2, .ref x2)] := hl
  refine lv_aload_n hx hb dX10_init_0 rfl (lv_at hl 0 rfl) ?_
  refine W.objInit hx hb hown (hts _ (xw_mem 201 (by decide +kernel) rfl)) (hts _ (xw_mem 63 (by decide +kernel) rfl)) (hts _ (xw_mem 64 (by decide +kernel) rfl)) rfl (by rw [hml]; exact hl.1) rfl dX10_init_1 (Nat.le_of_ble_eq_true rfl) (Nat.le_of_ble_eq_true rfl) ?_
  refine W.eq (g2 := F0 m 4 ls []) rfl ?_
  refine lv_aload_n hx hb dX10_init_4 rfl (lv_at hl 0 rfl) ?_
  refine lv_aload_n hx hb dX10_init_5 rfl (lv_at hl 1 rfl) ?_
  refine x_pf hx hb hts hown hin hK (ci := 10) (k := 0) (C := RX10) (T := TX10) (N := 4) rfl xin_X10 tyX10 tyX10_ok nmX10 (Nat.le_of_ble_eq_true rfl) rfl (xw_mem 202 (by decide +kernel) rfl) (ty := tyX10 0) (tyX10_ok 0 (Nat.le_of_ble_eq_true rfl)) rfl rfl hP hD hS 0 rfl (Nat.le_of_ble_eq_true rfl) dX10_init_6 (fun H locs hP hD hS => ?_)
  refine lv_aload_n hx hb dX10_init_9 rfl (lv_at hl 0 rfl) ?_
  refine lv_aload_n hx hb dX10_init_10 rfl (lv_at hl 2 rfl) ?_
  refine x_pf hx hb hts hown hin hK (ci := 10) (k := 1) (C := RX10) (T := TX10) (N := 4) rfl xin_X10 tyX10 tyX10_ok nmX10 (Nat.le_of_ble_eq_true rfl) rfl (xw_mem 203 (by decide +kernel) rfl) (ty := tyX10 1) (tyX10_ok 1 (Nat.le_of_ble_eq_true rfl)) rfl rfl hP hD hS 0 rfl (Nat.le_of_ble_eq_true rfl) dX10_init_11 (fun H locs hP hD hS => ?_)
  have hP : va_P D vwCl [(h0, .inr (10, [.ref x1, .ref x2, .int 0, .int 0]))] H := hP
  have hD : va_D A [(h0, .inr (10, [.ref x1, .ref x2, .int 0, .int 0]))] := hD
  refine W.widen (k := 0) (n := 0) (Nat.le_of_ble_eq_true rfl) (Nat.le_of_ble_eq_true rfl) ?_
  exact W.vret hx hb hr (fun t ht hW => ⟨⟨(), rfl, trivial, by rw [ht]; exact hP, hD⟩, hS.F ht⟩) hS.2.2 dX10_init_14
