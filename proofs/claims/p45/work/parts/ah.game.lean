/-! part ah: the constructor of HotStack$Game -/
theorem xP_last {D : va_G} {cl : List vw_C} {wr wc : va_W} {H : Heap} (hP : va_P D cl (wr ++ wc) H) : va_P D cl wc H := fun k q hk => hP (wr.length + k) q (by rw [List.getElem?_append_right (by omega), Nat.add_sub_cancel_left]; exact hk)
theorem xD_last {A : Nat → Prop} {wr wc : va_W} (hD : va_D A (wr ++ wc)) : va_D A wc := hD.sub ((List.range wc.length).map (· + wr.length)) (xnd_of _ (List.Pairwise.map _ (fun _ _ h e => h (Nat.add_right_cancel e)) List.nodup_range)) (xR_2 wr wc)
def is_X8 (cy : Nat → ClassId) (h0 : Nat) (w : va_W) : Prop := ∃ q1 : Nat, w = [(h0, .inr (8, [.int 0, .int 0, .int 0, .int 0, .ref q1])), (q1, .inl (cy 3, 60, .inr (.inl (fun _ => (0 : Int64)))))]
theorem is_X8.at {cy : Nat → ClassId} {h0 : Nat} {w : va_W} (h : is_X8 cy h0 w) : ∃ (vs : List Value) (t : va_W), w = (h0, .inr (8, vs)) :: t := by
  obtain ⟨q1, rfl⟩ := h
  exact ⟨_, _, rfl⟩
def is_X9 (cy : Nat → ClassId) (h0 : Nat) (w : va_W) : Prop := ∃ q1 q2 q3 q4 q5 : Nat, w = [(h0, .inr (9, [.ref q1, .int 0, .ref q2, .ref q3, .int 0, .ref q4, .ref q5, .int 0, .int 0, .int 0])), (q1, .inl (cy 0, 120, .inl (fun _ => (0 : Int32)))), (q2, .inl (cy 0, 120, .inl (fun _ => (0 : Int32)))), (q3, .inl (cy 0, 120, .inl (fun _ => (0 : Int32)))), (q4, .inl (cy 0, 120, .inl (fun _ => (0 : Int32)))), (q5, .inl (cy 0, 120, .inl (fun _ => (0 : Int32))))]
def is_X5 (cy : Nat → ClassId) (h0 : Nat) (w : va_W) : Prop := ∃ q1 q2 q3 q4 q5 q6 q7 : Nat, w = [(h0, .inr (5, [.int 0, .ref q1, .ref q2, .ref q3, .ref q4, .ref q5, .ref q6, .ref q7])), (q1, .inl (cy 0, 120, .inl (fun _ => (0 : Int32)))), (q2, .inl (cy 0, 120, .inl (fun _ => (0 : Int32)))), (q3, .inl (cy 0, 120, .inl (fun _ => (0 : Int32)))), (q4, .inl (cy 0, 120, .inl (fun _ => (0 : Int32)))), (q5, .inl (cy 0, 8, .inl (fun _ => (0 : Int32)))), (q6, .inl (cy 0, 64, .inl (fun _ => (0 : Int32)))), (q7, .inl (cy 0, 2048, .inl (fun _ => (0 : Int32))))]
def is_X2 (cy : Nat → ClassId) (h0 : Nat) (w : va_W) : Prop := ∃ q1 q2 q3 q4 : Nat, w = [(h0, .inr (2, [.ref q1, .ref q2, .ref q3, .ref q4, .int 0, .int 0])), (q1, .inl (cy 0, 40, .inl (fun _ => (0 : Int32)))), (q2, .inl (cy 0, 40, .inl (fun _ => (0 : Int32)))), (q3, .inl (cy 0, 40, .inl (fun _ => (0 : Int32)))), (q4, .inl (cy 0, 40, .inl (fun _ => (0 : Int32))))]
def is_X0 (cy : Nat → ClassId) (h0 : Nat) (w : va_W) : Prop := ∃ q1 q2 : Nat, w = [(h0, .inr (0, [.ref q1, .int 0, .ref q2, .int 0, .int 0])), (q1, .inl (cy 0, 50, .inl (fun _ => (0 : Int32)))), (q2, .inl (cy 0, 24, .inl (fun _ => (0 : Int32))))]
def is_X6 (cy : Nat → ClassId) (h0 x1 x2 : Nat) (w : va_W) : Prop := ∃ q1 q2 q3 : Nat, w = [(h0, .inr (6, [.ref x1, .ref x2, .ref q1, .ref q2, .ref q3, .int 0, .int 0])), (q1, .inl (cy 0, 6, .inl (fun _ => (0 : Int32)))), (q2, .inl (cy 0, 6, .inl (fun _ => (0 : Int32)))), (q3, .inl (cy 0, 6, .inl (fun _ => (0 : Int32))))]
def is_X7 (cy : Nat → ClassId) (h0 x1 : Nat) (w : va_W) : Prop := ∃ q1 : Nat, w = [(h0, .inr (7, [.ref x1, .ref q1, .int 0])), (q1, .inl (cy 0, 30, .inl (fun _ => (0 : Int32))))]
def is_X10 (_ : Nat → ClassId) (h0 x1 x2 : Nat) (w : va_W) : Prop := w = [(h0, .inr (10, [.ref x1, .ref x2, .int 0, .int 0]))]
def is_X1 (_ : Nat → ClassId) (h0 x1 x2 : Nat) (w : va_W) : Prop := w = [(h0, .inr (1, [.ref x1, .ref x2]))]
def is_X4 (cy : Nat → ClassId) (h0 x1 : Nat) (w : va_W) : Prop := ∃ q1 q2 q3 q4 q5 q6 q7 q8 q9 : Nat, w = [(h0, .inr (4, [.ref x1, .ref q1, .ref q2, .ref q3, .ref q4, .ref q5, .ref q6, .ref q7, .ref q8, .ref q9, .int 90, .int 0])), (q1, .inl (cy 0, 6, .inl (fun _ => (0 : Int32)))), (q2, .inl (cy 0, 6, .inl (fun _ => (0 : Int32)))), (q3, .inl (cy 0, 30, .inl (fun _ => (0 : Int32)))), (q4, .inl (cy 0, 30, .inl (fun _ => (0 : Int32)))), (q5, .inl (cy 0, 30, .inl (fun _ => (0 : Int32)))), (q6, .inl (cy 0, 30, .inl (fun _ => (0 : Int32)))), (q7, .inl (cy 0, 30, .inl (fun _ => (0 : Int32)))), (q8, .inl (cy 0, 6, .inl (upd (upd (upd (upd (upd (upd (fun _ => (0 : Int32)) (0 : Int32).toNatClampNeg (0 : Int32)) (1 : Int32).toNatClampNeg (0 : Int32)) (2 : Int32).toNatClampNeg (0 : Int32)) (3 : Int32).toNatClampNeg (0 : Int32)) (4 : Int32).toNatClampNeg (0 : Int32)) (5 : Int32).toNatClampNeg (-2 : Int32)))), (q9, .inl (cy 0, 30, .inl (fun _ => (0 : Int32))))]
theorem is_X4.at {cy : Nat → ClassId} {h0 x1 : Nat} {w : va_W} (h : is_X4 cy h0 x1 w) : ∃ (vs : List Value) (t : va_W), w = (h0, .inr (4, vs)) :: t := by
  obtain ⟨q1, q2, q3, q4, q5, q6, q7, q8, q9, rfl⟩ := h
  exact ⟨_, _, rfl⟩
theorem fsX8 (j : Nat) (hj : j < 5) : defaultValue (tyX8 j) = vp_V [.int 0, .int 0, .int 0, .int 0, .null] j := by
  match j, hj with
  | 0, _ => rfl
  | 1, _ => rfl
  | 2, _ => rfl
  | 3, _ => rfl
  | 4, _ => rfl
  | j + 5, h => exact absurd h (by omega)
theorem fsX9 (j : Nat) (hj : j < 10) : defaultValue (tyX9 j) = vp_V [.null, .int 0, .null, .null, .int 0, .null, .null, .int 0, .int 0, .int 0] j := by
  match j, hj with
  | 0, _ => rfl
  | 1, _ => rfl
  | 2, _ => rfl
  | 3, _ => rfl
  | 4, _ => rfl
  | 5, _ => rfl
  | 6, _ => rfl
  | 7, _ => rfl
  | 8, _ => rfl
  | 9, _ => rfl
  | j + 10, h => exact absurd h (by omega)
theorem fsX5 (j : Nat) (hj : j < 8) : defaultValue (tyX5 j) = vp_V [.int 0, .null, .null, .null, .null, .null, .null, .null] j := by
  match j, hj with
  | 0, _ => rfl
  | 1, _ => rfl
  | 2, _ => rfl
  | 3, _ => rfl
  | 4, _ => rfl
  | 5, _ => rfl
  | 6, _ => rfl
  | 7, _ => rfl
  | j + 8, h => exact absurd h (by omega)
theorem fsX2 (j : Nat) (hj : j < 6) : defaultValue (tyX2 j) = vp_V [.null, .null, .null, .null, .int 0, .int 0] j := by
  match j, hj with
  | 0, _ => rfl
  | 1, _ => rfl
  | 2, _ => rfl
  | 3, _ => rfl
  | 4, _ => rfl
  | 5, _ => rfl
  | j + 6, h => exact absurd h (by omega)
theorem fsX0 (j : Nat) (hj : j < 5) : defaultValue (tyX0 j) = vp_V [.null, .int 0, .null, .int 0, .int 0] j := by
  match j, hj with
  | 0, _ => rfl
  | 1, _ => rfl
  | 2, _ => rfl
  | 3, _ => rfl
  | 4, _ => rfl
  | j + 5, h => exact absurd h (by omega)
theorem fsX6 (j : Nat) (hj : j < 7) : defaultValue (tyX6 j) = vp_V [.null, .null, .null, .null, .null, .int 0, .int 0] j := by
  match j, hj with
  | 0, _ => rfl
  | 1, _ => rfl
  | 2, _ => rfl
  | 3, _ => rfl
  | 4, _ => rfl
  | 5, _ => rfl
  | 6, _ => rfl
  | j + 7, h => exact absurd h (by omega)
theorem fsX7 (j : Nat) (hj : j < 3) : defaultValue (tyX7 j) = vp_V [.null, .null, .int 0] j := by
  match j, hj with
  | 0, _ => rfl
  | 1, _ => rfl
  | 2, _ => rfl
  | j + 3, h => exact absurd h (by omega)
theorem fsX10 (j : Nat) (hj : j < 4) : defaultValue (tyX10 j) = vp_V [.null, .null, .int 0, .int 0] j := by
  match j, hj with
  | 0, _ => rfl
  | 1, _ => rfl
  | 2, _ => rfl
  | 3, _ => rfl
  | j + 4, h => exact absurd h (by omega)
theorem fsX1 (j : Nat) (hj : j < 2) : defaultValue (tyX1 j) = vp_V [.null, .null] j := by
  match j, hj with
  | 0, _ => rfl
  | 1, _ => rfl
  | j + 2, h => exact absurd h (by omega)
theorem fsX4 (j : Nat) (hj : j < 12) : defaultValue (tyX4 j) = vp_V [.null, .null, .null, .null, .null, .null, .null, .null, .null, .null, .int 0, .int 0] j := by
  match j, hj with
  | 0, _ => rfl
  | 1, _ => rfl
  | 2, _ => rfl
  | 3, _ => rfl
  | 4, _ => rfl
  | 5, _ => rfl
  | 6, _ => rfl
  | 7, _ => rfl
  | 8, _ => rfl
  | 9, _ => rfl
  | 10, _ => rfl
  | 11, _ => rfl
  | j + 12, h => exact absurd h (by omega)
theorem fsX3 (j : Nat) (hj : j < 6) : defaultValue (tyX3 j) = vp_V [.null, .null, .int 0, .int 0, .int 0, .int 0] j := by
  match j, hj with
  | 0, _ => rfl
  | 1, _ => rfl
  | 2, _ => rfl
  | 3, _ => rfl
  | 4, _ => rfl
  | 5, _ => rfl
  | j + 6, h => exact absurd h (by omega)
theorem fsX11 (j : Nat) (hj : j < 13) : defaultValue (tyX11 j) = vp_V [.null, .null, .null, .null, .int 0, .null, .null, .null, .null, .null, .null, .null, .null] j := by
  match j, hj with
  | 0, _ => rfl
  | 1, _ => rfl
  | 2, _ => rfl
  | 3, _ => rfl
  | 4, _ => rfl
  | 5, _ => rfl
  | 6, _ => rfl
  | 7, _ => rfl
  | 8, _ => rfl
  | 9, _ => rfl
  | 10, _ => rfl
  | 11, _ => rfl
  | 12, _ => rfl
  | j + 13, h => exact absurd h (by omega)
def is_X3 (cy : Nat → ClassId) (h0 x1 x2 : Nat) (w : va_W) : Prop := ∃ (qa p1 p2 p3 p4 : Nat) (w1 w2 w3 w4 : va_W), is_X4 cy p1 x2 w1 ∧ is_X4 cy p2 x2 w2 ∧ is_X4 cy p3 x2 w3 ∧ is_X4 cy p4 x2 w4 ∧ w = ((h0, .inr (3, [.ref x1, .ref qa, .int 0, .int 0, .int 0, .int 0])) :: (qa, .inl (cy 4, 4, .inr (.inr (.inr (.inr (va_up (va_up (va_up (va_up (fun _ => none) (0 : Int32).toNatClampNeg (some p1)) (1 : Int32).toNatClampNeg (some p2)) (2 : Int32).toNatClampNeg (some p3)) (3 : Int32).toNatClampNeg (some p4))))))) :: (((w1 ++ w2) ++ w3) ++ w4))
set_option maxHeartbeats 16000000 in
set_option maxRecDepth 100000 in
theorem c_X3_init (l : Launch) (D : va_G) (cy : Nat → ClassId) (h0 sz x1 x2 : Nat) : Met l yX3_init (Cond.code yX3_init cX3_init 4 none :: xTB) ({ frames := 2, cells := 41, slots := 844, locals := 40 } : Room) (va_Pc [.ref h0, .ref x1, .ref x2] (fun U => U.heap.size = sz ∧ va_P D vwCl [(h0, .inr (3, [.null, .null, .int 0, .int 0, .int 0, .int 0]))] U.heap ∧ va_K D vwCl (xty cy) U ∧ va_D (fun _ => True) [(h0, .inr (3, [.null, .null, .int 0, .int 0, .int 0, .int 0]))] ∧ va_AO RX4 U)) (va_Qv (fun _ : Unit => True) (fun _ t => ∃ w : va_W, is_X3 cy h0 x1 x2 w ∧ va_P D vwCl w t.heap ∧ va_D (va_A [(h0, .inr (3, [.null, .null, .int 0, .int 0, .int 0, .int 0]))] sz) w) (va_A [(h0, .inr (3, [.null, .null, .int 0, .int 0, .int 0, .int 0]))] sz)) 41 844 (va_A [(h0, .inr (3, [.null, .null, .int 0, .int 0, .int 0, .int 0]))] sz) := by
  refine Met.ofW (cc := cX3_init) (maxL := 4) (ret := none) (by decide) rfl ?_
  intro p e s m args below meth c s₁ B hml hv
  obtain ⟨rfl, hsz, hP, hK, hD0, hov4⟩ := hv
  have hx := B.exec
  have hb := B.bytes
  have hr := B.returns
  have hts : ∀ w ∈ xTB, w.before ([.ref h0, .ref x1, .ref x2] : List Value).toArray s = true := fun w hw => atoms_spec (ws := Cond.code yX3_init cX3_init 4 none :: xTB) B.pre w (List.mem_cons_of_mem _ hw)
  have hown : s.vm.findClass RX3 = some m.cls := findClass_of_methodNamed B.named
  have hin : meth.name = "<init>" := (name_of_methodNamed B.named B.method).1
  subst hsz
  have hD := hD0.self (sz := s.heap.size)
  generalize hAe : va_A [(h0, .inr (3, [.null, .null, .int 0, .int 0, .int 0, .int 0]))] s.heap.size = A at hD ⊢
  have hA : ∀ q : Nat, s.heap.size ≤ q → A q := fun q h => by rw [← hAe]; exact Or.inr h
  have hS : va_S A s.heap s.heap [] := va_S.rf
  have hP : va_P D vwCl [(h0, .inr (3, [.null, .null, .int 0, .int 0, .int 0, .int 0]))] s.heap := hP
  have hl := lv_entry ([.ref h0, .ref x1, .ref x2]) (n := 4) (Nat.le_of_ble_eq_true rfl)
  rw [lg_entry_eq]
  generalize (lg_sl ([.ref h0, .ref x1, .ref x2]) ++ List.replicate (4 - (lg_sl ([.ref h0, .ref x1, .ref x2])).length) Slot.unset).toArray = ls at hl ⊢
  have hl : lv_has ls 4 [(0, .ref h0), (1, .ref x1), (2, .ref x2)] := hl
  refine lv_aload_n hx hb dX3_init_0 rfl (lv_at hl 0 rfl) ?_
  refine W.objInit hx hb hown (hts _ (xw_mem 268 (by decide +kernel) rfl)) (hts _ (xw_mem 63 (by decide +kernel) rfl)) (hts _ (xw_mem 64 (by decide +kernel) rfl)) rfl (by rw [hml]; exact hl.1) rfl dX3_init_1 (Nat.le_of_ble_eq_true rfl) (Nat.le_of_ble_eq_true rfl) ?_
  refine W.eq (g2 := F0 m 4 ls []) rfl ?_
  refine lv_aload_n hx hb dX3_init_4 rfl (lv_at hl 0 rfl) ?_
  refine lv_iconst (v := (4 : Int32)) hx hb dX3_init_5 (by decide) ?_
  refine x_newq hx hb (C := RX4) hown (hts _ (xw_mem 269 (by decide +kernel) rfl)) hov4 hK 4 rfl hP hD hS hA (N' := 4) (by decide) (by decide) (by decide) (Nat.le_of_ble_eq_true rfl) (Nat.le_of_ble_eq_true rfl) dX3_init_6 (fun qa H hP hD hS => ?_)
  have hP : va_P D vwCl ((h0, .inr (3, [.null, .null, .int 0, .int 0, .int 0, .int 0])) :: (qa, .inl (cy 4, 4, .inr (.inr (.inr (.inr (fun _ => none)))))) :: []) H := hP
  have hD : va_D A ((h0, .inr (3, [.null, .null, .int 0, .int 0, .int 0, .int 0])) :: (qa, .inl (cy 4, 4, .inr (.inr (.inr (.inr (fun _ => none)))))) :: []) := hD
  refine x_pf hx hb hts hown hin hK (ci := 3) (k := 1) (C := RX3) (T := TX3) (N := 6) rfl xin_X3 tyX3 tyX3_ok nmX3 (Nat.le_of_ble_eq_true rfl) rfl (xw_mem 273 (by decide +kernel) rfl) (ty := tyX3 1) (tyX3_ok 1 (Nat.le_of_ble_eq_true rfl)) rfl rfl hP hD hS 0 rfl (Nat.le_of_ble_eq_true rfl) dX3_init_9 (fun H locs hP hD hS => ?_)
  have hP : va_P D vwCl ((h0, .inr (3, [.null, .ref qa, .int 0, .int 0, .int 0, .int 0])) :: (qa, .inl (cy 4, 4, .inr (.inr (.inr (.inr (fun _ => none)))))) :: []) H := hP
  have hD : va_D A ((h0, .inr (3, [.null, .ref qa, .int 0, .int 0, .int 0, .int 0])) :: (qa, .inl (cy 4, 4, .inr (.inr (.inr (.inr (fun _ => none)))))) :: []) := hD
  refine lv_aload_n hx hb dX3_init_12 rfl (lv_at hl 0 rfl) ?_
  refine lv_aload_n hx hb dX3_init_13 rfl (lv_at hl 1 rfl) ?_
  refine x_pf hx hb hts hown hin hK (ci := 3) (k := 0) (C := RX3) (T := TX3) (N := 6) rfl xin_X3 tyX3 tyX3_ok nmX3 (Nat.le_of_ble_eq_true rfl) rfl (xw_mem 272 (by decide +kernel) rfl) (ty := tyX3 0) (tyX3_ok 0 (Nat.le_of_ble_eq_true rfl)) rfl rfl hP hD hS 0 rfl (Nat.le_of_ble_eq_true rfl) dX3_init_14 (fun H locs hP hD hS => ?_)
  have hP : va_P D vwCl ((h0, .inr (3, [.ref x1, .ref qa, .int 0, .int 0, .int 0, .int 0])) :: (qa, .inl (cy 4, 4, .inr (.inr (.inr (.inr (fun _ => none)))))) :: []) H := hP
  have hD : va_D A ((h0, .inr (3, [.ref x1, .ref qa, .int 0, .int 0, .int 0, .int 0])) :: (qa, .inl (cy 4, 4, .inr (.inr (.inr (.inr (fun _ => none)))))) :: []) := hD
  refine lv_iconst (v := (0 : Int32)) hx hb dX3_init_17 (by decide) ?_
  refine lv_istore_n (lv' := [(3, .int (0 : Int32)), (0, .ref h0), (1, .ref x1), (2, .ref x2)]) hx hb dX3_init_18 rfl hl (by decide) rfl (fun ls hl => ?_)
  refine lv_iload_n hx hb dX3_init_19 rfl (lv_at hl 0 rfl) ?_
  refine lv_iconst (v := (3 : Int32)) hx hb dX3_init_20 (by decide) ?_
  refine lv_icmp_gt (tgt := 44) hx hb dX3_init_21 (by decide) (fun cq => absurd cq (by decide)) (fun _ => ?_)
  refine lv_aload_n hx hb dX3_init_24 rfl (lv_at hl 1 rfl) ?_
  refine va_get (ci := 3) (v := .ref qa) (C := RX3) (T := TX3) (N := 6) hx hb hts xin_X3 hown hK hP 0 rfl rfl 1 (by decide) (hts _ (xw_mem 273 (by decide +kernel) rfl)) (fun _ h9 => h9) rfl dX3_init_25 ?_
  refine lv_iload_n hx hb dX3_init_28 rfl (lv_at hl 0 rfl) ?_
  refine va_new (ci := 4) (fs := [.null, .null, .null, .null, .null, .null, .null, .null, .null, .null, .int 0, .int 0]) (C := RX4) (T := TX4) (N := 12) hx hb hts xin_X4 tyX4 tyX4_ok hown (hts _ (xw_mem 269 (by decide +kernel) rfl)) (hts _ (xw_mem 141 (by decide +kernel) rfl)) (hts _ (xw_mem 33 (by decide +kernel) rfl)) hK hP hD hS hA rfl fsX4 (Nat.le_of_ble_eq_true rfl) (Nat.le_of_ble_eq_true rfl) dX3_init_29 (fun p1 H hP hD hS => ?_)
  refine lv_dup hx hb dX3_init_32 rfl ?_
  refine lv_aload_n hx hb dX3_init_33 rfl (lv_at hl 3 rfl) ?_
  refine x_cleaf hx hb hml hown hts (xgood (xw_mem 144 (by decide +kernel) rfl)) (xw_mem 33 (by decide +kernel) rfl) (xw_mem 271 (by decide +kernel) rfl) ⟨by decide, by decide, by decide +kernel⟩ rfl (xw_mem 143 (by decide +kernel) rfl) hK hP hD hS hA (n := 1) (rest := [.ref p1, .int (0 : Int32), .ref qa]) (wc := [(p1, .inr (4, [.null, .null, .null, .null, .null, .null, .null, .null, .null, .null, .int 0, .int 0]))]) [.ref x2] (c_X4_init l D cy p1 H.size x2) ⟨(Nat.le_of_ble_eq_true rfl), (Nat.le_of_ble_eq_true rfl)⟩ (Nat.le_of_ble_eq_true rfl) (Nat.le_of_ble_eq_true rfl) rfl hl.1 rfl (Nat.le_of_ble_eq_true rfl) dX3_init_34 (fun t H locs ht hB hJ hS => ?_)
  obtain ⟨q1, q2, q3, q4, q5, q6, q7, q8, q9, hP1, hD1⟩ := hB
  rw [ht] at hP1
  obtain ⟨w1, hw1, hP, hD⟩ : ∃ w, is_X4 cy p1 x2 w ∧ va_P D vwCl (((h0, .inr (3, [.ref x1, .ref qa, .int 0, .int 0, .int 0, .int 0])) :: (qa, .inl (cy 4, 4, .inr (.inr (.inr (.inr (fun _ => none)))))) :: []) ++ w) H ∧ va_D A (((h0, .inr (3, [.ref x1, .ref qa, .int 0, .int 0, .int 0, .int 0])) :: (qa, .inl (cy 4, 4, .inr (.inr (.inr (.inr (fun _ => none)))))) :: []) ++ w) := ⟨_, ⟨q1, q2, q3, q4, q5, q6, q7, q8, q9, rfl⟩, hJ _ hP1 hD1⟩
  have hP : va_P D vwCl ((h0, .inr (3, [.ref x1, .ref qa, .int 0, .int 0, .int 0, .int 0])) :: (qa, .inl (cy 4, 4, .inr (.inr (.inr (.inr (fun _ => none)))))) :: w1) H := hP
  have hD : va_D A ((h0, .inr (3, [.ref x1, .ref qa, .int 0, .int 0, .int 0, .int 0])) :: (qa, .inl (cy 4, 4, .inr (.inr (.inr (.inr (fun _ => none)))))) :: w1) := hD
  obtain ⟨vs, tl, he⟩ := is_X4.at hw1
  have hv : ((h0, .inr (3, [.ref x1, .ref qa, .int 0, .int 0, .int 0, .int 0])) :: (qa, .inl (cy 4, 4, .inr (.inr (.inr (.inr (fun _ => none)))))) :: w1)[2]? = some (p1, .inr (4, vs)) := by rw [he]; rfl
  refine va_astq hx hb hK hP hD hS 1 4 2 4 (r := (RX4, TX4, 12)) rfl rfl hv rfl (by unfold vp_in; decide) dX3_init_37 (fun H locs hP hD hS => ?_)
  have hP : va_P D vwCl ((h0, .inr (3, [.ref x1, .ref qa, .int 0, .int 0, .int 0, .int 0])) :: (qa, .inl (cy 4, 4, .inr (.inr (.inr (.inr (va_up (fun _ => none) (0 : Int32).toNatClampNeg (some p1))))))) :: w1) H := hP
  have hD : va_D A ((h0, .inr (3, [.ref x1, .ref qa, .int 0, .int 0, .int 0, .int 0])) :: (qa, .inl (cy 4, 4, .inr (.inr (.inr (.inr (va_up (fun _ => none) (0 : Int32).toNatClampNeg (some p1))))))) :: w1) := hD
  clear hv he
  refine lv_iinc (v := (1 : Int32)) (lv' := [(3, .int (1 : Int32)), (0, .ref h0), (1, .ref x1), (2, .ref x2)]) hx hb dX3_init_38 hl (k := 0) rfl (by decide) (by decide) rfl (fun ls hl => ?_)
  refine lv_goto (tgt := 19) hx hb dX3_init_41 (by decide) ?_
  refine lv_iload_n hx hb dX3_init_19 rfl (lv_at hl 0 rfl) ?_
  refine lv_iconst (v := (3 : Int32)) hx hb dX3_init_20 (by decide) ?_
  refine lv_icmp_gt (tgt := 44) hx hb dX3_init_21 (by decide) (fun cq => absurd cq (by decide)) (fun _ => ?_)
  refine lv_aload_n hx hb dX3_init_24 rfl (lv_at hl 1 rfl) ?_
  refine va_get (ci := 3) (v := .ref qa) (C := RX3) (T := TX3) (N := 6) hx hb hts xin_X3 hown hK hP 0 rfl rfl 1 (by decide) (hts _ (xw_mem 273 (by decide +kernel) rfl)) (fun _ h9 => h9) rfl dX3_init_25 ?_
  refine lv_iload_n hx hb dX3_init_28 rfl (lv_at hl 0 rfl) ?_
  refine va_new (ci := 4) (fs := [.null, .null, .null, .null, .null, .null, .null, .null, .null, .null, .int 0, .int 0]) (C := RX4) (T := TX4) (N := 12) hx hb hts xin_X4 tyX4 tyX4_ok hown (hts _ (xw_mem 269 (by decide +kernel) rfl)) (hts _ (xw_mem 141 (by decide +kernel) rfl)) (hts _ (xw_mem 33 (by decide +kernel) rfl)) hK hP hD hS hA rfl fsX4 (Nat.le_of_ble_eq_true rfl) (Nat.le_of_ble_eq_true rfl) dX3_init_29 (fun p2 H hP hD hS => ?_)
  refine lv_dup hx hb dX3_init_32 rfl ?_
  refine lv_aload_n hx hb dX3_init_33 rfl (lv_at hl 3 rfl) ?_
  refine x_cleaf hx hb hml hown hts (xgood (xw_mem 144 (by decide +kernel) rfl)) (xw_mem 33 (by decide +kernel) rfl) (xw_mem 271 (by decide +kernel) rfl) ⟨by decide, by decide, by decide +kernel⟩ rfl (xw_mem 143 (by decide +kernel) rfl) hK hP hD hS hA (n := 1) (rest := [.ref p2, .int (1 : Int32), .ref qa]) (wc := [(p2, .inr (4, [.null, .null, .null, .null, .null, .null, .null, .null, .null, .null, .int 0, .int 0]))]) [.ref x2] (c_X4_init l D cy p2 H.size x2) ⟨(Nat.le_of_ble_eq_true rfl), (Nat.le_of_ble_eq_true rfl)⟩ (Nat.le_of_ble_eq_true rfl) (Nat.le_of_ble_eq_true rfl) rfl hl.1 rfl (Nat.le_of_ble_eq_true rfl) dX3_init_34 (fun t H locs ht hB hJ hS => ?_)
  obtain ⟨q1, q2, q3, q4, q5, q6, q7, q8, q9, hP1, hD1⟩ := hB
  rw [ht] at hP1
  obtain ⟨w2, hw2, hP, hD⟩ : ∃ w, is_X4 cy p2 x2 w ∧ va_P D vwCl (((h0, .inr (3, [.ref x1, .ref qa, .int 0, .int 0, .int 0, .int 0])) :: (qa, .inl (cy 4, 4, .inr (.inr (.inr (.inr (va_up (fun _ => none) (0 : Int32).toNatClampNeg (some p1))))))) :: w1) ++ w) H ∧ va_D A (((h0, .inr (3, [.ref x1, .ref qa, .int 0, .int 0, .int 0, .int 0])) :: (qa, .inl (cy 4, 4, .inr (.inr (.inr (.inr (va_up (fun _ => none) (0 : Int32).toNatClampNeg (some p1))))))) :: w1) ++ w) := ⟨_, ⟨q1, q2, q3, q4, q5, q6, q7, q8, q9, rfl⟩, hJ _ hP1 hD1⟩
  have hP : va_P D vwCl ((h0, .inr (3, [.ref x1, .ref qa, .int 0, .int 0, .int 0, .int 0])) :: (qa, .inl (cy 4, 4, .inr (.inr (.inr (.inr (va_up (fun _ => none) (0 : Int32).toNatClampNeg (some p1))))))) :: (w1 ++ w2)) H := hP
  have hD : va_D A ((h0, .inr (3, [.ref x1, .ref qa, .int 0, .int 0, .int 0, .int 0])) :: (qa, .inl (cy 4, 4, .inr (.inr (.inr (.inr (va_up (fun _ => none) (0 : Int32).toNatClampNeg (some p1))))))) :: (w1 ++ w2)) := hD
  obtain ⟨vs, tl, he⟩ := is_X4.at hw2
  have hv : ((h0, .inr (3, [.ref x1, .ref qa, .int 0, .int 0, .int 0, .int 0])) :: (qa, .inl (cy 4, 4, .inr (.inr (.inr (.inr (va_up (fun _ => none) (0 : Int32).toNatClampNeg (some p1))))))) :: (w1 ++ w2))[w1.length + 2]? = some (p2, .inr (4, vs)) := by rw [he]; exact x_at2
  refine va_astq hx hb hK hP hD hS 1 4 (w1.length + 2) 4 (r := (RX4, TX4, 12)) rfl rfl hv rfl (by unfold vp_in; decide) dX3_init_37 (fun H locs hP hD hS => ?_)
  have hP : va_P D vwCl ((h0, .inr (3, [.ref x1, .ref qa, .int 0, .int 0, .int 0, .int 0])) :: (qa, .inl (cy 4, 4, .inr (.inr (.inr (.inr (va_up (va_up (fun _ => none) (0 : Int32).toNatClampNeg (some p1)) (1 : Int32).toNatClampNeg (some p2))))))) :: (w1 ++ w2)) H := hP
  have hD : va_D A ((h0, .inr (3, [.ref x1, .ref qa, .int 0, .int 0, .int 0, .int 0])) :: (qa, .inl (cy 4, 4, .inr (.inr (.inr (.inr (va_up (va_up (fun _ => none) (0 : Int32).toNatClampNeg (some p1)) (1 : Int32).toNatClampNeg (some p2))))))) :: (w1 ++ w2)) := hD
  clear hv he
  refine lv_iinc (v := (2 : Int32)) (lv' := [(3, .int (2 : Int32)), (0, .ref h0), (1, .ref x1), (2, .ref x2)]) hx hb dX3_init_38 hl (k := 0) rfl (by decide) (by decide) rfl (fun ls hl => ?_)
  refine lv_goto (tgt := 19) hx hb dX3_init_41 (by decide) ?_
  refine lv_iload_n hx hb dX3_init_19 rfl (lv_at hl 0 rfl) ?_
  refine lv_iconst (v := (3 : Int32)) hx hb dX3_init_20 (by decide) ?_
  refine lv_icmp_gt (tgt := 44) hx hb dX3_init_21 (by decide) (fun cq => absurd cq (by decide)) (fun _ => ?_)
  refine lv_aload_n hx hb dX3_init_24 rfl (lv_at hl 1 rfl) ?_
  refine va_get (ci := 3) (v := .ref qa) (C := RX3) (T := TX3) (N := 6) hx hb hts xin_X3 hown hK hP 0 rfl rfl 1 (by decide) (hts _ (xw_mem 273 (by decide +kernel) rfl)) (fun _ h9 => h9) rfl dX3_init_25 ?_
  refine lv_iload_n hx hb dX3_init_28 rfl (lv_at hl 0 rfl) ?_
  refine va_new (ci := 4) (fs := [.null, .null, .null, .null, .null, .null, .null, .null, .null, .null, .int 0, .int 0]) (C := RX4) (T := TX4) (N := 12) hx hb hts xin_X4 tyX4 tyX4_ok hown (hts _ (xw_mem 269 (by decide +kernel) rfl)) (hts _ (xw_mem 141 (by decide +kernel) rfl)) (hts _ (xw_mem 33 (by decide +kernel) rfl)) hK hP hD hS hA rfl fsX4 (Nat.le_of_ble_eq_true rfl) (Nat.le_of_ble_eq_true rfl) dX3_init_29 (fun p3 H hP hD hS => ?_)
  refine lv_dup hx hb dX3_init_32 rfl ?_
  refine lv_aload_n hx hb dX3_init_33 rfl (lv_at hl 3 rfl) ?_
  refine x_cleaf hx hb hml hown hts (xgood (xw_mem 144 (by decide +kernel) rfl)) (xw_mem 33 (by decide +kernel) rfl) (xw_mem 271 (by decide +kernel) rfl) ⟨by decide, by decide, by decide +kernel⟩ rfl (xw_mem 143 (by decide +kernel) rfl) hK hP hD hS hA (n := 1) (rest := [.ref p3, .int (2 : Int32), .ref qa]) (wc := [(p3, .inr (4, [.null, .null, .null, .null, .null, .null, .null, .null, .null, .null, .int 0, .int 0]))]) [.ref x2] (c_X4_init l D cy p3 H.size x2) ⟨(Nat.le_of_ble_eq_true rfl), (Nat.le_of_ble_eq_true rfl)⟩ (Nat.le_of_ble_eq_true rfl) (Nat.le_of_ble_eq_true rfl) rfl hl.1 rfl (Nat.le_of_ble_eq_true rfl) dX3_init_34 (fun t H locs ht hB hJ hS => ?_)
  obtain ⟨q1, q2, q3, q4, q5, q6, q7, q8, q9, hP1, hD1⟩ := hB
  rw [ht] at hP1
  obtain ⟨w3, hw3, hP, hD⟩ : ∃ w, is_X4 cy p3 x2 w ∧ va_P D vwCl (((h0, .inr (3, [.ref x1, .ref qa, .int 0, .int 0, .int 0, .int 0])) :: (qa, .inl (cy 4, 4, .inr (.inr (.inr (.inr (va_up (va_up (fun _ => none) (0 : Int32).toNatClampNeg (some p1)) (1 : Int32).toNatClampNeg (some p2))))))) :: (w1 ++ w2)) ++ w) H ∧ va_D A (((h0, .inr (3, [.ref x1, .ref qa, .int 0, .int 0, .int 0, .int 0])) :: (qa, .inl (cy 4, 4, .inr (.inr (.inr (.inr (va_up (va_up (fun _ => none) (0 : Int32).toNatClampNeg (some p1)) (1 : Int32).toNatClampNeg (some p2))))))) :: (w1 ++ w2)) ++ w) := ⟨_, ⟨q1, q2, q3, q4, q5, q6, q7, q8, q9, rfl⟩, hJ _ hP1 hD1⟩
  have hP : va_P D vwCl ((h0, .inr (3, [.ref x1, .ref qa, .int 0, .int 0, .int 0, .int 0])) :: (qa, .inl (cy 4, 4, .inr (.inr (.inr (.inr (va_up (va_up (fun _ => none) (0 : Int32).toNatClampNeg (some p1)) (1 : Int32).toNatClampNeg (some p2))))))) :: ((w1 ++ w2) ++ w3)) H := hP
  have hD : va_D A ((h0, .inr (3, [.ref x1, .ref qa, .int 0, .int 0, .int 0, .int 0])) :: (qa, .inl (cy 4, 4, .inr (.inr (.inr (.inr (va_up (va_up (fun _ => none) (0 : Int32).toNatClampNeg (some p1)) (1 : Int32).toNatClampNeg (some p2))))))) :: ((w1 ++ w2) ++ w3)) := hD
  obtain ⟨vs, tl, he⟩ := is_X4.at hw3
  have hv : ((h0, .inr (3, [.ref x1, .ref qa, .int 0, .int 0, .int 0, .int 0])) :: (qa, .inl (cy 4, 4, .inr (.inr (.inr (.inr (va_up (va_up (fun _ => none) (0 : Int32).toNatClampNeg (some p1)) (1 : Int32).toNatClampNeg (some p2))))))) :: ((w1 ++ w2) ++ w3))[(w1 ++ w2).length + 2]? = some (p3, .inr (4, vs)) := by rw [he]; exact x_at2
  refine va_astq hx hb hK hP hD hS 1 4 ((w1 ++ w2).length + 2) 4 (r := (RX4, TX4, 12)) rfl rfl hv rfl (by unfold vp_in; decide) dX3_init_37 (fun H locs hP hD hS => ?_)
  have hP : va_P D vwCl ((h0, .inr (3, [.ref x1, .ref qa, .int 0, .int 0, .int 0, .int 0])) :: (qa, .inl (cy 4, 4, .inr (.inr (.inr (.inr (va_up (va_up (va_up (fun _ => none) (0 : Int32).toNatClampNeg (some p1)) (1 : Int32).toNatClampNeg (some p2)) (2 : Int32).toNatClampNeg (some p3))))))) :: ((w1 ++ w2) ++ w3)) H := hP
  have hD : va_D A ((h0, .inr (3, [.ref x1, .ref qa, .int 0, .int 0, .int 0, .int 0])) :: (qa, .inl (cy 4, 4, .inr (.inr (.inr (.inr (va_up (va_up (va_up (fun _ => none) (0 : Int32).toNatClampNeg (some p1)) (1 : Int32).toNatClampNeg (some p2)) (2 : Int32).toNatClampNeg (some p3))))))) :: ((w1 ++ w2) ++ w3)) := hD
  clear hv he
  refine lv_iinc (v := (3 : Int32)) (lv' := [(3, .int (3 : Int32)), (0, .ref h0), (1, .ref x1), (2, .ref x2)]) hx hb dX3_init_38 hl (k := 0) rfl (by decide) (by decide) rfl (fun ls hl => ?_)
  refine lv_goto (tgt := 19) hx hb dX3_init_41 (by decide) ?_
  refine lv_iload_n hx hb dX3_init_19 rfl (lv_at hl 0 rfl) ?_
  refine lv_iconst (v := (3 : Int32)) hx hb dX3_init_20 (by decide) ?_
  refine lv_icmp_gt (tgt := 44) hx hb dX3_init_21 (by decide) (fun cq => absurd cq (by decide)) (fun _ => ?_)
  refine lv_aload_n hx hb dX3_init_24 rfl (lv_at hl 1 rfl) ?_
  refine va_get (ci := 3) (v := .ref qa) (C := RX3) (T := TX3) (N := 6) hx hb hts xin_X3 hown hK hP 0 rfl rfl 1 (by decide) (hts _ (xw_mem 273 (by decide +kernel) rfl)) (fun _ h9 => h9) rfl dX3_init_25 ?_
  refine lv_iload_n hx hb dX3_init_28 rfl (lv_at hl 0 rfl) ?_
  refine va_new (ci := 4) (fs := [.null, .null, .null, .null, .null, .null, .null, .null, .null, .null, .int 0, .int 0]) (C := RX4) (T := TX4) (N := 12) hx hb hts xin_X4 tyX4 tyX4_ok hown (hts _ (xw_mem 269 (by decide +kernel) rfl)) (hts _ (xw_mem 141 (by decide +kernel) rfl)) (hts _ (xw_mem 33 (by decide +kernel) rfl)) hK hP hD hS hA rfl fsX4 (Nat.le_of_ble_eq_true rfl) (Nat.le_of_ble_eq_true rfl) dX3_init_29 (fun p4 H hP hD hS => ?_)
  refine lv_dup hx hb dX3_init_32 rfl ?_
  refine lv_aload_n hx hb dX3_init_33 rfl (lv_at hl 3 rfl) ?_
  refine x_cleaf hx hb hml hown hts (xgood (xw_mem 144 (by decide +kernel) rfl)) (xw_mem 33 (by decide +kernel) rfl) (xw_mem 271 (by decide +kernel) rfl) ⟨by decide, by decide, by decide +kernel⟩ rfl (xw_mem 143 (by decide +kernel) rfl) hK hP hD hS hA (n := 1) (rest := [.ref p4, .int (3 : Int32), .ref qa]) (wc := [(p4, .inr (4, [.null, .null, .null, .null, .null, .null, .null, .null, .null, .null, .int 0, .int 0]))]) [.ref x2] (c_X4_init l D cy p4 H.size x2) ⟨(Nat.le_of_ble_eq_true rfl), (Nat.le_of_ble_eq_true rfl)⟩ (Nat.le_of_ble_eq_true rfl) (Nat.le_of_ble_eq_true rfl) rfl hl.1 rfl (Nat.le_of_ble_eq_true rfl) dX3_init_34 (fun t H locs ht hB hJ hS => ?_)
  obtain ⟨q1, q2, q3, q4, q5, q6, q7, q8, q9, hP1, hD1⟩ := hB
  rw [ht] at hP1
  obtain ⟨w4, hw4, hP, hD⟩ : ∃ w, is_X4 cy p4 x2 w ∧ va_P D vwCl (((h0, .inr (3, [.ref x1, .ref qa, .int 0, .int 0, .int 0, .int 0])) :: (qa, .inl (cy 4, 4, .inr (.inr (.inr (.inr (va_up (va_up (va_up (fun _ => none) (0 : Int32).toNatClampNeg (some p1)) (1 : Int32).toNatClampNeg (some p2)) (2 : Int32).toNatClampNeg (some p3))))))) :: ((w1 ++ w2) ++ w3)) ++ w) H ∧ va_D A (((h0, .inr (3, [.ref x1, .ref qa, .int 0, .int 0, .int 0, .int 0])) :: (qa, .inl (cy 4, 4, .inr (.inr (.inr (.inr (va_up (va_up (va_up (fun _ => none) (0 : Int32).toNatClampNeg (some p1)) (1 : Int32).toNatClampNeg (some p2)) (2 : Int32).toNatClampNeg (some p3))))))) :: ((w1 ++ w2) ++ w3)) ++ w) := ⟨_, ⟨q1, q2, q3, q4, q5, q6, q7, q8, q9, rfl⟩, hJ _ hP1 hD1⟩
  have hP : va_P D vwCl ((h0, .inr (3, [.ref x1, .ref qa, .int 0, .int 0, .int 0, .int 0])) :: (qa, .inl (cy 4, 4, .inr (.inr (.inr (.inr (va_up (va_up (va_up (fun _ => none) (0 : Int32).toNatClampNeg (some p1)) (1 : Int32).toNatClampNeg (some p2)) (2 : Int32).toNatClampNeg (some p3))))))) :: (((w1 ++ w2) ++ w3) ++ w4)) H := hP
  have hD : va_D A ((h0, .inr (3, [.ref x1, .ref qa, .int 0, .int 0, .int 0, .int 0])) :: (qa, .inl (cy 4, 4, .inr (.inr (.inr (.inr (va_up (va_up (va_up (fun _ => none) (0 : Int32).toNatClampNeg (some p1)) (1 : Int32).toNatClampNeg (some p2)) (2 : Int32).toNatClampNeg (some p3))))))) :: (((w1 ++ w2) ++ w3) ++ w4)) := hD
  obtain ⟨vs, tl, he⟩ := is_X4.at hw4
  have hv : ((h0, .inr (3, [.ref x1, .ref qa, .int 0, .int 0, .int 0, .int 0])) :: (qa, .inl (cy 4, 4, .inr (.inr (.inr (.inr (va_up (va_up (va_up (fun _ => none) (0 : Int32).toNatClampNeg (some p1)) (1 : Int32).toNatClampNeg (some p2)) (2 : Int32).toNatClampNeg (some p3))))))) :: (((w1 ++ w2) ++ w3) ++ w4))[((w1 ++ w2) ++ w3).length + 2]? = some (p4, .inr (4, vs)) := by rw [he]; exact x_at2
  refine va_astq hx hb hK hP hD hS 1 4 (((w1 ++ w2) ++ w3).length + 2) 4 (r := (RX4, TX4, 12)) rfl rfl hv rfl (by unfold vp_in; decide) dX3_init_37 (fun H locs hP hD hS => ?_)
  have hP : va_P D vwCl ((h0, .inr (3, [.ref x1, .ref qa, .int 0, .int 0, .int 0, .int 0])) :: (qa, .inl (cy 4, 4, .inr (.inr (.inr (.inr (va_up (va_up (va_up (va_up (fun _ => none) (0 : Int32).toNatClampNeg (some p1)) (1 : Int32).toNatClampNeg (some p2)) (2 : Int32).toNatClampNeg (some p3)) (3 : Int32).toNatClampNeg (some p4))))))) :: (((w1 ++ w2) ++ w3) ++ w4)) H := hP
  have hD : va_D A ((h0, .inr (3, [.ref x1, .ref qa, .int 0, .int 0, .int 0, .int 0])) :: (qa, .inl (cy 4, 4, .inr (.inr (.inr (.inr (va_up (va_up (va_up (va_up (fun _ => none) (0 : Int32).toNatClampNeg (some p1)) (1 : Int32).toNatClampNeg (some p2)) (2 : Int32).toNatClampNeg (some p3)) (3 : Int32).toNatClampNeg (some p4))))))) :: (((w1 ++ w2) ++ w3) ++ w4)) := hD
  clear hv he
  refine lv_iinc (v := (4 : Int32)) (lv' := [(3, .int (4 : Int32)), (0, .ref h0), (1, .ref x1), (2, .ref x2)]) hx hb dX3_init_38 hl (k := 0) rfl (by decide) (by decide) rfl (fun ls hl => ?_)
  refine lv_goto (tgt := 19) hx hb dX3_init_41 (by decide) ?_
  refine lv_iload_n hx hb dX3_init_19 rfl (lv_at hl 0 rfl) ?_
  refine lv_iconst (v := (3 : Int32)) hx hb dX3_init_20 (by decide) ?_
  refine lv_icmp_gt (tgt := 44) hx hb dX3_init_21 (by decide) (fun _ => ?_) (fun cq => absurd (by decide) cq)
  refine W.widen (k := 41) (n := 844) (Nat.le_of_ble_eq_true rfl) (Nat.le_of_ble_eq_true rfl) ?_
  exact W.vret hx hb hr (fun t ht hW => ⟨⟨(), rfl, trivial, _, ⟨qa, p1, p2, p3, p4, w1, w2, w3, w4, hw1, hw2, hw3, hw4, rfl⟩, by rw [ht]; exact hP, hD⟩, hS.F ht⟩) hS.2.2 dX3_init_44
