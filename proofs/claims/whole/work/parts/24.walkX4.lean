section XWwalkX4
variable {p : Program} {l : Launch} {e : Env} {s : State} {m : MethodId} {args : Array Value} {below : List Frame} {meth : Method} {c : Code} {D : va_G} {cy : Nat → ClassId} {a z : Nat → Nat}
set_option maxHeartbeats 4000000 in
set_option maxRecDepth 100000 in
theorem w_X11_image_0 (hM : xM p c cX11_image m s args RX11 1 D cy xtb a z) (hr : meth.sig.returnType = (some .int)) (hlk : meth.locks = false) {S' : xSt} {v' : Int32} {S : xSt} {q : (xSt × Int32)} (h : f_X11_image_0 S = some q) (k0 : ∀ t0 : xSt × Int32, q = t0 → t0 = (S', v')) {H : Heap} {locs : List Loc} (hG : xG D cy xtb a S s H locs) {ls : Array Slot} (hl : lv_has ls 1 [(0, .ref (a 0))]) : W p l e ({ frames := 2, cells := 0, slots := 0, locals := 47 } : Room) s m args below meth c H locs 0 0 (MQ below (xQi D cy xtb a S' v' s.heap.size) args s 0 0 (xA xtb a s.heap.size)) (F0 m 0 ls []) := by
  have hx := hM.1
  have hb := hM.2.1
  refine lv_aload_n hx hb dX11_image_0 rfl (lv_at hl 0 rfl) ?_
  refine x_gr (r := 26) hM hG xfl_X11_32 xct_0 (by decide) rfl dX11_image_1 ?_
  refine lv_aload_n hx hb dX11_image_4 rfl (lv_at hl 0 rfl) ?_
  refine x_gr (r := 16) hM hG xfl_X11_28 xct_0 (by decide) rfl dX11_image_5 ?_
  refine x_cVv (As := [.ref (a 16)]) (rest := []) hM hG xml_X11_281 xwi_X4_takeStack xws_X4_takeStack xih_image.1 (by decide) rfl h (fun S' v e => c_X4_takeStack hM.2.2.2.2.2.2.1 xih_image xih_hay e _) ⟨Nat.le_of_ble_eq_true rfl, Nat.le_of_ble_eq_true rfl⟩ rfl hl.1 rfl (Nat.le_of_ble_eq_true rfl) dX11_image_8 (fun S_1 v_2 H locs h hG => ?_)
  refine lv_aload_n hx hb dX11_image_11 rfl (lv_at hl 0 rfl) ?_
  refine lv_iconst (v := (1 : Int32)) hx hb dX11_image_12 (by decide) ?_
  refine x_pi hM hG xfl_X11_284 xfp_X11_4 xct_0 (by decide) rfl rfl rfl h dX11_image_13 (fun S_3 H locs h hG => ?_)
  refine lv_aload_n hx hb dX11_image_16 rfl (lv_at hl 0 rfl) ?_
  refine x_gr (r := 16) hM hG xfl_X11_28 xct_0 (by decide) rfl dX11_image_17 ?_
  refine x_gr (r := 16 + 8) hM hG xfl_X11_267 xih_hay.1 (by decide) rfl dX11_image_20 ?_
  refine lv_iconst (v := (4 : Int32)) hx hb dX11_image_23 (by decide) ?_
  refine x_iald hM hG xih_hay.2.2.2.2.2.2.2.2.1 h dX11_image_24 (fun v_4 h => ?_)
  exact x_ri hM hG hr hlk rfl (k0 _ (Option.some.inj h).symm) dX11_image_25
set_option maxHeartbeats 4000000 in
set_option maxRecDepth 100000 in
theorem c_X11_image {l : Launch} {D : va_G} {cy : Nat → ClassId} {a z : Nat → Nat} (hI : xI xtb a) {S : xSt} {S' : xSt} {v' : Int32} (hf : f_X11_image S = some (S', v')) (sz : Nat) : Met l yX11_image (Cond.code yX11_image cX11_image 1 (some .int) :: xTB) ({ frames := 2, cells := 0, slots := 0, locals := 47 } : Room) (va_Pc [.ref (a 0)] (xPre D cy xtb a z S sz)) (xQi D cy xtb a S' v' sz) 0 0 (xA xtb a sz) := by
  refine Met.ofW (cc := cX11_image) (maxL := 1) (ret := (some .int)) (by decide) rfl ?_
  intro p e s m args below meth c s₁ B hml hv
  obtain ⟨rfl, hsz, hP, hK, hE⟩ := hv
  subst hsz
  have hl := lv_entry ([.ref (a 0)]) (n := 1) (Nat.le_of_ble_eq_true rfl)
  rw [lg_entry_eq]
  generalize (lg_sl ([.ref (a 0)]) ++ List.replicate (1 - (lg_sl ([.ref (a 0)])).length) Slot.unset).toArray = ls at hl ⊢
  have hl : lv_has ls 1 [(0, .ref (a 0))] := hl
  exact w_X11_image_0 ⟨B.exec, B.bytes, hml, findClass_of_methodNamed B.named, fun w hw => atoms_spec (ws := Cond.code yX11_image cX11_image 1 (some .int) :: xTB) B.pre w (List.mem_cons_of_mem _ hw), hK, hI, hE⟩ B.returns B.notSynchronized hf (fun t0 e => e.symm) ⟨hP, va_S.rf⟩ (lv_sub hl [0] rfl)
set_option maxHeartbeats 4000000 in
set_option maxRecDepth 100000 in
theorem w_X11_back_0 (hM : xM p c cX11_back m s args RX11 1 D cy xtb a z) (hr : meth.sig.returnType = (some .int)) (hlk : meth.locks = false) {S' : xSt} {v' : Int32} {S : xSt} {q : (xSt × Int32)} (h : f_X11_back_0 S = some q) (k0 : ∀ t0 : xSt × Int32, q = t0 → t0 = (S', v')) {H : Heap} {locs : List Loc} (hG : xG D cy xtb a S s H locs) {ls : Array Slot} (hl : lv_has ls 1 [(0, .ref (a 0))]) : W p l e ({ frames := 2, cells := 0, slots := 0, locals := 47 } : Room) s m args below meth c H locs 0 0 (MQ below (xQi D cy xtb a S' v' s.heap.size) args s 0 0 (xA xtb a s.heap.size)) (F0 m 0 ls []) := by
  have hx := hM.1
  have hb := hM.2.1
  refine lv_aload_n hx hb dX11_back_0 rfl (lv_at hl 0 rfl) ?_
  refine x_gi hM hG xfl_X11_284 xct_0 (by decide) rfl h dX11_back_1 (fun v_1 h => ?_)
  refine x_if_ne (tgt := 10) hM h dX11_back_4 (by decide) (fun c_2 h => ?_) (fun c_2 h => ?_)
  · refine lv_aload_n hx hb dX11_back_10 rfl (lv_at hl 0 rfl) ?_
    refine x_gr (r := 16) hM hG xfl_X11_28 xct_0 (by decide) rfl dX11_back_11 ?_
    refine lv_aload_n hx hb dX11_back_14 rfl (lv_at hl 0 rfl) ?_
    refine x_gr (r := 26) hM hG xfl_X11_32 xct_0 (by decide) rfl dX11_back_15 ?_
    refine x_cVv (As := [.ref (a 26)]) (rest := []) hM hG xml_X11_281 xwi_X4_takeStack xws_X4_takeStack xih_hay.1 (by decide) rfl h (fun S' v e => c_X4_takeStack hM.2.2.2.2.2.2.1 xih_hay xih_image e _) ⟨Nat.le_of_ble_eq_true rfl, Nat.le_of_ble_eq_true rfl⟩ rfl hl.1 rfl (Nat.le_of_ble_eq_true rfl) dX11_back_18 (fun S_3 v_4 H locs h hG => ?_)
    refine lv_aload_n hx hb dX11_back_21 rfl (lv_at hl 0 rfl) ?_
    refine x_gr (r := 16) hM hG xfl_X11_28 xct_0 (by decide) rfl dX11_back_22 ?_
    refine x_gr (r := 16 + 8) hM hG xfl_X11_267 xih_hay.1 (by decide) rfl dX11_back_25 ?_
    refine lv_iconst (v := (4 : Int32)) hx hb dX11_back_28 (by decide) ?_
    refine x_iald hM hG xih_hay.2.2.2.2.2.2.2.2.1 h dX11_back_29 (fun v_5 h => ?_)
    exact x_ri hM hG hr hlk rfl (k0 _ (Option.some.inj h).symm) dX11_back_30
  · refine lv_bipush (v := (-5 : Int32)) hx hb dX11_back_7 (by decide) ?_
    exact x_ri hM hG hr hlk rfl (k0 _ (Option.some.inj h).symm) dX11_back_9
set_option maxHeartbeats 4000000 in
set_option maxRecDepth 100000 in
theorem c_X11_back {l : Launch} {D : va_G} {cy : Nat → ClassId} {a z : Nat → Nat} (hI : xI xtb a) {S : xSt} {S' : xSt} {v' : Int32} (hf : f_X11_back S = some (S', v')) (sz : Nat) : Met l yX11_back (Cond.code yX11_back cX11_back 1 (some .int) :: xTB) ({ frames := 2, cells := 0, slots := 0, locals := 47 } : Room) (va_Pc [.ref (a 0)] (xPre D cy xtb a z S sz)) (xQi D cy xtb a S' v' sz) 0 0 (xA xtb a sz) := by
  refine Met.ofW (cc := cX11_back) (maxL := 1) (ret := (some .int)) (by decide) rfl ?_
  intro p e s m args below meth c s₁ B hml hv
  obtain ⟨rfl, hsz, hP, hK, hE⟩ := hv
  subst hsz
  have hl := lv_entry ([.ref (a 0)]) (n := 1) (Nat.le_of_ble_eq_true rfl)
  rw [lg_entry_eq]
  generalize (lg_sl ([.ref (a 0)]) ++ List.replicate (1 - (lg_sl ([.ref (a 0)])).length) Slot.unset).toArray = ls at hl ⊢
  have hl : lv_has ls 1 [(0, .ref (a 0))] := hl
  exact w_X11_back_0 ⟨B.exec, B.bytes, hml, findClass_of_methodNamed B.named, fun w hw => atoms_spec (ws := Cond.code yX11_back cX11_back 1 (some .int) :: xTB) B.pre w (List.mem_cons_of_mem _ hw), hK, hI, hE⟩ B.returns B.notSynchronized hf (fun t0 e => e.symm) ⟨hP, va_S.rf⟩ (lv_sub hl [0] rfl)
set_option maxHeartbeats 4000000 in
set_option maxRecDepth 100000 in
theorem w_X11_undo_0 (hM : xM p c cX11_undo m s args RX11 1 D cy xtb a z) (hr : meth.sig.returnType = (some .int)) (hlk : meth.locks = false) {S' : xSt} {v' : Int32} {S : xSt} {q : (xSt × Int32)} (h : f_X11_undo_0 S = some q) (k0 : ∀ t0 : xSt × Int32, q = t0 → t0 = (S', v')) {H : Heap} {locs : List Loc} (hG : xG D cy xtb a S s H locs) {ls : Array Slot} (hl : lv_has ls 1 [(0, .ref (a 0))]) : W p l e ({ frames := 2, cells := 0, slots := 0, locals := 44 } : Room) s m args below meth c H locs 0 0 (MQ below (xQi D cy xtb a S' v' s.heap.size) args s 0 0 (xA xtb a s.heap.size)) (F0 m 0 ls []) := by
  have hx := hM.1
  have hb := hM.2.1
  refine lv_aload_n hx hb dX11_undo_0 rfl (lv_at hl 0 rfl) ?_
  refine x_gr (r := 96) hM hG xfl_X11_79 xct_0 (by decide) rfl dX11_undo_1 ?_
  refine lv_aload_n hx hb dX11_undo_4 rfl (lv_at hl 0 rfl) ?_
  refine x_gr (r := 16) hM hG xfl_X11_28 xct_0 (by decide) rfl dX11_undo_5 ?_
  refine x_cVi (As := [.ref (a 16)]) (rest := []) hM hG xml_X11_288 xwi_X2_undoIn xws_X2_undoIn xct_96 (by decide) rfl h (fun S' v e => c_X2_undoIn hM.2.2.2.2.2.2.1 xih_hay e _) ⟨Nat.le_of_ble_eq_true rfl, Nat.le_of_ble_eq_true rfl⟩ rfl hl.1 rfl (Nat.le_of_ble_eq_true rfl) dX11_undo_8 (fun S_1 v_2 H locs h hG => ?_)
  exact x_ri hM hG hr hlk rfl (k0 _ (Option.some.inj h).symm) dX11_undo_11
set_option maxHeartbeats 4000000 in
set_option maxRecDepth 100000 in
theorem c_X11_undo {l : Launch} {D : va_G} {cy : Nat → ClassId} {a z : Nat → Nat} (hI : xI xtb a) {S : xSt} {S' : xSt} {v' : Int32} (hf : f_X11_undo S = some (S', v')) (sz : Nat) : Met l yX11_undo (Cond.code yX11_undo cX11_undo 1 (some .int) :: xTB) ({ frames := 2, cells := 0, slots := 0, locals := 44 } : Room) (va_Pc [.ref (a 0)] (xPre D cy xtb a z S sz)) (xQi D cy xtb a S' v' sz) 0 0 (xA xtb a sz) := by
  refine Met.ofW (cc := cX11_undo) (maxL := 1) (ret := (some .int)) (by decide) rfl ?_
  intro p e s m args below meth c s₁ B hml hv
  obtain ⟨rfl, hsz, hP, hK, hE⟩ := hv
  subst hsz
  have hl := lv_entry ([.ref (a 0)]) (n := 1) (Nat.le_of_ble_eq_true rfl)
  rw [lg_entry_eq]
  generalize (lg_sl ([.ref (a 0)]) ++ List.replicate (1 - (lg_sl ([.ref (a 0)])).length) Slot.unset).toArray = ls at hl ⊢
  have hl : lv_has ls 1 [(0, .ref (a 0))] := hl
  exact w_X11_undo_0 ⟨B.exec, B.bytes, hml, findClass_of_methodNamed B.named, fun w hw => atoms_spec (ws := Cond.code yX11_undo cX11_undo 1 (some .int) :: xTB) B.pre w (List.mem_cons_of_mem _ hw), hK, hI, hE⟩ B.returns B.notSynchronized hf (fun t0 e => e.symm) ⟨hP, va_S.rf⟩ (lv_sub hl [0] rfl)
set_option maxHeartbeats 4000000 in
set_option maxRecDepth 100000 in
theorem w_X11_redo_0 (hM : xM p c cX11_redo m s args RX11 1 D cy xtb a z) (hr : meth.sig.returnType = (some .int)) (hlk : meth.locks = false) {S' : xSt} {v' : Int32} {S : xSt} {q : (xSt × Int32)} (h : f_X11_redo_0 S = some q) (k0 : ∀ t0 : xSt × Int32, q = t0 → t0 = (S', v')) {H : Heap} {locs : List Loc} (hG : xG D cy xtb a S s H locs) {ls : Array Slot} (hl : lv_has ls 1 [(0, .ref (a 0))]) : W p l e ({ frames := 2, cells := 0, slots := 0, locals := 44 } : Room) s m args below meth c H locs 0 0 (MQ below (xQi D cy xtb a S' v' s.heap.size) args s 0 0 (xA xtb a s.heap.size)) (F0 m 0 ls []) := by
  have hx := hM.1
  have hb := hM.2.1
  refine lv_aload_n hx hb dX11_redo_0 rfl (lv_at hl 0 rfl) ?_
  refine x_gr (r := 96) hM hG xfl_X11_79 xct_0 (by decide) rfl dX11_redo_1 ?_
  refine lv_aload_n hx hb dX11_redo_4 rfl (lv_at hl 0 rfl) ?_
  refine x_gr (r := 16) hM hG xfl_X11_28 xct_0 (by decide) rfl dX11_redo_5 ?_
  refine x_cVi (As := [.ref (a 16)]) (rest := []) hM hG xml_X11_292 xwi_X2_redoIn xws_X2_redoIn xct_96 (by decide) rfl h (fun S' v e => c_X2_redoIn hM.2.2.2.2.2.2.1 xih_hay e _) ⟨Nat.le_of_ble_eq_true rfl, Nat.le_of_ble_eq_true rfl⟩ rfl hl.1 rfl (Nat.le_of_ble_eq_true rfl) dX11_redo_8 (fun S_1 v_2 H locs h hG => ?_)
  exact x_ri hM hG hr hlk rfl (k0 _ (Option.some.inj h).symm) dX11_redo_11
set_option maxHeartbeats 4000000 in
set_option maxRecDepth 100000 in
theorem c_X11_redo {l : Launch} {D : va_G} {cy : Nat → ClassId} {a z : Nat → Nat} (hI : xI xtb a) {S : xSt} {S' : xSt} {v' : Int32} (hf : f_X11_redo S = some (S', v')) (sz : Nat) : Met l yX11_redo (Cond.code yX11_redo cX11_redo 1 (some .int) :: xTB) ({ frames := 2, cells := 0, slots := 0, locals := 44 } : Room) (va_Pc [.ref (a 0)] (xPre D cy xtb a z S sz)) (xQi D cy xtb a S' v' sz) 0 0 (xA xtb a sz) := by
  refine Met.ofW (cc := cX11_redo) (maxL := 1) (ret := (some .int)) (by decide) rfl ?_
  intro p e s m args below meth c s₁ B hml hv
  obtain ⟨rfl, hsz, hP, hK, hE⟩ := hv
  subst hsz
  have hl := lv_entry ([.ref (a 0)]) (n := 1) (Nat.le_of_ble_eq_true rfl)
  rw [lg_entry_eq]
  generalize (lg_sl ([.ref (a 0)]) ++ List.replicate (1 - (lg_sl ([.ref (a 0)])).length) Slot.unset).toArray = ls at hl ⊢
  have hl : lv_has ls 1 [(0, .ref (a 0))] := hl
  exact w_X11_redo_0 ⟨B.exec, B.bytes, hml, findClass_of_methodNamed B.named, fun w hw => atoms_spec (ws := Cond.code yX11_redo cX11_redo 1 (some .int) :: xTB) B.pre w (List.mem_cons_of_mem _ hw), hK, hI, hE⟩ B.returns B.notSynchronized hf (fun t0 e => e.symm) ⟨hP, va_S.rf⟩ (lv_sub hl [0] rfl)
set_option maxHeartbeats 4000000 in
set_option maxRecDepth 100000 in
theorem w_X11_body_0 {x1 : Int32} (hM : xM p c cX11_body m s args RX11 2 D cy xtb a z) (hr : meth.sig.returnType = (some .int)) (hlk : meth.locks = false) {S' : xSt} {v' : Int32} {S : xSt} {q : (xSt × Int32)} (h : f_X11_body_0 x1 S = some q) (k0 : ∀ t0 : xSt × Int32, q = t0 → t0 = (S', v')) {H : Heap} {locs : List Loc} (hG : xG D cy xtb a S s H locs) {ls : Array Slot} (hl : lv_has ls 2 [(0, .ref (a 0)), (1, .int x1)]) : W p l e ({ frames := 1, cells := 0, slots := 0, locals := 22 } : Room) s m args below meth c H locs 0 0 (MQ below (xQi D cy xtb a S' v' s.heap.size) args s 0 0 (xA xtb a s.heap.size)) (F0 m 0 ls []) := by
  have hx := hM.1
  have hb := hM.2.1
  refine lv_iload_n hx hb dX11_body_0 rfl (lv_at hl 1 rfl) ?_
  refine lv_iconst (v := (0 : Int32)) hx hb dX11_body_1 (by decide) ?_
  refine lv_bipush (v := (7 : Int32)) hx hb dX11_body_2 (by decide) ?_
  refine x_cSi (As := [.int x1, .int (0 : Int32), .int (7 : Int32)]) (rest := []) hM hG xml_X11_97 xwt_X11_within h (fun S' v e => c_X11_within hM.2.2.2.2.2.2.1 e _) ⟨Nat.le_of_ble_eq_true rfl, Nat.le_of_ble_eq_true rfl⟩ rfl hl.1 rfl (Nat.le_of_ble_eq_true rfl) dX11_body_4 (fun S_1 v_2 H locs h hG => ?_)
  refine x_if_eq (tgt := 21) hM h dX11_body_7 (by decide) (fun c_3 h => ?_) (fun c_3 h => ?_)
  · refine lv_iconst (v := (-1 : Int32)) hx hb dX11_body_21 (by decide) ?_
    exact x_ri hM hG hr hlk rfl (k0 _ (Option.some.inj h).symm) dX11_body_22
  · refine lv_aload_n hx hb dX11_body_10 rfl (lv_at hl 0 rfl) ?_
    refine x_gr (r := 101) hM hG xfl_X11_86 xct_0 (by decide) rfl dX11_body_11 ?_
    refine lv_iload_n hx hb dX11_body_14 rfl (lv_at hl 1 rfl) ?_
    refine x_cVi (As := [.int x1]) (rest := []) hM hG xml_X11_295 xwi_X0_add xws_X0_add xct_101 (by decide) rfl h (fun S' v e => c_X0_add hM.2.2.2.2.2.2.1 e _) ⟨Nat.le_of_ble_eq_true rfl, Nat.le_of_ble_eq_true rfl⟩ rfl hl.1 rfl (Nat.le_of_ble_eq_true rfl) dX11_body_15 (fun S_4 v_5 H locs h hG => ?_)
    refine lv_goto (tgt := 22) hx hb dX11_body_18 (by decide) ?_
    exact x_ri hM hG hr hlk rfl (k0 _ (Option.some.inj h).symm) dX11_body_22
set_option maxHeartbeats 4000000 in
set_option maxRecDepth 100000 in
theorem c_X11_body {l : Launch} {D : va_G} {cy : Nat → ClassId} {a z : Nat → Nat} (hI : xI xtb a) {S : xSt} {x1 : Int32} {S' : xSt} {v' : Int32} (hf : f_X11_body S x1 = some (S', v')) (sz : Nat) : Met l yX11_body (Cond.code yX11_body cX11_body 2 (some .int) :: xTB) ({ frames := 1, cells := 0, slots := 0, locals := 22 } : Room) (va_Pc [.ref (a 0), .int x1] (xPre D cy xtb a z S sz)) (xQi D cy xtb a S' v' sz) 0 0 (xA xtb a sz) := by
  refine Met.ofW (cc := cX11_body) (maxL := 2) (ret := (some .int)) (by decide) rfl ?_
  intro p e s m args below meth c s₁ B hml hv
  obtain ⟨rfl, hsz, hP, hK, hE⟩ := hv
  subst hsz
  have hl := lv_entry ([.ref (a 0), .int x1]) (n := 2) (Nat.le_of_ble_eq_true rfl)
  rw [lg_entry_eq]
  generalize (lg_sl ([.ref (a 0), .int x1]) ++ List.replicate (2 - (lg_sl ([.ref (a 0), .int x1])).length) Slot.unset).toArray = ls at hl ⊢
  have hl : lv_has ls 2 [(0, .ref (a 0)), (1, .int x1)] := hl
  exact w_X11_body_0 ⟨B.exec, B.bytes, hml, findClass_of_methodNamed B.named, fun w hw => atoms_spec (ws := Cond.code yX11_body cX11_body 2 (some .int) :: xTB) B.pre w (List.mem_cons_of_mem _ hw), hK, hI, hE⟩ B.returns B.notSynchronized hf (fun t0 e => e.symm) ⟨hP, va_S.rf⟩ (lv_sub hl [0, 1] rfl)
set_option maxHeartbeats 4000000 in
set_option maxRecDepth 100000 in
theorem w_X11_act_0 {x1 : Int32} {x2 : Int32} {x3 : Int32} (hM : xM p c cX11_act m s args RX11 4 D cy xtb a z) (hr : meth.sig.returnType = (some .int)) (hlk : meth.locks = false) {S' : xSt} {v' : Int32} {S : xSt} {q : (xSt × Int32)} (h : f_X11_act_0 x1 x2 x3 S = some q) (k0 : ∀ t0 : xSt × Int32, q = t0 → t0 = (S', v')) {H : Heap} {locs : List Loc} (hG : xG D cy xtb a S s H locs) {ls : Array Slot} (hl : lv_has ls 4 [(0, .ref (a 0)), (1, .int x1), (2, .int x2), (3, .int x3)]) : W p l e ({ frames := 92, cells := 0, slots := 0, locals := 2389 } : Room) s m args below meth c H locs 0 0 (MQ below (xQi D cy xtb a S' v' s.heap.size) args s 0 0 (xA xtb a s.heap.size)) (F0 m 0 ls []) := by
  have hx := hM.1
  have hb := hM.2.1
  refine lv_aload_n hx hb dX11_act_0 rfl (lv_at hl 0 rfl) ?_
  refine x_gr (r := 101) hM hG xfl_X11_86 xct_0 (by decide) rfl dX11_act_1 ?_
  refine lv_iload_n hx hb dX11_act_4 rfl (lv_at hl 1 rfl) ?_
  refine lv_iload_n hx hb dX11_act_5 rfl (lv_at hl 2 rfl) ?_
  refine lv_iload_n hx hb dX11_act_6 rfl (lv_at hl 3 rfl) ?_
  refine x_cVi (As := [.int x1, .int x2, .int x3]) (rest := []) hM hG xml_X11_296 xwi_X0_perform xws_X0_perform xct_101 (by decide) rfl h (fun S' v e => c_X0_perform hM.2.2.2.2.2.2.1 e _) ⟨Nat.le_of_ble_eq_true rfl, Nat.le_of_ble_eq_true rfl⟩ rfl hl.1 rfl (Nat.le_of_ble_eq_true rfl) dX11_act_7 (fun S_1 v_2 H locs h hG => ?_)
  exact x_ri hM hG hr hlk rfl (k0 _ (Option.some.inj h).symm) dX11_act_10
set_option maxHeartbeats 4000000 in
set_option maxRecDepth 100000 in
theorem c_X11_act {l : Launch} {D : va_G} {cy : Nat → ClassId} {a z : Nat → Nat} (hI : xI xtb a) {S : xSt} {x1 : Int32} {x2 : Int32} {x3 : Int32} {S' : xSt} {v' : Int32} (hf : f_X11_act S x1 x2 x3 = some (S', v')) (sz : Nat) : Met l yX11_act (Cond.code yX11_act cX11_act 4 (some .int) :: xTB) ({ frames := 92, cells := 0, slots := 0, locals := 2389 } : Room) (va_Pc [.ref (a 0), .int x1, .int x2, .int x3] (xPre D cy xtb a z S sz)) (xQi D cy xtb a S' v' sz) 0 0 (xA xtb a sz) := by
  refine Met.ofW (cc := cX11_act) (maxL := 4) (ret := (some .int)) (by decide) rfl ?_
  intro p e s m args below meth c s₁ B hml hv
  obtain ⟨rfl, hsz, hP, hK, hE⟩ := hv
  subst hsz
  have hl := lv_entry ([.ref (a 0), .int x1, .int x2, .int x3]) (n := 4) (Nat.le_of_ble_eq_true rfl)
  rw [lg_entry_eq]
  generalize (lg_sl ([.ref (a 0), .int x1, .int x2, .int x3]) ++ List.replicate (4 - (lg_sl ([.ref (a 0), .int x1, .int x2, .int x3])).length) Slot.unset).toArray = ls at hl ⊢
  have hl : lv_has ls 4 [(0, .ref (a 0)), (1, .int x1), (2, .int x2), (3, .int x3)] := hl
  exact w_X11_act_0 ⟨B.exec, B.bytes, hml, findClass_of_methodNamed B.named, fun w hw => atoms_spec (ws := Cond.code yX11_act cX11_act 4 (some .int) :: xTB) B.pre w (List.mem_cons_of_mem _ hw), hK, hI, hE⟩ B.returns B.notSynchronized hf (fun t0 e => e.symm) ⟨hP, va_S.rf⟩ (lv_sub hl [0, 1, 2, 3] rfl)
set_option maxHeartbeats 4000000 in
set_option maxRecDepth 100000 in
theorem w_X11_trace_0 {x1 : Int32} (hM : xM p c cX11_trace m s args RX11 2 D cy xtb a z) (hr : meth.sig.returnType = (some .int)) (hlk : meth.locks = false) {S' : xSt} {v' : Int32} {S : xSt} {q : (xSt × Int32)} (h : f_X11_trace_0 x1 S = some q) (k0 : ∀ t0 : xSt × Int32, q = t0 → t0 = (S', v')) {H : Heap} {locs : List Loc} (hG : xG D cy xtb a S s H locs) {ls : Array Slot} (hl : lv_has ls 2 [(0, .ref (a 0)), (1, .int x1)]) : W p l e ({ frames := 1, cells := 0, slots := 0, locals := 26 } : Room) s m args below meth c H locs 0 0 (MQ below (xQi D cy xtb a S' v' s.heap.size) args s 0 0 (xA xtb a s.heap.size)) (F0 m 0 ls []) := by
  have hx := hM.1
  have hb := hM.2.1
  refine lv_iload_n hx hb dX11_trace_0 rfl (lv_at hl 1 rfl) ?_
  refine lv_iconst (v := (0 : Int32)) hx hb dX11_trace_1 (by decide) ?_
  refine lv_aload_n hx hb dX11_trace_2 rfl (lv_at hl 0 rfl) ?_
  refine x_gr (r := 101) hM hG xfl_X11_86 xct_0 (by decide) rfl dX11_trace_3 ?_
  refine x_gi hM hG xfl_X11_299 xct_101 (by decide) rfl h dX11_trace_6 (fun v_1 h => ?_)
  refine lv_bipush (v := (24 : Int32)) hx hb dX11_trace_9 (by decide) ?_
  refine x_mmin hM hl.1 xmm_X11_302 h (Nat.le_of_ble_eq_true rfl) (Nat.le_of_ble_eq_true rfl) dX11_trace_11 (fun v_2 h => ?_)
  refine lv_iconst (v := (1 : Int32)) hx hb dX11_trace_14 (by decide) ?_
  refine x_isub hM h dX11_trace_15 (fun v_3 h => ?_)
  refine x_cSi (As := [.int x1, .int (0 : Int32), .int v_3]) (rest := []) hM hG xml_X11_97 xwt_X11_within h (fun S' v e => c_X11_within hM.2.2.2.2.2.2.1 e _) ⟨Nat.le_of_ble_eq_true rfl, Nat.le_of_ble_eq_true rfl⟩ rfl hl.1 rfl (Nat.le_of_ble_eq_true rfl) dX11_trace_16 (fun S_4 v_5 H locs h hG => ?_)
  refine x_if_eq (tgt := 34) hM h dX11_trace_19 (by decide) (fun c_6 h => ?_) (fun c_6 h => ?_)
  · refine lv_iconst (v := (-1 : Int32)) hx hb dX11_trace_34 (by decide) ?_
    exact x_ri hM hG hr hlk rfl (k0 _ (Option.some.inj h).symm) dX11_trace_35
  · refine lv_aload_n hx hb dX11_trace_22 rfl (lv_at hl 0 rfl) ?_
    refine x_gr (r := 101) hM hG xfl_X11_86 xct_0 (by decide) rfl dX11_trace_23 ?_
    refine x_gr (r := 103) hM hG xfl_X11_305 xct_101 (by decide) rfl dX11_trace_26 ?_
    refine lv_iload_n hx hb dX11_trace_29 rfl (lv_at hl 1 rfl) ?_
    refine x_iald hM hG xct_103 h dX11_trace_30 (fun v_7 h => ?_)
    refine lv_goto (tgt := 35) hx hb dX11_trace_31 (by decide) ?_
    exact x_ri hM hG hr hlk rfl (k0 _ (Option.some.inj h).symm) dX11_trace_35
set_option maxHeartbeats 4000000 in
set_option maxRecDepth 100000 in
theorem c_X11_trace {l : Launch} {D : va_G} {cy : Nat → ClassId} {a z : Nat → Nat} (hI : xI xtb a) {S : xSt} {x1 : Int32} {S' : xSt} {v' : Int32} (hf : f_X11_trace S x1 = some (S', v')) (sz : Nat) : Met l yX11_trace (Cond.code yX11_trace cX11_trace 2 (some .int) :: xTB) ({ frames := 1, cells := 0, slots := 0, locals := 26 } : Room) (va_Pc [.ref (a 0), .int x1] (xPre D cy xtb a z S sz)) (xQi D cy xtb a S' v' sz) 0 0 (xA xtb a sz) := by
  refine Met.ofW (cc := cX11_trace) (maxL := 2) (ret := (some .int)) (by decide) rfl ?_
  intro p e s m args below meth c s₁ B hml hv
  obtain ⟨rfl, hsz, hP, hK, hE⟩ := hv
  subst hsz
  have hl := lv_entry ([.ref (a 0), .int x1]) (n := 2) (Nat.le_of_ble_eq_true rfl)
  rw [lg_entry_eq]
  generalize (lg_sl ([.ref (a 0), .int x1]) ++ List.replicate (2 - (lg_sl ([.ref (a 0), .int x1])).length) Slot.unset).toArray = ls at hl ⊢
  have hl : lv_has ls 2 [(0, .ref (a 0)), (1, .int x1)] := hl
  exact w_X11_trace_0 ⟨B.exec, B.bytes, hml, findClass_of_methodNamed B.named, fun w hw => atoms_spec (ws := Cond.code yX11_trace cX11_trace 2 (some .int) :: xTB) B.pre w (List.mem_cons_of_mem _ hw), hK, hI, hE⟩ B.returns B.notSynchronized hf (fun t0 e => e.symm) ⟨hP, va_S.rf⟩ (lv_sub hl [0, 1] rfl)
set_option maxHeartbeats 4000000 in
set_option maxRecDepth 100000 in
theorem w_X11_keep_0 {x1 : Int32} {x2 : Int32} (hM : xM p c cX11_keep m s args RX11 3 D cy xtb a z) (hr : meth.sig.returnType = (some .int)) (hlk : meth.locks = false) {S' : xSt} {v' : Int32} {S : xSt} {q : (xSt × Int32)} (h : f_X11_keep_0 x1 x2 S = some q) (k0 : ∀ t0 : xSt × Int32, q = t0 → t0 = (S', v')) {H : Heap} {locs : List Loc} (hG : xG D cy xtb a S s H locs) {ls : Array Slot} (hl : lv_has ls 3 [(0, .ref (a 0)), (1, .int x1), (2, .int x2)]) : W p l e ({ frames := 2, cells := 0, slots := 0, locals := 42 } : Room) s m args below meth c H locs 0 0 (MQ below (xQi D cy xtb a S' v' s.heap.size) args s 0 0 (xA xtb a s.heap.size)) (F0 m 0 ls []) := by
  have hx := hM.1
  have hb := hM.2.1
  refine lv_iload_n hx hb dX11_keep_0 rfl (lv_at hl 1 rfl) ?_
  refine x_cSi (As := [.int x1]) (rest := []) hM hG xml_X11_105 xwt_X11_isShelf h (fun S' v e => c_X11_isShelf hM.2.2.2.2.2.2.1 e _) ⟨Nat.le_of_ble_eq_true rfl, Nat.le_of_ble_eq_true rfl⟩ rfl hl.1 rfl (Nat.le_of_ble_eq_true rfl) dX11_keep_1 (fun S_1 v_2 H locs h hG => ?_)
  refine x_if_eq (tgt := 24) hM h dX11_keep_4 (by decide) (fun c_3 h => ?_) (fun c_3 h => ?_)
  · refine lv_iconst (v := (-1 : Int32)) hx hb dX11_keep_24 (by decide) ?_
    exact x_ri hM hG hr hlk rfl (k0 _ (Option.some.inj h).symm) dX11_keep_25
  · refine lv_iload_n hx hb dX11_keep_7 rfl (lv_at hl 2 rfl) ?_
    refine lv_iconst (v := (-1 : Int32)) hx hb dX11_keep_8 (by decide) ?_
    refine lv_aload_n hx hb dX11_keep_9 rfl (lv_at hl 0 rfl) ?_
    refine x_gr (r := 101) hM hG xfl_X11_86 xct_0 (by decide) rfl dX11_keep_10 ?_
    refine x_gi hM hG xfl_X11_308 xct_101 (by decide) rfl h dX11_keep_13 (fun v_4 h => ?_)
    refine lv_iconst (v := (1 : Int32)) hx hb dX11_keep_16 (by decide) ?_
    refine x_isub hM h dX11_keep_17 (fun v_5 h => ?_)
    refine x_cSi (As := [.int x2, .int (-1 : Int32), .int v_5]) (rest := []) hM hG xml_X11_97 xwt_X11_within h (fun S' v e => c_X11_within hM.2.2.2.2.2.2.1 e _) ⟨Nat.le_of_ble_eq_true rfl, Nat.le_of_ble_eq_true rfl⟩ rfl hl.1 rfl (Nat.le_of_ble_eq_true rfl) dX11_keep_18 (fun S_6 v_7 H locs h hG => ?_)
    refine x_if_ne (tgt := 26) hM h dX11_keep_21 (by decide) (fun c_8 h => ?_) (fun c_8 h => ?_)
    · refine lv_iload_n hx hb dX11_keep_26 rfl (lv_at hl 2 rfl) ?_
      refine x_if_ge (tgt := 42) hM h dX11_keep_27 (by decide) (fun c_9 h => ?_) (fun c_9 h => ?_)
      · refine lv_aload_n hx hb dX11_keep_42 rfl (lv_at hl 0 rfl) ?_
        refine x_gr (r := 1) hM hG xfl_X11_92 xct_0 (by decide) rfl dX11_keep_43 ?_
        refine lv_iload_n hx hb dX11_keep_46 rfl (lv_at hl 1 rfl) ?_
        refine x_aald5 hM hG xct_1 h dX11_keep_47 (fun hi_10 h => ?_)
        refine lv_iload_n hx hb dX11_keep_48 rfl (lv_at hl 2 rfl) ?_
        refine x_cVv (As := [.int x2]) (rest := []) hM hG xml_X11_314 xwi_X8_holdBody xws_X8_holdBody (xih_shelf hi_10).1 (by decide) rfl h (fun S' v e => c_X8_holdBody hM.2.2.2.2.2.2.1 (xih_shelf hi_10) e _) ⟨Nat.le_of_ble_eq_true rfl, Nat.le_of_ble_eq_true rfl⟩ rfl hl.1 rfl (Nat.le_of_ble_eq_true rfl) dX11_keep_49 (fun S_11 v_12 H locs h hG => ?_)
        refine lv_iconst (v := (1 : Int32)) hx hb dX11_keep_52 (by decide) ?_
        exact x_ri hM hG hr hlk rfl (k0 _ (Option.some.inj h).symm) dX11_keep_53
      · refine lv_aload_n hx hb dX11_keep_30 rfl (lv_at hl 0 rfl) ?_
        refine x_gr (r := 1) hM hG xfl_X11_92 xct_0 (by decide) rfl dX11_keep_31 ?_
        refine lv_iload_n hx hb dX11_keep_34 rfl (lv_at hl 1 rfl) ?_
        refine x_aald5 hM hG xct_1 h dX11_keep_35 (fun hi_13 h => ?_)
        refine x_cVv (As := []) (rest := []) hM hG xml_X11_311 xwi_X8_holdNothing xws_X8_holdNothing (xih_shelf hi_13).1 (by decide) rfl h (fun S' v e => c_X8_holdNothing hM.2.2.2.2.2.2.1 (xih_shelf hi_13) e _) ⟨Nat.le_of_ble_eq_true rfl, Nat.le_of_ble_eq_true rfl⟩ rfl hl.1 rfl (Nat.le_of_ble_eq_true rfl) dX11_keep_36 (fun S_14 v_15 H locs h hG => ?_)
        refine lv_goto (tgt := 52) hx hb dX11_keep_39 (by decide) ?_
        refine lv_iconst (v := (1 : Int32)) hx hb dX11_keep_52 (by decide) ?_
        exact x_ri hM hG hr hlk rfl (k0 _ (Option.some.inj h).symm) dX11_keep_53
    · refine lv_iconst (v := (-1 : Int32)) hx hb dX11_keep_24 (by decide) ?_
      exact x_ri hM hG hr hlk rfl (k0 _ (Option.some.inj h).symm) dX11_keep_25
set_option maxHeartbeats 4000000 in
set_option maxRecDepth 100000 in
theorem c_X11_keep {l : Launch} {D : va_G} {cy : Nat → ClassId} {a z : Nat → Nat} (hI : xI xtb a) {S : xSt} {x1 : Int32} {x2 : Int32} {S' : xSt} {v' : Int32} (hf : f_X11_keep S x1 x2 = some (S', v')) (sz : Nat) : Met l yX11_keep (Cond.code yX11_keep cX11_keep 3 (some .int) :: xTB) ({ frames := 2, cells := 0, slots := 0, locals := 42 } : Room) (va_Pc [.ref (a 0), .int x1, .int x2] (xPre D cy xtb a z S sz)) (xQi D cy xtb a S' v' sz) 0 0 (xA xtb a sz) := by
  refine Met.ofW (cc := cX11_keep) (maxL := 3) (ret := (some .int)) (by decide) rfl ?_
  intro p e s m args below meth c s₁ B hml hv
  obtain ⟨rfl, hsz, hP, hK, hE⟩ := hv
  subst hsz
  have hl := lv_entry ([.ref (a 0), .int x1, .int x2]) (n := 3) (Nat.le_of_ble_eq_true rfl)
  rw [lg_entry_eq]
  generalize (lg_sl ([.ref (a 0), .int x1, .int x2]) ++ List.replicate (3 - (lg_sl ([.ref (a 0), .int x1, .int x2])).length) Slot.unset).toArray = ls at hl ⊢
  have hl : lv_has ls 3 [(0, .ref (a 0)), (1, .int x1), (2, .int x2)] := hl
  exact w_X11_keep_0 ⟨B.exec, B.bytes, hml, findClass_of_methodNamed B.named, fun w hw => atoms_spec (ws := Cond.code yX11_keep cX11_keep 3 (some .int) :: xTB) B.pre w (List.mem_cons_of_mem _ hw), hK, hI, hE⟩ B.returns B.notSynchronized hf (fun t0 e => e.symm) ⟨hP, va_S.rf⟩ (lv_sub hl [0, 1, 2] rfl)
set_option maxHeartbeats 4000000 in
set_option maxRecDepth 100000 in
theorem w_X11_row_0 {x1 : Int32} {x2 : Int32} {x3 : Int32} (hM : xM p c cX11_row m s args RX11 4 D cy xtb a z) (hr : meth.sig.returnType = (some .int)) (hlk : meth.locks = false) {S' : xSt} {v' : Int32} {S : xSt} {q : (xSt × Int32)} (h : f_X11_row_0 x1 x2 x3 S = some q) (k0 : ∀ t0 : xSt × Int32, q = t0 → t0 = (S', v')) {H : Heap} {locs : List Loc} (hG : xG D cy xtb a S s H locs) {ls : Array Slot} (hl : lv_has ls 4 [(0, .ref (a 0)), (1, .int x1), (2, .int x2), (3, .int x3)]) : W p l e ({ frames := 2, cells := 0, slots := 0, locals := 42 } : Room) s m args below meth c H locs 0 0 (MQ below (xQi D cy xtb a S' v' s.heap.size) args s 0 0 (xA xtb a s.heap.size)) (F0 m 0 ls []) := by
  have hx := hM.1
  have hb := hM.2.1
  refine lv_iload_n hx hb dX11_row_0 rfl (lv_at hl 1 rfl) ?_
  refine x_cSi (As := [.int x1]) (rest := []) hM hG xml_X11_105 xwt_X11_isShelf h (fun S' v e => c_X11_isShelf hM.2.2.2.2.2.2.1 e _) ⟨Nat.le_of_ble_eq_true rfl, Nat.le_of_ble_eq_true rfl⟩ rfl hl.1 rfl (Nat.le_of_ble_eq_true rfl) dX11_row_1 (fun S_1 v_2 H locs h hG => ?_)
  refine x_if_eq (tgt := 22) hM h dX11_row_4 (by decide) (fun c_3 h => ?_) (fun c_3 h => ?_)
  · refine lv_iconst (v := (-1 : Int32)) hx hb dX11_row_22 (by decide) ?_
    exact x_ri hM hG hr hlk rfl (k0 _ (Option.some.inj h).symm) dX11_row_23
  · refine lv_iload_n hx hb dX11_row_7 rfl (lv_at hl 2 rfl) ?_
    refine lv_iconst (v := (0 : Int32)) hx hb dX11_row_8 (by decide) ?_
    refine lv_iconst (v := (4 : Int32)) hx hb dX11_row_9 (by decide) ?_
    refine x_cSi (As := [.int x2, .int (0 : Int32), .int (4 : Int32)]) (rest := []) hM hG xml_X11_97 xwt_X11_within h (fun S' v e => c_X11_within hM.2.2.2.2.2.2.1 e _) ⟨Nat.le_of_ble_eq_true rfl, Nat.le_of_ble_eq_true rfl⟩ rfl hl.1 rfl (Nat.le_of_ble_eq_true rfl) dX11_row_10 (fun S_4 v_5 H locs h hG => ?_)
    refine x_if_eq (tgt := 22) hM h dX11_row_13 (by decide) (fun c_6 h => ?_) (fun c_6 h => ?_)
    · refine lv_iconst (v := (-1 : Int32)) hx hb dX11_row_22 (by decide) ?_
      exact x_ri hM hG hr hlk rfl (k0 _ (Option.some.inj h).symm) dX11_row_23
    · refine lv_iload_n hx hb dX11_row_16 rfl (lv_at hl 3 rfl) ?_
      refine lv_bipush (v := (60 : Int32)) hx hb dX11_row_17 (by decide) ?_
      refine x_icmp_le (tgt := 24) hM h dX11_row_19 (by decide) (fun c_7 h => ?_) (fun c_7 h => ?_)
      · refine lv_iload_n hx hb dX11_row_24 rfl (lv_at hl 3 rfl) ?_
        refine x_if_ge (tgt := 31) hM h dX11_row_25 (by decide) (fun c_8 h => ?_) (fun c_8 h => ?_)
        · refine lv_aload_n hx hb dX11_row_31 rfl (lv_at hl 0 rfl) ?_
          refine x_gr (r := 1) hM hG xfl_X11_92 xct_0 (by decide) rfl dX11_row_32 ?_
          refine lv_iload_n hx hb dX11_row_35 rfl (lv_at hl 1 rfl) ?_
          refine x_aald5 hM hG xct_1 h dX11_row_36 (fun hi_9 h => ?_)
          refine lv_iload_n hx hb dX11_row_37 rfl (lv_at hl 2 rfl) ?_
          refine lv_iload_n hx hb dX11_row_38 rfl (lv_at hl 3 rfl) ?_
          refine x_cVv (As := [.int x2, .int x3]) (rest := []) hM hG xml_X11_317 xwi_X8_holdRow xws_X8_holdRow (xih_shelf hi_9).1 (by decide) rfl h (fun S' v e => c_X8_holdRow hM.2.2.2.2.2.2.1 (xih_shelf hi_9) e _) ⟨Nat.le_of_ble_eq_true rfl, Nat.le_of_ble_eq_true rfl⟩ rfl hl.1 rfl (Nat.le_of_ble_eq_true rfl) dX11_row_39 (fun S_10 v_11 H locs h hG => ?_)
          refine lv_iconst (v := (1 : Int32)) hx hb dX11_row_42 (by decide) ?_
          exact x_ri hM hG hr hlk rfl (k0 _ (Option.some.inj h).symm) dX11_row_43
        · refine lv_bipush (v := (-14 : Int32)) hx hb dX11_row_28 (by decide) ?_
          exact x_ri hM hG hr hlk rfl (k0 _ (Option.some.inj h).symm) dX11_row_30
      · refine lv_iconst (v := (-1 : Int32)) hx hb dX11_row_22 (by decide) ?_
        exact x_ri hM hG hr hlk rfl (k0 _ (Option.some.inj h).symm) dX11_row_23
set_option maxHeartbeats 4000000 in
set_option maxRecDepth 100000 in
theorem c_X11_row {l : Launch} {D : va_G} {cy : Nat → ClassId} {a z : Nat → Nat} (hI : xI xtb a) {S : xSt} {x1 : Int32} {x2 : Int32} {x3 : Int32} {S' : xSt} {v' : Int32} (hf : f_X11_row S x1 x2 x3 = some (S', v')) (sz : Nat) : Met l yX11_row (Cond.code yX11_row cX11_row 4 (some .int) :: xTB) ({ frames := 2, cells := 0, slots := 0, locals := 42 } : Room) (va_Pc [.ref (a 0), .int x1, .int x2, .int x3] (xPre D cy xtb a z S sz)) (xQi D cy xtb a S' v' sz) 0 0 (xA xtb a sz) := by
  refine Met.ofW (cc := cX11_row) (maxL := 4) (ret := (some .int)) (by decide) rfl ?_
  intro p e s m args below meth c s₁ B hml hv
  obtain ⟨rfl, hsz, hP, hK, hE⟩ := hv
  subst hsz
  have hl := lv_entry ([.ref (a 0), .int x1, .int x2, .int x3]) (n := 4) (Nat.le_of_ble_eq_true rfl)
  rw [lg_entry_eq]
  generalize (lg_sl ([.ref (a 0), .int x1, .int x2, .int x3]) ++ List.replicate (4 - (lg_sl ([.ref (a 0), .int x1, .int x2, .int x3])).length) Slot.unset).toArray = ls at hl ⊢
  have hl : lv_has ls 4 [(0, .ref (a 0)), (1, .int x1), (2, .int x2), (3, .int x3)] := hl
  exact w_X11_row_0 ⟨B.exec, B.bytes, hml, findClass_of_methodNamed B.named, fun w hw => atoms_spec (ws := Cond.code yX11_row cX11_row 4 (some .int) :: xTB) B.pre w (List.mem_cons_of_mem _ hw), hK, hI, hE⟩ B.returns B.notSynchronized hf (fun t0 e => e.symm) ⟨hP, va_S.rf⟩ (lv_sub hl [0, 1, 2, 3] rfl)
set_option maxHeartbeats 4000000 in
set_option maxRecDepth 100000 in
theorem w_X11_put_37 {x5 : Int32} (hM : xM p c cX11_put m s args RX11 6 D cy xtb a z) (hr : meth.sig.returnType = (some .int)) (hlk : meth.locks = false) {S' : xSt} {v' : Int32} {S : xSt} {q : (xSt × Int32)} (h : f_X11_put_37 x5 S = some q) (k0 : ∀ t0 : xSt × Int32, q = t0 → t0 = (S', v')) {H : Heap} {locs : List Loc} (hG : xG D cy xtb a S s H locs) {ls : Array Slot} (hl : lv_has ls 6 [(5, .int x5)]) : W p l e ({ frames := 2, cells := 0, slots := 0, locals := 42 } : Room) s m args below meth c H locs 0 0 (MQ below (xQi D cy xtb a S' v' s.heap.size) args s 0 0 (xA xtb a s.heap.size)) (F0 m 37 ls []) := by
  have hx := hM.1
  have hb := hM.2.1
  refine lv_iload hx hb dX11_put_37 (lv_at hl 0 rfl) ?_
  refine x_if_ne (tgt := 46) hM h dX11_put_39 (by decide) (fun c_1 h => ?_) (fun c_1 h => ?_)
  · refine lv_iload hx hb dX11_put_46 (lv_at hl 0 rfl) ?_
    exact x_ri hM hG hr hlk rfl (k0 _ (Option.some.inj h).symm) dX11_put_48
  · refine lv_iconst (v := (1 : Int32)) hx hb dX11_put_42 (by decide) ?_
    refine lv_goto (tgt := 48) hx hb dX11_put_43 (by decide) ?_
    exact x_ri hM hG hr hlk rfl (k0 _ (Option.some.inj h).symm) dX11_put_48
set_option maxHeartbeats 4000000 in
set_option maxRecDepth 100000 in
theorem w_X11_put_0 {x1 : Int32} {x2 : Int32} {x3 : Int64} (hM : xM p c cX11_put m s args RX11 6 D cy xtb a z) (hr : meth.sig.returnType = (some .int)) (hlk : meth.locks = false) {S' : xSt} {v' : Int32} {S : xSt} {q : (xSt × Int32)} (h : f_X11_put_0 x1 x2 x3 S = some q) (k0 : ∀ t0 : xSt × Int32, q = t0 → t0 = (S', v')) {H : Heap} {locs : List Loc} (hG : xG D cy xtb a S s H locs) {ls : Array Slot} (hl : lv_has ls 6 [(0, .ref (a 0)), (1, .int x1), (2, .int x2), (3, .long x3)]) : W p l e ({ frames := 2, cells := 0, slots := 0, locals := 42 } : Room) s m args below meth c H locs 0 0 (MQ below (xQi D cy xtb a S' v' s.heap.size) args s 0 0 (xA xtb a s.heap.size)) (F0 m 0 ls []) := by
  have hx := hM.1
  have hb := hM.2.1
  refine lv_iload_n hx hb dX11_put_0 rfl (lv_at hl 1 rfl) ?_
  refine x_cSi (As := [.int x1]) (rest := []) hM hG xml_X11_105 xwt_X11_isShelf h (fun S' v e => c_X11_isShelf hM.2.2.2.2.2.2.1 e _) ⟨Nat.le_of_ble_eq_true rfl, Nat.le_of_ble_eq_true rfl⟩ rfl hl.1 rfl (Nat.le_of_ble_eq_true rfl) dX11_put_1 (fun S_1 v_2 H locs h hG => ?_)
  refine x_if_ne (tgt := 9) hM h dX11_put_4 (by decide) (fun c_3 h => ?_) (fun c_3 h => ?_)
  · refine lv_aload_n hx hb dX11_put_9 rfl (lv_at hl 0 rfl) ?_
    refine x_gr (r := 1) hM hG xfl_X11_92 xct_0 (by decide) rfl dX11_put_10 ?_
    refine lv_iload_n hx hb dX11_put_13 rfl (lv_at hl 1 rfl) ?_
    refine x_aald5 hM hG xct_1 h dX11_put_14 (fun hi_4 h => ?_)
    refine lv_iload_n hx hb dX11_put_15 rfl (lv_at hl 2 rfl) ?_
    refine x_cVi (As := [.int x2]) (rest := []) hM hG xml_X11_320 xwi_X8_refusalOfPlace xws_X8_refusalOfPlace (xih_shelf hi_4).1 (by decide) rfl h (fun S' v e => c_X8_refusalOfPlace hM.2.2.2.2.2.2.1 (xih_shelf hi_4) e _) ⟨Nat.le_of_ble_eq_true rfl, Nat.le_of_ble_eq_true rfl⟩ rfl hl.1 rfl (Nat.le_of_ble_eq_true rfl) dX11_put_16 (fun S_5 v_6 H locs h hG => ?_)
    refine lv_istore (lv' := [(5, .int v_6), (0, .ref (a 0)), (1, .int x1), (2, .int x2), (3, .long x3)]) hx hb dX11_put_19 hl (by decide) rfl (fun ls hl => ?_)
    refine lv_iload hx hb dX11_put_21 (lv_at hl 0 rfl) ?_
    refine x_if_ne (tgt := 37) hM h dX11_put_23 (by decide) (fun c_7 h => ?_) (fun c_7 h => ?_)
    · exact w_X11_put_37 hM hr hlk h (fun t0 e => k0 t0 e) hG (lv_sub hl [0] rfl)
    · refine lv_aload_n hx hb dX11_put_26 rfl (lv_at hl 1 rfl) ?_
      refine x_gr (r := 1) hM hG xfl_X11_92 xct_0 (by decide) rfl dX11_put_27 ?_
      refine lv_iload_n hx hb dX11_put_30 rfl (lv_at hl 2 rfl) ?_
      refine x_aald5 hM hG xct_1 h dX11_put_31 (fun hi_8 h => ?_)
      refine lv_iload_n hx hb dX11_put_32 rfl (lv_at hl 3 rfl) ?_
      refine lv_lload_n hx hb dX11_put_33 rfl (lv_at hl 4 rfl) ?_
      refine x_cVv (As := [.int x2, .long x3]) (rest := []) hM hG xml_X11_323 xwi_X8_store xws_X8_store (xih_shelf hi_8).1 (by decide) rfl h (fun S' v e => c_X8_store hM.2.2.2.2.2.2.1 (xih_shelf hi_8) e _) ⟨Nat.le_of_ble_eq_true rfl, Nat.le_of_ble_eq_true rfl⟩ rfl hl.1 rfl (Nat.le_of_ble_eq_true rfl) dX11_put_34 (fun S_9 v_10 H locs h hG => ?_)
      exact w_X11_put_37 hM hr hlk h (fun t0 e => k0 t0 e) hG (lv_sub hl [0] rfl)
  · refine lv_iconst (v := (-1 : Int32)) hx hb dX11_put_7 (by decide) ?_
    exact x_ri hM hG hr hlk rfl (k0 _ (Option.some.inj h).symm) dX11_put_8
set_option maxHeartbeats 4000000 in
set_option maxRecDepth 100000 in
theorem c_X11_put {l : Launch} {D : va_G} {cy : Nat → ClassId} {a z : Nat → Nat} (hI : xI xtb a) {S : xSt} {x1 : Int32} {x2 : Int32} {x3 : Int64} {S' : xSt} {v' : Int32} (hf : f_X11_put S x1 x2 x3 = some (S', v')) (sz : Nat) : Met l yX11_put (Cond.code yX11_put cX11_put 6 (some .int) :: xTB) ({ frames := 2, cells := 0, slots := 0, locals := 42 } : Room) (va_Pc [.ref (a 0), .int x1, .int x2, .long x3] (xPre D cy xtb a z S sz)) (xQi D cy xtb a S' v' sz) 0 0 (xA xtb a sz) := by
  refine Met.ofW (cc := cX11_put) (maxL := 6) (ret := (some .int)) (by decide) rfl ?_
  intro p e s m args below meth c s₁ B hml hv
  obtain ⟨rfl, hsz, hP, hK, hE⟩ := hv
  subst hsz
  have hl := lv_entry ([.ref (a 0), .int x1, .int x2, .long x3]) (n := 6) (Nat.le_of_ble_eq_true rfl)
  rw [lg_entry_eq]
  generalize (lg_sl ([.ref (a 0), .int x1, .int x2, .long x3]) ++ List.replicate (6 - (lg_sl ([.ref (a 0), .int x1, .int x2, .long x3])).length) Slot.unset).toArray = ls at hl ⊢
  have hl : lv_has ls 6 [(0, .ref (a 0)), (1, .int x1), (2, .int x2), (3, .long x3)] := hl
  exact w_X11_put_0 ⟨B.exec, B.bytes, hml, findClass_of_methodNamed B.named, fun w hw => atoms_spec (ws := Cond.code yX11_put cX11_put 6 (some .int) :: xTB) B.pre w (List.mem_cons_of_mem _ hw), hK, hI, hE⟩ B.returns B.notSynchronized hf (fun t0 e => e.symm) ⟨hP, va_S.rf⟩ (lv_sub hl [0, 1, 2, 3] rfl)
set_option maxHeartbeats 4000000 in
set_option maxRecDepth 100000 in
theorem w_X11_element_0 {x1 : Int32} {x2 : Int32} (hM : xM p c cX11_element m s args RX11 3 D cy xtb a z) (hr : meth.sig.returnType = (some .long)) (hlk : meth.locks = false) {S' : xSt} {v' : Int64} {S : xSt} {q : (xSt × Int64)} (h : f_X11_element_0 x1 x2 S = some q) (k0 : ∀ t0 : xSt × Int64, q = t0 → t0 = (S', v')) {H : Heap} {locs : List Loc} (hG : xG D cy xtb a S s H locs) {ls : Array Slot} (hl : lv_has ls 3 [(0, .ref (a 0)), (1, .int x1), (2, .int x2)]) : W p l e ({ frames := 2, cells := 0, slots := 0, locals := 42 } : Room) s m args below meth c H locs 0 0 (MQ below (xQl D cy xtb a S' v' s.heap.size) args s 0 0 (xA xtb a s.heap.size)) (F0 m 0 ls []) := by
  have hx := hM.1
  have hb := hM.2.1
  refine lv_iload_n hx hb dX11_element_0 rfl (lv_at hl 1 rfl) ?_
  refine x_cSi (As := [.int x1]) (rest := []) hM hG xml_X11_105 xwt_X11_isShelf h (fun S' v e => c_X11_isShelf hM.2.2.2.2.2.2.1 e _) ⟨Nat.le_of_ble_eq_true rfl, Nat.le_of_ble_eq_true rfl⟩ rfl hl.1 rfl (Nat.le_of_ble_eq_true rfl) dX11_element_1 (fun S_1 v_2 H locs h hG => ?_)
  refine x_if_eq (tgt := 20) hM h dX11_element_4 (by decide) (fun c_3 h => ?_) (fun c_3 h => ?_)
  · refine lv_ldc2 (v := (-9223372036854775808 : Int64)) hx hb hM.2.2.2.1 (hM.2.2.2.2.1 _ xcn_X11_197) dX11_element_20 ?_
    exact x_rl hM hG hr hlk (k0 _ (Option.some.inj h).symm) dX11_element_23
  · refine lv_aload_n hx hb dX11_element_7 rfl (lv_at hl 0 rfl) ?_
    refine x_gr (r := 1) hM hG xfl_X11_92 xct_0 (by decide) rfl dX11_element_8 ?_
    refine lv_iload_n hx hb dX11_element_11 rfl (lv_at hl 1 rfl) ?_
    refine x_aald5 hM hG xct_1 h dX11_element_12 (fun hi_4 h => ?_)
    refine lv_iload_n hx hb dX11_element_13 rfl (lv_at hl 2 rfl) ?_
    refine x_cVi (As := [.int x2]) (rest := []) hM hG xml_X11_320 xwi_X8_refusalOfPlace xws_X8_refusalOfPlace (xih_shelf hi_4).1 (by decide) rfl h (fun S' v e => c_X8_refusalOfPlace hM.2.2.2.2.2.2.1 (xih_shelf hi_4) e _) ⟨Nat.le_of_ble_eq_true rfl, Nat.le_of_ble_eq_true rfl⟩ rfl hl.1 rfl (Nat.le_of_ble_eq_true rfl) dX11_element_14 (fun S_5 v_6 H locs h hG => ?_)
    refine x_if_eq (tgt := 24) hM h dX11_element_17 (by decide) (fun c_7 h => ?_) (fun c_7 h => ?_)
    · refine lv_aload_n hx hb dX11_element_24 rfl (lv_at hl 0 rfl) ?_
      refine x_gr (r := 1) hM hG xfl_X11_92 xct_0 (by decide) rfl dX11_element_25 ?_
      refine lv_iload_n hx hb dX11_element_28 rfl (lv_at hl 1 rfl) ?_
      refine x_aald5 hM hG xct_1 h dX11_element_29 (fun hi_8 h => ?_)
      refine x_gr (r := 104 + 2 * x1.toNatClampNeg + 1) hM hG xfl_X11_327 (xih_shelf hi_8).1 (by decide) rfl dX11_element_30 ?_
      refine lv_iload_n hx hb dX11_element_33 rfl (lv_at hl 2 rfl) ?_
      refine x_lald hM hG (xih_shelf hi_8).2 h dX11_element_34 (fun v_9 h => ?_)
      exact x_rl hM hG hr hlk (k0 _ (Option.some.inj h).symm) dX11_element_35
    · refine lv_ldc2 (v := (-9223372036854775808 : Int64)) hx hb hM.2.2.2.1 (hM.2.2.2.2.1 _ xcn_X11_197) dX11_element_20 ?_
      exact x_rl hM hG hr hlk (k0 _ (Option.some.inj h).symm) dX11_element_23
set_option maxHeartbeats 4000000 in
set_option maxRecDepth 100000 in
theorem c_X11_element {l : Launch} {D : va_G} {cy : Nat → ClassId} {a z : Nat → Nat} (hI : xI xtb a) {S : xSt} {x1 : Int32} {x2 : Int32} {S' : xSt} {v' : Int64} (hf : f_X11_element S x1 x2 = some (S', v')) (sz : Nat) : Met l yX11_element (Cond.code yX11_element cX11_element 3 (some .long) :: xTB) ({ frames := 2, cells := 0, slots := 0, locals := 42 } : Room) (va_Pc [.ref (a 0), .int x1, .int x2] (xPre D cy xtb a z S sz)) (xQl D cy xtb a S' v' sz) 0 0 (xA xtb a sz) := by
  refine Met.ofW (cc := cX11_element) (maxL := 3) (ret := (some .long)) (by decide) rfl ?_
  intro p e s m args below meth c s₁ B hml hv
  obtain ⟨rfl, hsz, hP, hK, hE⟩ := hv
  subst hsz
  have hl := lv_entry ([.ref (a 0), .int x1, .int x2]) (n := 3) (Nat.le_of_ble_eq_true rfl)
  rw [lg_entry_eq]
  generalize (lg_sl ([.ref (a 0), .int x1, .int x2]) ++ List.replicate (3 - (lg_sl ([.ref (a 0), .int x1, .int x2])).length) Slot.unset).toArray = ls at hl ⊢
  have hl : lv_has ls 3 [(0, .ref (a 0)), (1, .int x1), (2, .int x2)] := hl
  exact w_X11_element_0 ⟨B.exec, B.bytes, hml, findClass_of_methodNamed B.named, fun w hw => atoms_spec (ws := Cond.code yX11_element cX11_element 3 (some .long) :: xTB) B.pre w (List.mem_cons_of_mem _ hw), hK, hI, hE⟩ B.returns B.notSynchronized hf (fun t0 e => e.symm) ⟨hP, va_S.rf⟩ (lv_sub hl [0, 1, 2] rfl)
set_option maxHeartbeats 4000000 in
set_option maxRecDepth 100000 in
theorem w_X11_shift_0 {x1 : Int32} {x2 : Int32} {x3 : Int32} {x4 : Int32} {x5 : Int32} (hM : xM p c cX11_shift m s args RX11 8 D cy xtb a z) (hr : meth.sig.returnType = (some .int)) (hlk : meth.locks = false) {S' : xSt} {v' : Int32} {S : xSt} {q : (xSt × Int32)} (h : f_X11_shift_0 x1 x2 x3 x4 x5 S = some q) (k0 : ∀ t0 : xSt × Int32, q = t0 → t0 = (S', v')) {H : Heap} {locs : List Loc} (hG : xG D cy xtb a S s H locs) {ls : Array Slot} (hl : lv_has ls 8 [(0, .ref (a 0)), (1, .int x1), (2, .int x2), (3, .int x3), (4, .int x4), (5, .int x5)]) : W p l e ({ frames := 2, cells := 0, slots := 0, locals := 42 } : Room) s m args below meth c H locs 0 0 (MQ below (xQi D cy xtb a S' v' s.heap.size) args s 0 0 (xA xtb a s.heap.size)) (F0 m 0 ls []) := by
  have hx := hM.1
  have hb := hM.2.1
  refine lv_iload_n hx hb dX11_shift_0 rfl (lv_at hl 1 rfl) ?_
  refine x_cSi (As := [.int x1]) (rest := []) hM hG xml_X11_105 xwt_X11_isShelf h (fun S' v e => c_X11_isShelf hM.2.2.2.2.2.2.1 e _) ⟨Nat.le_of_ble_eq_true rfl, Nat.le_of_ble_eq_true rfl⟩ rfl hl.1 rfl (Nat.le_of_ble_eq_true rfl) dX11_shift_1 (fun S_1 v_2 H locs h hG => ?_)
  refine x_if_eq (tgt := 14) hM h dX11_shift_4 (by decide) (fun c_3 h => ?_) (fun c_3 h => ?_)
  · refine lv_iconst (v := (-1 : Int32)) hx hb dX11_shift_14 (by decide) ?_
    exact x_ri hM hG hr hlk rfl (k0 _ (Option.some.inj h).symm) dX11_shift_15
  · refine lv_iload_n hx hb dX11_shift_7 rfl (lv_at hl 3 rfl) ?_
    refine x_cSi (As := [.int x3]) (rest := []) hM hG xml_X11_105 xwt_X11_isShelf h (fun S' v e => c_X11_isShelf hM.2.2.2.2.2.2.1 e _) ⟨Nat.le_of_ble_eq_true rfl, Nat.le_of_ble_eq_true rfl⟩ rfl hl.1 rfl (Nat.le_of_ble_eq_true rfl) dX11_shift_8 (fun S_4 v_5 H locs h hG => ?_)
    refine x_if_ne (tgt := 16) hM h dX11_shift_11 (by decide) (fun c_6 h => ?_) (fun c_6 h => ?_)
    · refine lv_aload_n hx hb dX11_shift_16 rfl (lv_at hl 0 rfl) ?_
      refine x_gr (r := 1) hM hG xfl_X11_92 xct_0 (by decide) rfl dX11_shift_17 ?_
      refine lv_iload_n hx hb dX11_shift_20 rfl (lv_at hl 1 rfl) ?_
      refine x_aald5 hM hG xct_1 h dX11_shift_21 (fun hi_7 h => ?_)
      refine lv_astore (lv' := [(6, .ref (a (104 + 2 * x1.toNatClampNeg))), (0, .ref (a 0)), (1, .int x1), (2, .int x2), (3, .int x3), (4, .int x4), (5, .int x5)]) hx hb dX11_shift_22 hl (by decide) rfl (fun ls hl => ?_)
      refine lv_aload_n hx hb dX11_shift_24 rfl (lv_at hl 1 rfl) ?_
      refine x_gr (r := 1) hM hG xfl_X11_92 xct_0 (by decide) rfl dX11_shift_25 ?_
      refine lv_iload_n hx hb dX11_shift_28 rfl (lv_at hl 4 rfl) ?_
      refine x_aald5 hM hG xct_1 h dX11_shift_29 (fun hi_8 h => ?_)
      refine lv_astore (lv' := [(7, .ref (a (104 + 2 * x3.toNatClampNeg))), (6, .ref (a (104 + 2 * x1.toNatClampNeg))), (0, .ref (a 0)), (1, .int x1), (2, .int x2), (3, .int x3), (4, .int x4), (5, .int x5)]) hx hb dX11_shift_30 hl (by decide) rfl (fun ls hl => ?_)
      refine lv_aload hx hb dX11_shift_32 (lv_at hl 1 rfl) ?_
      refine x_cVi (As := []) (rest := []) hM hG xml_X11_331 xwi_X8_isEmpty xws_X8_isEmpty (xih_shelf hi_7).1 (by decide) rfl h (fun S' v e => c_X8_isEmpty hM.2.2.2.2.2.2.1 (xih_shelf hi_7) e _) ⟨Nat.le_of_ble_eq_true rfl, Nat.le_of_ble_eq_true rfl⟩ rfl hl.1 rfl (Nat.le_of_ble_eq_true rfl) dX11_shift_34 (fun S_9 v_10 H locs h hG => ?_)
      refine x_if_ne (tgt := 48) hM h dX11_shift_37 (by decide) (fun c_11 h => ?_) (fun c_11 h => ?_)
      · refine lv_bipush (v := (-11 : Int32)) hx hb dX11_shift_48 (by decide) ?_
        exact x_ri hM hG hr hlk rfl (k0 _ (Option.some.inj h).symm) dX11_shift_50
      · refine lv_aload hx hb dX11_shift_40 (lv_at hl 0 rfl) ?_
        refine x_cVi (As := []) (rest := []) hM hG xml_X11_331 xwi_X8_isEmpty xws_X8_isEmpty (xih_shelf hi_8).1 (by decide) rfl h (fun S' v e => c_X8_isEmpty hM.2.2.2.2.2.2.1 (xih_shelf hi_8) e _) ⟨Nat.le_of_ble_eq_true rfl, Nat.le_of_ble_eq_true rfl⟩ rfl hl.1 rfl (Nat.le_of_ble_eq_true rfl) dX11_shift_42 (fun S_12 v_13 H locs h hG => ?_)
        refine x_if_eq (tgt := 51) hM h dX11_shift_45 (by decide) (fun c_14 h => ?_) (fun c_14 h => ?_)
        · refine lv_aload hx hb dX11_shift_51 (lv_at hl 1 rfl) ?_
          refine x_cVi (As := []) (rest := []) hM hG xml_X11_335 xwi_X8_hasRow xws_X8_hasRow (xih_shelf hi_7).1 (by decide) rfl h (fun S' v e => c_X8_hasRow hM.2.2.2.2.2.2.1 (xih_shelf hi_7) e _) ⟨Nat.le_of_ble_eq_true rfl, Nat.le_of_ble_eq_true rfl⟩ rfl hl.1 rfl (Nat.le_of_ble_eq_true rfl) dX11_shift_53 (fun S_15 v_16 H locs h hG => ?_)
          refine x_if_eq (tgt := 80) hM h dX11_shift_56 (by decide) (fun c_17 h => ?_) (fun c_17 h => ?_)
          · refine lv_bipush (v := (-12 : Int32)) hx hb dX11_shift_80 (by decide) ?_
            exact x_ri hM hG hr hlk rfl (k0 _ (Option.some.inj h).symm) dX11_shift_82
          · refine lv_aload hx hb dX11_shift_59 (lv_at hl 0 rfl) ?_
            refine x_cVi (As := []) (rest := []) hM hG xml_X11_335 xwi_X8_hasRow xws_X8_hasRow (xih_shelf hi_8).1 (by decide) rfl h (fun S' v e => c_X8_hasRow hM.2.2.2.2.2.2.1 (xih_shelf hi_8) e _) ⟨Nat.le_of_ble_eq_true rfl, Nat.le_of_ble_eq_true rfl⟩ rfl hl.1 rfl (Nat.le_of_ble_eq_true rfl) dX11_shift_61 (fun S_18 v_19 H locs h hG => ?_)
            refine x_if_eq (tgt := 80) hM h dX11_shift_64 (by decide) (fun c_20 h => ?_) (fun c_20 h => ?_)
            · refine lv_bipush (v := (-12 : Int32)) hx hb dX11_shift_80 (by decide) ?_
              exact x_ri hM hG hr hlk rfl (k0 _ (Option.some.inj h).symm) dX11_shift_82
            · refine lv_aload hx hb dX11_shift_67 (lv_at hl 1 rfl) ?_
              refine x_gi hM hG xfl_X11_338 (xih_shelf hi_7).1 (by decide) rfl h dX11_shift_69 (fun v_21 h => ?_)
              refine lv_aload hx hb dX11_shift_72 (lv_at hl 0 rfl) ?_
              refine x_gi hM hG xfl_X11_338 (xih_shelf hi_8).1 (by decide) rfl h dX11_shift_74 (fun v_22 h => ?_)
              refine x_icmp_eq (tgt := 83) hM h dX11_shift_77 (by decide) (fun c_23 h => ?_) (fun c_23 h => ?_)
              · refine lv_aload hx hb dX11_shift_83 (lv_at hl 1 rfl) ?_
                refine lv_iload_n hx hb dX11_shift_85 rfl (lv_at hl 4 rfl) ?_
                refine lv_iload hx hb dX11_shift_86 (lv_at hl 7 rfl) ?_
                refine x_cVi (As := [.int x2, .int x5]) (rest := []) hM hG xml_X11_341 xwi_X8_hasPlaces xws_X8_hasPlaces (xih_shelf hi_7).1 (by decide) rfl h (fun S' v e => c_X8_hasPlaces hM.2.2.2.2.2.2.1 (xih_shelf hi_7) e _) ⟨Nat.le_of_ble_eq_true rfl, Nat.le_of_ble_eq_true rfl⟩ rfl hl.1 rfl (Nat.le_of_ble_eq_true rfl) dX11_shift_88 (fun S_24 v_25 H locs h hG => ?_)
                refine x_if_eq (tgt := 106) hM h dX11_shift_91 (by decide) (fun c_26 h => ?_) (fun c_26 h => ?_)
                · refine lv_bipush (v := (-13 : Int32)) hx hb dX11_shift_106 (by decide) ?_
                  exact x_ri hM hG hr hlk rfl (k0 _ (Option.some.inj h).symm) dX11_shift_108
                · refine lv_aload hx hb dX11_shift_94 (lv_at hl 0 rfl) ?_
                  refine lv_iload hx hb dX11_shift_96 (lv_at hl 6 rfl) ?_
                  refine lv_iload hx hb dX11_shift_98 (lv_at hl 7 rfl) ?_
                  refine x_cVi (As := [.int x4, .int x5]) (rest := []) hM hG xml_X11_341 xwi_X8_hasPlaces xws_X8_hasPlaces (xih_shelf hi_8).1 (by decide) rfl h (fun S' v e => c_X8_hasPlaces hM.2.2.2.2.2.2.1 (xih_shelf hi_8) e _) ⟨Nat.le_of_ble_eq_true rfl, Nat.le_of_ble_eq_true rfl⟩ rfl hl.1 rfl (Nat.le_of_ble_eq_true rfl) dX11_shift_100 (fun S_27 v_28 H locs h hG => ?_)
                  refine x_if_ne (tgt := 109) hM h dX11_shift_103 (by decide) (fun c_29 h => ?_) (fun c_29 h => ?_)
                  · refine lv_aload hx hb dX11_shift_109 (lv_at hl 1 rfl) ?_
                    refine x_gr (r := 104 + 2 * x1.toNatClampNeg + 1) hM hG xfl_X11_327 (xih_shelf hi_7).1 (by decide) rfl dX11_shift_111 ?_
                    refine lv_iload_n hx hb dX11_shift_114 rfl (lv_at hl 4 rfl) ?_
                    refine lv_aload hx hb dX11_shift_115 (lv_at hl 0 rfl) ?_
                    refine x_gr (r := 104 + 2 * x3.toNatClampNeg + 1) hM hG xfl_X11_327 (xih_shelf hi_8).1 (by decide) rfl dX11_shift_117 ?_
                    refine lv_iload hx hb dX11_shift_120 (lv_at hl 6 rfl) ?_
                    refine lv_iload hx hb dX11_shift_122 (lv_at hl 7 rfl) ?_
                    refine x_cpl hM hG hl.1 xcp_X11_344 (xih_shelf hi_7).2 (xih_shelf hi_8).2 h (Nat.le_of_ble_eq_true rfl) (Nat.le_of_ble_eq_true rfl) dX11_shift_124 (fun S_30 H locs h hG => ?_)
                    refine lv_iload hx hb dX11_shift_127 (lv_at hl 7 rfl) ?_
                    exact x_ri hM hG hr hlk rfl (k0 _ (Option.some.inj h).symm) dX11_shift_129
                  · refine lv_bipush (v := (-13 : Int32)) hx hb dX11_shift_106 (by decide) ?_
                    exact x_ri hM hG hr hlk rfl (k0 _ (Option.some.inj h).symm) dX11_shift_108
              · refine lv_bipush (v := (-12 : Int32)) hx hb dX11_shift_80 (by decide) ?_
                exact x_ri hM hG hr hlk rfl (k0 _ (Option.some.inj h).symm) dX11_shift_82
        · refine lv_bipush (v := (-11 : Int32)) hx hb dX11_shift_48 (by decide) ?_
          exact x_ri hM hG hr hlk rfl (k0 _ (Option.some.inj h).symm) dX11_shift_50
    · refine lv_iconst (v := (-1 : Int32)) hx hb dX11_shift_14 (by decide) ?_
      exact x_ri hM hG hr hlk rfl (k0 _ (Option.some.inj h).symm) dX11_shift_15
set_option maxHeartbeats 4000000 in
set_option maxRecDepth 100000 in
theorem c_X11_shift {l : Launch} {D : va_G} {cy : Nat → ClassId} {a z : Nat → Nat} (hI : xI xtb a) {S : xSt} {x1 : Int32} {x2 : Int32} {x3 : Int32} {x4 : Int32} {x5 : Int32} {S' : xSt} {v' : Int32} (hf : f_X11_shift S x1 x2 x3 x4 x5 = some (S', v')) (sz : Nat) : Met l yX11_shift (Cond.code yX11_shift cX11_shift 8 (some .int) :: xTB) ({ frames := 2, cells := 0, slots := 0, locals := 42 } : Room) (va_Pc [.ref (a 0), .int x1, .int x2, .int x3, .int x4, .int x5] (xPre D cy xtb a z S sz)) (xQi D cy xtb a S' v' sz) 0 0 (xA xtb a sz) := by
  refine Met.ofW (cc := cX11_shift) (maxL := 8) (ret := (some .int)) (by decide) rfl ?_
  intro p e s m args below meth c s₁ B hml hv
  obtain ⟨rfl, hsz, hP, hK, hE⟩ := hv
  subst hsz
  have hl := lv_entry ([.ref (a 0), .int x1, .int x2, .int x3, .int x4, .int x5]) (n := 8) (Nat.le_of_ble_eq_true rfl)
  rw [lg_entry_eq]
  generalize (lg_sl ([.ref (a 0), .int x1, .int x2, .int x3, .int x4, .int x5]) ++ List.replicate (8 - (lg_sl ([.ref (a 0), .int x1, .int x2, .int x3, .int x4, .int x5])).length) Slot.unset).toArray = ls at hl ⊢
  have hl : lv_has ls 8 [(0, .ref (a 0)), (1, .int x1), (2, .int x2), (3, .int x3), (4, .int x4), (5, .int x5)] := hl
  exact w_X11_shift_0 ⟨B.exec, B.bytes, hml, findClass_of_methodNamed B.named, fun w hw => atoms_spec (ws := Cond.code yX11_shift cX11_shift 8 (some .int) :: xTB) B.pre w (List.mem_cons_of_mem _ hw), hK, hI, hE⟩ B.returns B.notSynchronized hf (fun t0 e => e.symm) ⟨hP, va_S.rf⟩ (lv_sub hl [0, 1, 2, 3, 4, 5] rfl)
set_option maxHeartbeats 4000000 in
set_option maxRecDepth 100000 in
theorem w_X11_taken_0 {x1 : Int32} {x2 : Int32} (hM : xM p c cX11_taken m s args RX11 4 D cy xtb a z) (hr : meth.sig.returnType = (some .int)) (hlk : meth.locks = false) {S' : xSt} {v' : Int32} {S : xSt} {q : (xSt × Int32)} (h : f_X11_taken_0 x1 x2 S = some q) (k0 : ∀ t0 : xSt × Int32, q = t0 → t0 = (S', v')) {H : Heap} {locs : List Loc} (hG : xG D cy xtb a S s H locs) {ls : Array Slot} (hl : lv_has ls 4 [(0, .ref (a 0)), (1, .int x1), (2, .int x2)]) : W p l e ({ frames := 2, cells := 0, slots := 0, locals := 42 } : Room) s m args below meth c H locs 0 0 (MQ below (xQi D cy xtb a S' v' s.heap.size) args s 0 0 (xA xtb a s.heap.size)) (F0 m 0 ls []) := by
  have hx := hM.1
  have hb := hM.2.1
  refine lv_iload_n hx hb dX11_taken_0 rfl (lv_at hl 1 rfl) ?_
  refine x_cSi (As := [.int x1]) (rest := []) hM hG xml_X11_105 xwt_X11_isShelf h (fun S' v e => c_X11_isShelf hM.2.2.2.2.2.2.1 e _) ⟨Nat.le_of_ble_eq_true rfl, Nat.le_of_ble_eq_true rfl⟩ rfl hl.1 rfl (Nat.le_of_ble_eq_true rfl) dX11_taken_1 (fun S_1 v_2 H locs h hG => ?_)
  refine x_if_eq (tgt := 17) hM h dX11_taken_4 (by decide) (fun c_3 h => ?_) (fun c_3 h => ?_)
  · refine lv_iconst (v := (-1 : Int32)) hx hb dX11_taken_17 (by decide) ?_
    exact x_ri hM hG hr hlk rfl (k0 _ (Option.some.inj h).symm) dX11_taken_18
  · refine lv_iload_n hx hb dX11_taken_7 rfl (lv_at hl 2 rfl) ?_
    refine lv_iconst (v := (0 : Int32)) hx hb dX11_taken_8 (by decide) ?_
    refine lv_bipush (v := (7 : Int32)) hx hb dX11_taken_9 (by decide) ?_
    refine x_cSi (As := [.int x2, .int (0 : Int32), .int (7 : Int32)]) (rest := []) hM hG xml_X11_97 xwt_X11_within h (fun S' v e => c_X11_within hM.2.2.2.2.2.2.1 e _) ⟨Nat.le_of_ble_eq_true rfl, Nat.le_of_ble_eq_true rfl⟩ rfl hl.1 rfl (Nat.le_of_ble_eq_true rfl) dX11_taken_11 (fun S_4 v_5 H locs h hG => ?_)
    refine x_if_ne (tgt := 19) hM h dX11_taken_14 (by decide) (fun c_6 h => ?_) (fun c_6 h => ?_)
    · refine lv_aload_n hx hb dX11_taken_19 rfl (lv_at hl 0 rfl) ?_
      refine x_gr (r := 1) hM hG xfl_X11_92 xct_0 (by decide) rfl dX11_taken_20 ?_
      refine lv_iload_n hx hb dX11_taken_23 rfl (lv_at hl 1 rfl) ?_
      refine x_aald5 hM hG xct_1 h dX11_taken_24 (fun hi_7 h => ?_)
      refine x_cVi (As := []) (rest := []) hM hG xml_X11_331 xwi_X8_isEmpty xws_X8_isEmpty (xih_shelf hi_7).1 (by decide) rfl h (fun S' v e => c_X8_isEmpty hM.2.2.2.2.2.2.1 (xih_shelf hi_7) e _) ⟨Nat.le_of_ble_eq_true rfl, Nat.le_of_ble_eq_true rfl⟩ rfl hl.1 rfl (Nat.le_of_ble_eq_true rfl) dX11_taken_25 (fun S_8 v_9 H locs h hG => ?_)
      refine x_if_eq (tgt := 34) hM h dX11_taken_28 (by decide) (fun c_10 h => ?_) (fun c_10 h => ?_)
      · refine lv_aload_n hx hb dX11_taken_34 rfl (lv_at hl 0 rfl) ?_
        refine x_gr (r := 101) hM hG xfl_X11_86 xct_0 (by decide) rfl dX11_taken_35 ?_
        refine lv_aload_n hx hb dX11_taken_38 rfl (lv_at hl 0 rfl) ?_
        refine x_gr (r := 1) hM hG xfl_X11_92 xct_0 (by decide) rfl dX11_taken_39 ?_
        refine lv_iload_n hx hb dX11_taken_42 rfl (lv_at hl 1 rfl) ?_
        refine x_aald5 hM hG xct_1 h dX11_taken_43 (fun hi_11 h => ?_)
        refine x_cVi (As := []) (rest := [.ref (a 101)]) hM hG xml_X11_350 xwi_X8_heldBody xws_X8_heldBody (xih_shelf hi_11).1 (by decide) rfl h (fun S' v e => c_X8_heldBody hM.2.2.2.2.2.2.1 (xih_shelf hi_11) e _) ⟨Nat.le_of_ble_eq_true rfl, Nat.le_of_ble_eq_true rfl⟩ rfl hl.1 rfl (Nat.le_of_ble_eq_true rfl) dX11_taken_44 (fun S_12 v_13 H locs h hG => ?_)
        refine x_cVi (As := [.int v_13]) (rest := []) hM hG xml_X11_353 xwi_X0_kindOf xws_X0_kindOf xct_101 (by decide) rfl h (fun S' v e => c_X0_kindOf hM.2.2.2.2.2.2.1 e _) ⟨Nat.le_of_ble_eq_true rfl, Nat.le_of_ble_eq_true rfl⟩ rfl hl.1 rfl (Nat.le_of_ble_eq_true rfl) dX11_taken_47 (fun S_14 v_15 H locs h hG => ?_)
        refine lv_istore_n (lv' := [(3, .int v_15), (0, .ref (a 0)), (1, .int x1), (2, .int x2)]) hx hb dX11_taken_50 rfl hl (by decide) rfl (fun ls hl => ?_)
        refine lv_iload_n hx hb dX11_taken_51 rfl (lv_at hl 0 rfl) ?_
        refine lv_iload_n hx hb dX11_taken_52 rfl (lv_at hl 3 rfl) ?_
        refine x_cSi (As := [.int v_15, .int x2]) (rest := []) hM hG xml_X11_356 xwt_X0_isUnder h (fun S' v e => c_X0_isUnder hM.2.2.2.2.2.2.1 e _) ⟨Nat.le_of_ble_eq_true rfl, Nat.le_of_ble_eq_true rfl⟩ rfl hl.1 rfl (Nat.le_of_ble_eq_true rfl) dX11_taken_53 (fun S_16 v_17 H locs h hG => ?_)
        refine x_if_eq (tgt := 63) hM h dX11_taken_56 (by decide) (fun c_18 h => ?_) (fun c_18 h => ?_)
        · refine lv_bipush (v := (-12 : Int32)) hx hb dX11_taken_63 (by decide) ?_
          exact x_ri hM hG hr hlk rfl (k0 _ (Option.some.inj h).symm) dX11_taken_65
        · refine lv_iload_n hx hb dX11_taken_59 rfl (lv_at hl 0 rfl) ?_
          refine lv_goto (tgt := 65) hx hb dX11_taken_60 (by decide) ?_
          exact x_ri hM hG hr hlk rfl (k0 _ (Option.some.inj h).symm) dX11_taken_65
      · refine lv_bipush (v := (-11 : Int32)) hx hb dX11_taken_31 (by decide) ?_
        exact x_ri hM hG hr hlk rfl (k0 _ (Option.some.inj h).symm) dX11_taken_33
    · refine lv_iconst (v := (-1 : Int32)) hx hb dX11_taken_17 (by decide) ?_
      exact x_ri hM hG hr hlk rfl (k0 _ (Option.some.inj h).symm) dX11_taken_18
set_option maxHeartbeats 4000000 in
set_option maxRecDepth 100000 in
theorem c_X11_taken {l : Launch} {D : va_G} {cy : Nat → ClassId} {a z : Nat → Nat} (hI : xI xtb a) {S : xSt} {x1 : Int32} {x2 : Int32} {S' : xSt} {v' : Int32} (hf : f_X11_taken S x1 x2 = some (S', v')) (sz : Nat) : Met l yX11_taken (Cond.code yX11_taken cX11_taken 4 (some .int) :: xTB) ({ frames := 2, cells := 0, slots := 0, locals := 42 } : Room) (va_Pc [.ref (a 0), .int x1, .int x2] (xPre D cy xtb a z S sz)) (xQi D cy xtb a S' v' sz) 0 0 (xA xtb a sz) := by
  refine Met.ofW (cc := cX11_taken) (maxL := 4) (ret := (some .int)) (by decide) rfl ?_
  intro p e s m args below meth c s₁ B hml hv
  obtain ⟨rfl, hsz, hP, hK, hE⟩ := hv
  subst hsz
  have hl := lv_entry ([.ref (a 0), .int x1, .int x2]) (n := 4) (Nat.le_of_ble_eq_true rfl)
  rw [lg_entry_eq]
  generalize (lg_sl ([.ref (a 0), .int x1, .int x2]) ++ List.replicate (4 - (lg_sl ([.ref (a 0), .int x1, .int x2])).length) Slot.unset).toArray = ls at hl ⊢
  have hl : lv_has ls 4 [(0, .ref (a 0)), (1, .int x1), (2, .int x2)] := hl
  exact w_X11_taken_0 ⟨B.exec, B.bytes, hml, findClass_of_methodNamed B.named, fun w hw => atoms_spec (ws := Cond.code yX11_taken cX11_taken 4 (some .int) :: xTB) B.pre w (List.mem_cons_of_mem _ hw), hK, hI, hE⟩ B.returns B.notSynchronized hf (fun t0 e => e.symm) ⟨hP, va_S.rf⟩ (lv_sub hl [0, 1, 2] rfl)
set_option maxHeartbeats 4000000 in
set_option maxRecDepth 100000 in
theorem w_X11_count_0 {x1 : Int32} (hM : xM p c cX11_count m s args RX11 2 D cy xtb a z) (hr : meth.sig.returnType = (some .int)) (hlk : meth.locks = false) {S' : xSt} {v' : Int32} {S : xSt} {q : (xSt × Int32)} (h : f_X11_count_0 x1 S = some q) (k0 : ∀ t0 : xSt × Int32, q = t0 → t0 = (S', v')) {H : Heap} {locs : List Loc} (hG : xG D cy xtb a S s H locs) {ls : Array Slot} (hl : lv_has ls 2 [(0, .ref (a 0)), (1, .int x1)]) : W p l e ({ frames := 2, cells := 0, slots := 0, locals := 43 } : Room) s m args below meth c H locs 0 0 (MQ below (xQi D cy xtb a S' v' s.heap.size) args s 0 0 (xA xtb a s.heap.size)) (F0 m 0 ls []) := by
  have hx := hM.1
  have hb := hM.2.1
  refine lv_iload_n hx hb dX11_count_0 rfl (lv_at hl 1 rfl) ?_
  by_cases c_1 : x1 = (0 : Int32)
  · have h := (if_pos c_1).symm.trans h
    refine lv_tableIn (off := 39) (tgt := 40) hx hb dX11_count_1 (by rw [c_1]; decide) (by rw [c_1]; decide) (by rw [c_1]; rfl) (by decide) ?_
    refine lv_aload_n hx hb dX11_count_40 rfl (lv_at hl 0 rfl) ?_
    refine x_gr (r := 16) hM hG xfl_X11_28 xct_0 (by decide) rfl dX11_count_41 ?_
    refine x_cVi (As := []) (rest := []) hM hG xml_X11_359 xwi_X4_cells xws_X4_cells xih_hay.1 (by decide) rfl h (fun S' v e => c_X4_cells hM.2.2.2.2.2.2.1 xih_hay e _) ⟨Nat.le_of_ble_eq_true rfl, Nat.le_of_ble_eq_true rfl⟩ rfl hl.1 rfl (Nat.le_of_ble_eq_true rfl) dX11_count_44 (fun S_2 v_3 H locs h hG => ?_)
    exact x_ri hM hG hr hlk rfl (k0 _ (Option.some.inj h).symm) dX11_count_47
  · have h := (if_neg c_1).symm.trans h
    by_cases c_4 : x1 = (1 : Int32)
    · have h := (if_pos c_4).symm.trans h
      refine lv_tableIn (off := 47) (tgt := 48) hx hb dX11_count_1 (by rw [c_4]; decide) (by rw [c_4]; decide) (by rw [c_4]; rfl) (by decide) ?_
      refine lv_aload_n hx hb dX11_count_48 rfl (lv_at hl 0 rfl) ?_
      refine x_gr (r := 16) hM hG xfl_X11_28 xct_0 (by decide) rfl dX11_count_49 ?_
      refine x_cVi (As := []) (rest := []) hM hG xml_X11_183 xwi_X4_glowing xws_X4_glowing xih_hay.1 (by decide) rfl h (fun S' v e => c_X4_glowing hM.2.2.2.2.2.2.1 xih_hay e _) ⟨Nat.le_of_ble_eq_true rfl, Nat.le_of_ble_eq_true rfl⟩ rfl hl.1 rfl (Nat.le_of_ble_eq_true rfl) dX11_count_52 (fun S_5 v_6 H locs h hG => ?_)
      exact x_ri hM hG hr hlk rfl (k0 _ (Option.some.inj h).symm) dX11_count_55
    · have h := (if_neg c_4).symm.trans h
      by_cases c_7 : x1 = (2 : Int32)
      · have h := (if_pos c_7).symm.trans h
        refine lv_tableIn (off := 55) (tgt := 56) hx hb dX11_count_1 (by rw [c_7]; decide) (by rw [c_7]; decide) (by rw [c_7]; rfl) (by decide) ?_
        refine lv_aload_n hx hb dX11_count_56 rfl (lv_at hl 0 rfl) ?_
        refine x_gr (r := 2) hM hG xfl_X11_10 xct_0 (by decide) rfl dX11_count_57 ?_
        refine x_gi hM hG xfl_X11_362 xct_2 (by decide) rfl h dX11_count_60 (fun v_8 h => ?_)
        exact x_ri hM hG hr hlk rfl (k0 _ (Option.some.inj h).symm) dX11_count_63
      · have h := (if_neg c_7).symm.trans h
        by_cases c_9 : x1 = (3 : Int32)
        · have h := (if_pos c_9).symm.trans h
          refine lv_tableIn (off := 63) (tgt := 64) hx hb dX11_count_1 (by rw [c_9]; decide) (by rw [c_9]; decide) (by rw [c_9]; rfl) (by decide) ?_
          refine lv_aload_n hx hb dX11_count_64 rfl (lv_at hl 0 rfl) ?_
          refine x_gr (r := 96) hM hG xfl_X11_79 xct_0 (by decide) rfl dX11_count_65 ?_
          refine x_gi hM hG xfl_X11_365 xct_96 (by decide) rfl h dX11_count_68 (fun v_10 h => ?_)
          exact x_ri hM hG hr hlk rfl (k0 _ (Option.some.inj h).symm) dX11_count_71
        · have h := (if_neg c_9).symm.trans h
          by_cases c_11 : x1 = (4 : Int32)
          · have h := (if_pos c_11).symm.trans h
            refine lv_tableIn (off := 71) (tgt := 72) hx hb dX11_count_1 (by rw [c_11]; decide) (by rw [c_11]; decide) (by rw [c_11]; rfl) (by decide) ?_
            refine lv_aload_n hx hb dX11_count_72 rfl (lv_at hl 0 rfl) ?_
            refine x_gr (r := 101) hM hG xfl_X11_86 xct_0 (by decide) rfl dX11_count_73 ?_
            refine x_gi hM hG xfl_X11_308 xct_101 (by decide) rfl h dX11_count_76 (fun v_12 h => ?_)
            exact x_ri hM hG hr hlk rfl (k0 _ (Option.some.inj h).symm) dX11_count_79
          · have h := (if_neg c_11).symm.trans h
            by_cases c_13 : x1 = (5 : Int32)
            · have h := (if_pos c_13).symm.trans h
              refine lv_tableIn (off := 79) (tgt := 80) hx hb dX11_count_1 (by rw [c_13]; decide) (by rw [c_13]; decide) (by rw [c_13]; rfl) (by decide) ?_
              refine lv_aload_n hx hb dX11_count_80 rfl (lv_at hl 0 rfl) ?_
              refine x_gr (r := 101) hM hG xfl_X11_86 xct_0 (by decide) rfl dX11_count_81 ?_
              refine x_gi hM hG xfl_X11_299 xct_101 (by decide) rfl h dX11_count_84 (fun v_14 h => ?_)
              exact x_ri hM hG hr hlk rfl (k0 _ (Option.some.inj h).symm) dX11_count_87
            · have h := (if_neg c_13).symm.trans h
              refine lv_tableOut (tgt := 88) hx hb dX11_count_1 (x_tout [(0 : Int32), (1 : Int32), (2 : Int32), (3 : Int32), (4 : Int32), (5 : Int32)] 0 (by decide) (by decide) (List.forall_mem_cons.mpr ⟨c_1, (List.forall_mem_cons.mpr ⟨c_4, (List.forall_mem_cons.mpr ⟨c_7, (List.forall_mem_cons.mpr ⟨c_9, (List.forall_mem_cons.mpr ⟨c_11, (List.forall_mem_cons.mpr ⟨c_13, (fun _ h => absurd h List.not_mem_nil)⟩)⟩)⟩)⟩)⟩)⟩)) (by decide) ?_
              refine lv_iconst (v := (-1 : Int32)) hx hb dX11_count_88 (by decide) ?_
              exact x_ri hM hG hr hlk rfl (k0 _ (Option.some.inj h).symm) dX11_count_89
set_option maxHeartbeats 4000000 in
set_option maxRecDepth 100000 in
theorem c_X11_count {l : Launch} {D : va_G} {cy : Nat → ClassId} {a z : Nat → Nat} (hI : xI xtb a) {S : xSt} {x1 : Int32} {S' : xSt} {v' : Int32} (hf : f_X11_count S x1 = some (S', v')) (sz : Nat) : Met l yX11_count (Cond.code yX11_count cX11_count 2 (some .int) :: xTB) ({ frames := 2, cells := 0, slots := 0, locals := 43 } : Room) (va_Pc [.ref (a 0), .int x1] (xPre D cy xtb a z S sz)) (xQi D cy xtb a S' v' sz) 0 0 (xA xtb a sz) := by
  refine Met.ofW (cc := cX11_count) (maxL := 2) (ret := (some .int)) (by decide) rfl ?_
  intro p e s m args below meth c s₁ B hml hv
  obtain ⟨rfl, hsz, hP, hK, hE⟩ := hv
  subst hsz
  have hl := lv_entry ([.ref (a 0), .int x1]) (n := 2) (Nat.le_of_ble_eq_true rfl)
  rw [lg_entry_eq]
  generalize (lg_sl ([.ref (a 0), .int x1]) ++ List.replicate (2 - (lg_sl ([.ref (a 0), .int x1])).length) Slot.unset).toArray = ls at hl ⊢
  have hl : lv_has ls 2 [(0, .ref (a 0)), (1, .int x1)] := hl
  exact w_X11_count_0 ⟨B.exec, B.bytes, hml, findClass_of_methodNamed B.named, fun w hw => atoms_spec (ws := Cond.code yX11_count cX11_count 2 (some .int) :: xTB) B.pre w (List.mem_cons_of_mem _ hw), hK, hI, hE⟩ B.returns B.notSynchronized hf (fun t0 e => e.symm) ⟨hP, va_S.rf⟩ (lv_sub hl [0, 1] rfl)
end XWwalkX4
