section XWwalkX3
variable {p : Program} {l : Launch} {e : Env} {s : State} {m : MethodId} {args : Array Value} {below : List Frame} {meth : Method} {c : Code} {D : va_G} {cy : Nat → ClassId} {a z : Nat → Nat}
set_option maxHeartbeats 4000000 in
set_option maxRecDepth 100000 in
theorem w_X11_turn_0 {x1 : Int32} {x2 : Int32} {x3 : Int32} (hM : xM p c cX11_turn m s args RX11 4 D cy xtb a z) (hr : meth.sig.returnType = (some .int)) (hlk : meth.locks = false) {S' : xSt} {v' : Int32} {S : xSt} {q : (xSt × Int32)} (h : f_X11_turn_0 x1 x2 x3 S = some q) (k0 : ∀ t0 : xSt × Int32, q = t0 → t0 = (S', v')) {H : Heap} {locs : List Loc} (hG : xG D cy xtb a S s H locs) {ls : Array Slot} (hl : lv_has ls 4 [(0, .ref (a 0)), (1, .int x1), (2, .int x2), (3, .int x3)]) : W p l e ({ frames := 6, cells := 0, slots := 0, locals := 148 } : Room) s m args below meth c H locs 0 0 (MQ below (xQi D cy xtb a S' v' s.heap.size) args s 0 0 (xA xtb a s.heap.size)) (F0 m 0 ls []) := by
  have hx := hM.1
  have hb := hM.2.1
  refine lv_iload_n hx hb dX11_turn_0 rfl (lv_at hl 1 rfl) ?_
  refine lv_iconst (v := (0 : Int32)) hx hb dX11_turn_1 (by decide) ?_
  refine lv_iconst (v := (3 : Int32)) hx hb dX11_turn_2 (by decide) ?_
  refine x_cSi (As := [.int x1, .int (0 : Int32), .int (3 : Int32)]) (rest := []) hM hG xml_X11_97 xwt_X11_within h (fun S' v e => c_X11_within hM.2.2.2.2.2.2.1 e _) ⟨Nat.le_of_ble_eq_true rfl, Nat.le_of_ble_eq_true rfl⟩ rfl hl.1 rfl (Nat.le_of_ble_eq_true rfl) dX11_turn_3 (fun S_1 v_2 H locs h hG => ?_)
  refine x_if_eq (tgt := 28) hM h dX11_turn_6 (by decide) (fun c_3 h => ?_) (fun c_3 h => ?_)
  · refine lv_iconst (v := (-1 : Int32)) hx hb dX11_turn_28 (by decide) ?_
    exact x_ri hM hG hr hlk rfl (k0 _ (Option.some.inj h).symm) dX11_turn_29
  · refine lv_iload_n hx hb dX11_turn_9 rfl (lv_at hl 2 rfl) ?_
    refine lv_iconst (v := (0 : Int32)) hx hb dX11_turn_10 (by decide) ?_
    refine lv_bipush (v := (20 : Int32)) hx hb dX11_turn_11 (by decide) ?_
    refine x_cSi (As := [.int x2, .int (0 : Int32), .int (20 : Int32)]) (rest := []) hM hG xml_X11_97 xwt_X11_within h (fun S' v e => c_X11_within hM.2.2.2.2.2.2.1 e _) ⟨Nat.le_of_ble_eq_true rfl, Nat.le_of_ble_eq_true rfl⟩ rfl hl.1 rfl (Nat.le_of_ble_eq_true rfl) dX11_turn_13 (fun S_4 v_5 H locs h hG => ?_)
    refine x_if_eq (tgt := 28) hM h dX11_turn_16 (by decide) (fun c_6 h => ?_) (fun c_6 h => ?_)
    · refine lv_iconst (v := (-1 : Int32)) hx hb dX11_turn_28 (by decide) ?_
      exact x_ri hM hG hr hlk rfl (k0 _ (Option.some.inj h).symm) dX11_turn_29
    · refine lv_iload_n hx hb dX11_turn_19 rfl (lv_at hl 3 rfl) ?_
      refine lv_iconst (v := (0 : Int32)) hx hb dX11_turn_20 (by decide) ?_
      refine lv_iconst (v := (1 : Int32)) hx hb dX11_turn_21 (by decide) ?_
      refine x_cSi (As := [.int x3, .int (0 : Int32), .int (1 : Int32)]) (rest := []) hM hG xml_X11_97 xwt_X11_within h (fun S' v e => c_X11_within hM.2.2.2.2.2.2.1 e _) ⟨Nat.le_of_ble_eq_true rfl, Nat.le_of_ble_eq_true rfl⟩ rfl hl.1 rfl (Nat.le_of_ble_eq_true rfl) dX11_turn_22 (fun S_7 v_8 H locs h hG => ?_)
      refine x_if_ne (tgt := 30) hM h dX11_turn_25 (by decide) (fun c_9 h => ?_) (fun c_9 h => ?_)
      · refine lv_aload_n hx hb dX11_turn_30 rfl (lv_at hl 0 rfl) ?_
        refine x_gr (r := 86) hM hG xfl_X11_40 xct_0 (by decide) rfl dX11_turn_31 ?_
        refine lv_iload_n hx hb dX11_turn_34 rfl (lv_at hl 1 rfl) ?_
        refine lv_iload_n hx hb dX11_turn_35 rfl (lv_at hl 2 rfl) ?_
        refine x_cVv (As := [.int x1, .int x2]) (rest := []) hM hG xml_X11_205 xwi_X10_seekTurn xws_X10_seekTurn xct_86 (by decide) rfl h (fun S' v e => c_X10_seekTurn hM.2.2.2.2.2.2.1 e _) ⟨Nat.le_of_ble_eq_true rfl, Nat.le_of_ble_eq_true rfl⟩ rfl hl.1 rfl (Nat.le_of_ble_eq_true rfl) dX11_turn_36 (fun S_10 v_11 H locs h hG => ?_)
        refine lv_iload_n hx hb dX11_turn_39 rfl (lv_at hl 3 rfl) ?_
        refine x_if_ne (tgt := 53) hM h dX11_turn_40 (by decide) (fun c_12 h => ?_) (fun c_12 h => ?_)
        · refine lv_aload_n hx hb dX11_turn_53 rfl (lv_at hl 0 rfl) ?_
          refine x_gr (r := 86) hM hG xfl_X11_40 xct_0 (by decide) rfl dX11_turn_54 ?_
          refine x_gi hM hG xfl_X11_212 xct_86 (by decide) rfl h dX11_turn_57 (fun v_13 h => ?_)
          exact x_ri hM hG hr hlk rfl (k0 _ (Option.some.inj h).symm) dX11_turn_60
        · refine lv_aload_n hx hb dX11_turn_43 rfl (lv_at hl 0 rfl) ?_
          refine x_gr (r := 86) hM hG xfl_X11_40 xct_0 (by decide) rfl dX11_turn_44 ?_
          refine x_gi hM hG xfl_X11_209 xct_86 (by decide) rfl h dX11_turn_47 (fun v_14 h => ?_)
          refine lv_goto (tgt := 60) hx hb dX11_turn_50 (by decide) ?_
          exact x_ri hM hG hr hlk rfl (k0 _ (Option.some.inj h).symm) dX11_turn_60
      · refine lv_iconst (v := (-1 : Int32)) hx hb dX11_turn_28 (by decide) ?_
        exact x_ri hM hG hr hlk rfl (k0 _ (Option.some.inj h).symm) dX11_turn_29
set_option maxHeartbeats 4000000 in
set_option maxRecDepth 100000 in
theorem c_X11_turn {l : Launch} {D : va_G} {cy : Nat → ClassId} {a z : Nat → Nat} (hI : xI xtb a) {S : xSt} {x1 : Int32} {x2 : Int32} {x3 : Int32} {S' : xSt} {v' : Int32} (hf : f_X11_turn S x1 x2 x3 = some (S', v')) (sz : Nat) : Met l yX11_turn (Cond.code yX11_turn cX11_turn 4 (some .int) :: xTB) ({ frames := 6, cells := 0, slots := 0, locals := 148 } : Room) (va_Pc [.ref (a 0), .int x1, .int x2, .int x3] (xPre D cy xtb a z S sz)) (xQi D cy xtb a S' v' sz) 0 0 (xA xtb a sz) := by
  refine Met.ofW (cc := cX11_turn) (maxL := 4) (ret := (some .int)) (by decide) rfl ?_
  intro p e s m args below meth c s₁ B hml hv
  obtain ⟨rfl, hsz, hP, hK, hE⟩ := hv
  subst hsz
  have hl := lv_entry ([.ref (a 0), .int x1, .int x2, .int x3]) (n := 4) (Nat.le_of_ble_eq_true rfl)
  rw [lg_entry_eq]
  generalize (lg_sl ([.ref (a 0), .int x1, .int x2, .int x3]) ++ List.replicate (4 - (lg_sl ([.ref (a 0), .int x1, .int x2, .int x3])).length) Slot.unset).toArray = ls at hl ⊢
  have hl : lv_has ls 4 [(0, .ref (a 0)), (1, .int x1), (2, .int x2), (3, .int x3)] := hl
  exact w_X11_turn_0 ⟨B.exec, B.bytes, hml, findClass_of_methodNamed B.named, fun w hw => atoms_spec (ws := Cond.code yX11_turn cX11_turn 4 (some .int) :: xTB) B.pre w (List.mem_cons_of_mem _ hw), hK, hI, hE⟩ B.returns B.notSynchronized hf (fun t0 e => e.symm) ⟨hP, va_S.rf⟩ (lv_sub hl [0, 1, 2, 3] rfl)
set_option maxHeartbeats 4000000 in
set_option maxRecDepth 100000 in
theorem w_X11_chimney_0 {x1 : Int32} {x2 : Int32} (hM : xM p c cX11_chimney m s args RX11 3 D cy xtb a z) (hr : meth.sig.returnType = (some .int)) (hlk : meth.locks = false) {S' : xSt} {v' : Int32} {S : xSt} {q : (xSt × Int32)} (h : f_X11_chimney_0 x1 x2 S = some q) (k0 : ∀ t0 : xSt × Int32, q = t0 → t0 = (S', v')) {H : Heap} {locs : List Loc} (hG : xG D cy xtb a S s H locs) {ls : Array Slot} (hl : lv_has ls 3 [(0, .ref (a 0)), (1, .int x1), (2, .int x2)]) : W p l e ({ frames := 6, cells := 0, slots := 0, locals := 146 } : Room) s m args below meth c H locs 0 0 (MQ below (xQi D cy xtb a S' v' s.heap.size) args s 0 0 (xA xtb a s.heap.size)) (F0 m 0 ls []) := by
  have hx := hM.1
  have hb := hM.2.1
  refine lv_iload_n hx hb dX11_chimney_0 rfl (lv_at hl 1 rfl) ?_
  refine lv_iconst (v := (0 : Int32)) hx hb dX11_chimney_1 (by decide) ?_
  refine lv_bipush (v := (20 : Int32)) hx hb dX11_chimney_2 (by decide) ?_
  refine x_cSi (As := [.int x1, .int (0 : Int32), .int (20 : Int32)]) (rest := []) hM hG xml_X11_97 xwt_X11_within h (fun S' v e => c_X11_within hM.2.2.2.2.2.2.1 e _) ⟨Nat.le_of_ble_eq_true rfl, Nat.le_of_ble_eq_true rfl⟩ rfl hl.1 rfl (Nat.le_of_ble_eq_true rfl) dX11_chimney_4 (fun S_1 v_2 H locs h hG => ?_)
  refine x_if_eq (tgt := 19) hM h dX11_chimney_7 (by decide) (fun c_3 h => ?_) (fun c_3 h => ?_)
  · refine lv_iconst (v := (-1 : Int32)) hx hb dX11_chimney_19 (by decide) ?_
    exact x_ri hM hG hr hlk rfl (k0 _ (Option.some.inj h).symm) dX11_chimney_20
  · refine lv_iload_n hx hb dX11_chimney_10 rfl (lv_at hl 2 rfl) ?_
    refine lv_iconst (v := (0 : Int32)) hx hb dX11_chimney_11 (by decide) ?_
    refine lv_iconst (v := (1 : Int32)) hx hb dX11_chimney_12 (by decide) ?_
    refine x_cSi (As := [.int x2, .int (0 : Int32), .int (1 : Int32)]) (rest := []) hM hG xml_X11_97 xwt_X11_within h (fun S' v e => c_X11_within hM.2.2.2.2.2.2.1 e _) ⟨Nat.le_of_ble_eq_true rfl, Nat.le_of_ble_eq_true rfl⟩ rfl hl.1 rfl (Nat.le_of_ble_eq_true rfl) dX11_chimney_13 (fun S_4 v_5 H locs h hG => ?_)
    refine x_if_ne (tgt := 21) hM h dX11_chimney_16 (by decide) (fun c_6 h => ?_) (fun c_6 h => ?_)
    · refine lv_aload_n hx hb dX11_chimney_21 rfl (lv_at hl 0 rfl) ?_
      refine x_gr (r := 86) hM hG xfl_X11_40 xct_0 (by decide) rfl dX11_chimney_22 ?_
      refine lv_iload_n hx hb dX11_chimney_25 rfl (lv_at hl 1 rfl) ?_
      refine x_cVv (As := [.int x1]) (rest := []) hM hG xml_X11_215 xwi_X10_seekChimney xws_X10_seekChimney xct_86 (by decide) rfl h (fun S' v e => c_X10_seekChimney hM.2.2.2.2.2.2.1 e _) ⟨Nat.le_of_ble_eq_true rfl, Nat.le_of_ble_eq_true rfl⟩ rfl hl.1 rfl (Nat.le_of_ble_eq_true rfl) dX11_chimney_26 (fun S_7 v_8 H locs h hG => ?_)
      refine lv_iload_n hx hb dX11_chimney_29 rfl (lv_at hl 2 rfl) ?_
      refine x_if_ne (tgt := 43) hM h dX11_chimney_30 (by decide) (fun c_9 h => ?_) (fun c_9 h => ?_)
      · refine lv_aload_n hx hb dX11_chimney_43 rfl (lv_at hl 0 rfl) ?_
        refine x_gr (r := 86) hM hG xfl_X11_40 xct_0 (by decide) rfl dX11_chimney_44 ?_
        refine x_gi hM hG xfl_X11_209 xct_86 (by decide) rfl h dX11_chimney_47 (fun v_10 h => ?_)
        exact x_ri hM hG hr hlk rfl (k0 _ (Option.some.inj h).symm) dX11_chimney_50
      · refine lv_aload_n hx hb dX11_chimney_33 rfl (lv_at hl 0 rfl) ?_
        refine x_gr (r := 86) hM hG xfl_X11_40 xct_0 (by decide) rfl dX11_chimney_34 ?_
        refine x_gi hM hG xfl_X11_212 xct_86 (by decide) rfl h dX11_chimney_37 (fun v_11 h => ?_)
        refine lv_goto (tgt := 50) hx hb dX11_chimney_40 (by decide) ?_
        exact x_ri hM hG hr hlk rfl (k0 _ (Option.some.inj h).symm) dX11_chimney_50
    · refine lv_iconst (v := (-1 : Int32)) hx hb dX11_chimney_19 (by decide) ?_
      exact x_ri hM hG hr hlk rfl (k0 _ (Option.some.inj h).symm) dX11_chimney_20
set_option maxHeartbeats 4000000 in
set_option maxRecDepth 100000 in
theorem c_X11_chimney {l : Launch} {D : va_G} {cy : Nat → ClassId} {a z : Nat → Nat} (hI : xI xtb a) {S : xSt} {x1 : Int32} {x2 : Int32} {S' : xSt} {v' : Int32} (hf : f_X11_chimney S x1 x2 = some (S', v')) (sz : Nat) : Met l yX11_chimney (Cond.code yX11_chimney cX11_chimney 3 (some .int) :: xTB) ({ frames := 6, cells := 0, slots := 0, locals := 146 } : Room) (va_Pc [.ref (a 0), .int x1, .int x2] (xPre D cy xtb a z S sz)) (xQi D cy xtb a S' v' sz) 0 0 (xA xtb a sz) := by
  refine Met.ofW (cc := cX11_chimney) (maxL := 3) (ret := (some .int)) (by decide) rfl ?_
  intro p e s m args below meth c s₁ B hml hv
  obtain ⟨rfl, hsz, hP, hK, hE⟩ := hv
  subst hsz
  have hl := lv_entry ([.ref (a 0), .int x1, .int x2]) (n := 3) (Nat.le_of_ble_eq_true rfl)
  rw [lg_entry_eq]
  generalize (lg_sl ([.ref (a 0), .int x1, .int x2]) ++ List.replicate (3 - (lg_sl ([.ref (a 0), .int x1, .int x2])).length) Slot.unset).toArray = ls at hl ⊢
  have hl : lv_has ls 3 [(0, .ref (a 0)), (1, .int x1), (2, .int x2)] := hl
  exact w_X11_chimney_0 ⟨B.exec, B.bytes, hml, findClass_of_methodNamed B.named, fun w hw => atoms_spec (ws := Cond.code yX11_chimney cX11_chimney 3 (some .int) :: xTB) B.pre w (List.mem_cons_of_mem _ hw), hK, hI, hE⟩ B.returns B.notSynchronized hf (fun t0 e => e.symm) ⟨hP, va_S.rf⟩ (lv_sub hl [0, 1, 2] rfl)
set_option maxHeartbeats 4000000 in
set_option maxRecDepth 100000 in
theorem w_X11_latest_0 (hM : xM p c cX11_latest m s args RX11 1 D cy xtb a z) (hr : meth.sig.returnType = (some .int)) (hlk : meth.locks = false) {S' : xSt} {v' : Int32} {S : xSt} {q : (xSt × Int32)} (h : f_X11_latest_0 S = some q) (k0 : ∀ t0 : xSt × Int32, q = t0 → t0 = (S', v')) {H : Heap} {locs : List Loc} (hG : xG D cy xtb a S s H locs) {ls : Array Slot} (hl : lv_has ls 1 [(0, .ref (a 0))]) : W p l e ({ frames := 7, cells := 0, slots := 0, locals := 168 } : Room) s m args below meth c H locs 0 0 (MQ below (xQi D cy xtb a S' v' s.heap.size) args s 0 0 (xA xtb a s.heap.size)) (F0 m 0 ls []) := by
  have hx := hM.1
  have hb := hM.2.1
  refine lv_aload_n hx hb dX11_latest_0 rfl (lv_at hl 0 rfl) ?_
  refine x_gr (r := 86) hM hG xfl_X11_40 xct_0 (by decide) rfl dX11_latest_1 ?_
  refine x_cVi (As := []) (rest := []) hM hG xml_X11_219 xwi_X10_latestTurn xws_X10_latestTurn xct_86 (by decide) rfl h (fun S' v e => c_X10_latestTurn hM.2.2.2.2.2.2.1 e _) ⟨Nat.le_of_ble_eq_true rfl, Nat.le_of_ble_eq_true rfl⟩ rfl hl.1 rfl (Nat.le_of_ble_eq_true rfl) dX11_latest_4 (fun S_1 v_2 H locs h hG => ?_)
  exact x_ri hM hG hr hlk rfl (k0 _ (Option.some.inj h).symm) dX11_latest_7
set_option maxHeartbeats 4000000 in
set_option maxRecDepth 100000 in
theorem c_X11_latest {l : Launch} {D : va_G} {cy : Nat → ClassId} {a z : Nat → Nat} (hI : xI xtb a) {S : xSt} {S' : xSt} {v' : Int32} (hf : f_X11_latest S = some (S', v')) (sz : Nat) : Met l yX11_latest (Cond.code yX11_latest cX11_latest 1 (some .int) :: xTB) ({ frames := 7, cells := 0, slots := 0, locals := 168 } : Room) (va_Pc [.ref (a 0)] (xPre D cy xtb a z S sz)) (xQi D cy xtb a S' v' sz) 0 0 (xA xtb a sz) := by
  refine Met.ofW (cc := cX11_latest) (maxL := 1) (ret := (some .int)) (by decide) rfl ?_
  intro p e s m args below meth c s₁ B hml hv
  obtain ⟨rfl, hsz, hP, hK, hE⟩ := hv
  subst hsz
  have hl := lv_entry ([.ref (a 0)]) (n := 1) (Nat.le_of_ble_eq_true rfl)
  rw [lg_entry_eq]
  generalize (lg_sl ([.ref (a 0)]) ++ List.replicate (1 - (lg_sl ([.ref (a 0)])).length) Slot.unset).toArray = ls at hl ⊢
  have hl : lv_has ls 1 [(0, .ref (a 0))] := hl
  exact w_X11_latest_0 ⟨B.exec, B.bytes, hml, findClass_of_methodNamed B.named, fun w hw => atoms_spec (ws := Cond.code yX11_latest cX11_latest 1 (some .int) :: xTB) B.pre w (List.mem_cons_of_mem _ hw), hK, hI, hE⟩ B.returns B.notSynchronized hf (fun t0 e => e.symm) ⟨hP, va_S.rf⟩ (lv_sub hl [0] rfl)
set_option maxHeartbeats 4000000 in
set_option maxRecDepth 100000 in
theorem w_X11_isShelf_0 {x0 : Int32} (hM : xM p c cX11_isShelf m s args RX11 1 D cy xtb a z) (hr : meth.sig.returnType = (some .boolean)) (hlk : meth.locks = false) {S' : xSt} {v' : Int32} {S : xSt} {q : (xSt × Int32)} (h : f_X11_isShelf_0 x0 S = some q) (k0 : ∀ t0 : xSt × Int32, q = t0 → t0 = (S', v')) {H : Heap} {locs : List Loc} (hG : xG D cy xtb a S s H locs) {ls : Array Slot} (hl : lv_has ls 1 [(0, .int x0)]) : W p l e ({ frames := 1, cells := 0, slots := 0, locals := 22 } : Room) s m args below meth c H locs 0 0 (MQ below (xQi D cy xtb a S' v' s.heap.size) args s 0 0 (xA xtb a s.heap.size)) (F0 m 0 ls []) := by
  have hx := hM.1
  have hb := hM.2.1
  refine lv_iload_n hx hb dX11_isShelf_0 rfl (lv_at hl 0 rfl) ?_
  refine lv_iconst (v := (0 : Int32)) hx hb dX11_isShelf_1 (by decide) ?_
  refine lv_iconst (v := (5 : Int32)) hx hb dX11_isShelf_2 (by decide) ?_
  refine x_cSi (As := [.int x0, .int (0 : Int32), .int (5 : Int32)]) (rest := []) hM hG xml_X11_97 xwt_X11_within h (fun S' v e => c_X11_within hM.2.2.2.2.2.2.1 e _) ⟨Nat.le_of_ble_eq_true rfl, Nat.le_of_ble_eq_true rfl⟩ rfl hl.1 rfl (Nat.le_of_ble_eq_true rfl) dX11_isShelf_3 (fun S_1 v_2 H locs h hG => ?_)
  obtain ⟨hz, h⟩ := xgd_at h
  exact x_ri hM hG hr hlk (x_nz hz) (k0 _ (Option.some.inj h).symm) dX11_isShelf_6
set_option maxHeartbeats 4000000 in
set_option maxRecDepth 100000 in
theorem c_X11_isShelf {l : Launch} {D : va_G} {cy : Nat → ClassId} {a z : Nat → Nat} (hI : xI xtb a) {S : xSt} {x0 : Int32} {S' : xSt} {v' : Int32} (hf : f_X11_isShelf S x0 = some (S', v')) (sz : Nat) : Met l yX11_isShelf (Cond.code yX11_isShelf cX11_isShelf 1 (some .boolean) :: xTB) ({ frames := 1, cells := 0, slots := 0, locals := 22 } : Room) (va_Pc [.int x0] (xPre D cy xtb a z S sz)) (xQi D cy xtb a S' v' sz) 0 0 (xA xtb a sz) := by
  refine Met.ofW (cc := cX11_isShelf) (maxL := 1) (ret := (some .boolean)) (by decide) rfl ?_
  intro p e s m args below meth c s₁ B hml hv
  obtain ⟨rfl, hsz, hP, hK, hE⟩ := hv
  subst hsz
  have hl := lv_entry ([.int x0]) (n := 1) (Nat.le_of_ble_eq_true rfl)
  rw [lg_entry_eq]
  generalize (lg_sl ([.int x0]) ++ List.replicate (1 - (lg_sl ([.int x0])).length) Slot.unset).toArray = ls at hl ⊢
  have hl : lv_has ls 1 [(0, .int x0)] := hl
  exact w_X11_isShelf_0 ⟨B.exec, B.bytes, hml, findClass_of_methodNamed B.named, fun w hw => atoms_spec (ws := Cond.code yX11_isShelf cX11_isShelf 1 (some .boolean) :: xTB) B.pre w (List.mem_cons_of_mem _ hw), hK, hI, hE⟩ B.returns B.notSynchronized hf (fun t0 e => e.symm) ⟨hP, va_S.rf⟩ (lv_sub hl [0] rfl)
set_option maxHeartbeats 4000000 in
set_option maxRecDepth 100000 in
theorem w_X11_lay_0 {x1 : Int32} {x2 : Int32} {x3 : Int32} (hM : xM p c cX11_lay m s args RX11 5 D cy xtb a z) (hr : meth.sig.returnType = (some .int)) (hlk : meth.locks = false) {S' : xSt} {v' : Int32} {S : xSt} {q : (xSt × Int32)} (h : f_X11_lay_0 x1 x2 x3 S = some q) (k0 : ∀ t0 : xSt × Int32, q = t0 → t0 = (S', v')) {H : Heap} {locs : List Loc} (hG : xG D cy xtb a S s H locs) {ls : Array Slot} (hl : lv_has ls 5 [(0, .ref (a 0)), (1, .int x1), (2, .int x2), (3, .int x3)]) : W p l e ({ frames := 7, cells := 0, slots := 0, locals := 170 } : Room) s m args below meth c H locs 0 0 (MQ below (xQi D cy xtb a S' v' s.heap.size) args s 0 0 (xA xtb a s.heap.size)) (F0 m 0 ls []) := by
  have hx := hM.1
  have hb := hM.2.1
  refine lv_iload_n hx hb dX11_lay_0 rfl (lv_at hl 1 rfl) ?_
  refine x_cSi (As := [.int x1]) (rest := []) hM hG xml_X11_105 xwt_X11_isShelf h (fun S' v e => c_X11_isShelf hM.2.2.2.2.2.2.1 e _) ⟨Nat.le_of_ble_eq_true rfl, Nat.le_of_ble_eq_true rfl⟩ rfl hl.1 rfl (Nat.le_of_ble_eq_true rfl) dX11_lay_1 (fun S_1 v_2 H locs h hG => ?_)
  refine x_if_eq (tgt := 22) hM h dX11_lay_4 (by decide) (fun c_3 h => ?_) (fun c_3 h => ?_)
  · refine lv_iconst (v := (-1 : Int32)) hx hb dX11_lay_22 (by decide) ?_
    exact x_ri hM hG hr hlk rfl (k0 _ (Option.some.inj h).symm) dX11_lay_23
  · refine lv_iload_n hx hb dX11_lay_7 rfl (lv_at hl 2 rfl) ?_
    refine lv_iconst (v := (0 : Int32)) hx hb dX11_lay_8 (by decide) ?_
    refine lv_bipush (v := (8 : Int32)) hx hb dX11_lay_9 (by decide) ?_
    refine x_cSi (As := [.int x2, .int (0 : Int32), .int (8 : Int32)]) (rest := []) hM hG xml_X11_97 xwt_X11_within h (fun S' v e => c_X11_within hM.2.2.2.2.2.2.1 e _) ⟨Nat.le_of_ble_eq_true rfl, Nat.le_of_ble_eq_true rfl⟩ rfl hl.1 rfl (Nat.le_of_ble_eq_true rfl) dX11_lay_11 (fun S_4 v_5 H locs h hG => ?_)
    refine x_if_eq (tgt := 22) hM h dX11_lay_14 (by decide) (fun c_6 h => ?_) (fun c_6 h => ?_)
    · refine lv_iconst (v := (-1 : Int32)) hx hb dX11_lay_22 (by decide) ?_
      exact x_ri hM hG hr hlk rfl (k0 _ (Option.some.inj h).symm) dX11_lay_23
    · refine lv_iload_n hx hb dX11_lay_17 rfl (lv_at hl 3 rfl) ?_
      refine lv_iconst (v := (-1 : Int32)) hx hb dX11_lay_18 (by decide) ?_
      refine x_icmp_ge (tgt := 24) hM h dX11_lay_19 (by decide) (fun c_7 h => ?_) (fun c_7 h => ?_)
      · refine lv_aload_n hx hb dX11_lay_24 rfl (lv_at hl 0 rfl) ?_
        refine x_gr (r := 1) hM hG xfl_X11_92 xct_0 (by decide) rfl dX11_lay_25 ?_
        refine lv_iload_n hx hb dX11_lay_28 rfl (lv_at hl 1 rfl) ?_
        refine x_aald5 hM hG xct_1 h dX11_lay_29 (fun hi_8 h => ?_)
        refine x_cVi (As := []) (rest := []) hM hG xml_X11_109 xwi_X8_refusalOfBytes xws_X8_refusalOfBytes (xih_shelf hi_8).1 (by decide) rfl h (fun S' v e => c_X8_refusalOfBytes hM.2.2.2.2.2.2.1 (xih_shelf hi_8) e _) ⟨Nat.le_of_ble_eq_true rfl, Nat.le_of_ble_eq_true rfl⟩ rfl hl.1 rfl (Nat.le_of_ble_eq_true rfl) dX11_lay_30 (fun S_9 v_10 H locs h hG => ?_)
        refine lv_istore (lv' := [(4, .int v_10), (0, .ref (a 0)), (1, .int x1), (2, .int x2), (3, .int x3)]) hx hb dX11_lay_33 hl (by decide) rfl (fun ls hl => ?_)
        refine lv_iload hx hb dX11_lay_35 (lv_at hl 0 rfl) ?_
        refine x_if_eq (tgt := 43) hM h dX11_lay_37 (by decide) (fun c_11 h => ?_) (fun c_11 h => ?_)
        · refine lv_aload_n hx hb dX11_lay_43 rfl (lv_at hl 1 rfl) ?_
          refine x_gr (r := 89) hM hG xfl_X11_56 xct_0 (by decide) rfl dX11_lay_44 ?_
          refine lv_aload_n hx hb dX11_lay_47 rfl (lv_at hl 1 rfl) ?_
          refine x_gr (r := 1) hM hG xfl_X11_92 xct_0 (by decide) rfl dX11_lay_48 ?_
          refine lv_iload_n hx hb dX11_lay_51 rfl (lv_at hl 2 rfl) ?_
          refine x_aald5 hM hG xct_1 h dX11_lay_52 (fun hi_12 h => ?_)
          refine lv_iload_n hx hb dX11_lay_53 rfl (lv_at hl 3 rfl) ?_
          refine x_cVv (As := [.ref (a (104 + 2 * x1.toNatClampNeg)), .int x2]) (rest := []) hM hG xml_X11_222 xwi_X6_seek xws_X6_seek xct_89 (by decide) rfl h (fun S' v e => c_X6_seek hM.2.2.2.2.2.2.1 (xih_shelf hi_12) e _) ⟨Nat.le_of_ble_eq_true rfl, Nat.le_of_ble_eq_true rfl⟩ rfl hl.1 rfl (Nat.le_of_ble_eq_true rfl) dX11_lay_54 (fun S_13 v_14 H locs h hG => ?_)
          refine lv_iload_n hx hb dX11_lay_57 rfl (lv_at hl 4 rfl) ?_
          refine x_if_ge (tgt := 71) hM h dX11_lay_58 (by decide) (fun c_15 h => ?_) (fun c_15 h => ?_)
          · refine lv_aload_n hx hb dX11_lay_71 rfl (lv_at hl 1 rfl) ?_
            refine x_gr (r := 89) hM hG xfl_X11_56 xct_0 (by decide) rfl dX11_lay_72 ?_
            refine lv_iload_n hx hb dX11_lay_75 rfl (lv_at hl 4 rfl) ?_
            refine x_cVi (As := [.int x3]) (rest := []) hM hG xml_X11_227 xwi_X6_placeOf xws_X6_placeOf xct_89 (by decide) rfl h (fun S' v e => c_X6_placeOf hM.2.2.2.2.2.2.1 e _) ⟨Nat.le_of_ble_eq_true rfl, Nat.le_of_ble_eq_true rfl⟩ rfl hl.1 rfl (Nat.le_of_ble_eq_true rfl) dX11_lay_76 (fun S_16 v_17 H locs h hG => ?_)
            exact x_ri hM hG hr hlk rfl (k0 _ (Option.some.inj h).symm) dX11_lay_79
          · refine lv_aload_n hx hb dX11_lay_61 rfl (lv_at hl 1 rfl) ?_
            refine x_gr (r := 89) hM hG xfl_X11_56 xct_0 (by decide) rfl dX11_lay_62 ?_
            refine x_gi hM hG xfl_X11_226 xct_89 (by decide) rfl h dX11_lay_65 (fun v_18 h => ?_)
            refine lv_goto (tgt := 79) hx hb dX11_lay_68 (by decide) ?_
            exact x_ri hM hG hr hlk rfl (k0 _ (Option.some.inj h).symm) dX11_lay_79
        · refine lv_iload hx hb dX11_lay_40 (lv_at hl 0 rfl) ?_
          exact x_ri hM hG hr hlk rfl (k0 _ (Option.some.inj h).symm) dX11_lay_42
      · refine lv_iconst (v := (-1 : Int32)) hx hb dX11_lay_22 (by decide) ?_
        exact x_ri hM hG hr hlk rfl (k0 _ (Option.some.inj h).symm) dX11_lay_23
set_option maxHeartbeats 4000000 in
set_option maxRecDepth 100000 in
theorem c_X11_lay {l : Launch} {D : va_G} {cy : Nat → ClassId} {a z : Nat → Nat} (hI : xI xtb a) {S : xSt} {x1 : Int32} {x2 : Int32} {x3 : Int32} {S' : xSt} {v' : Int32} (hf : f_X11_lay S x1 x2 x3 = some (S', v')) (sz : Nat) : Met l yX11_lay (Cond.code yX11_lay cX11_lay 5 (some .int) :: xTB) ({ frames := 7, cells := 0, slots := 0, locals := 170 } : Room) (va_Pc [.ref (a 0), .int x1, .int x2, .int x3] (xPre D cy xtb a z S sz)) (xQi D cy xtb a S' v' sz) 0 0 (xA xtb a sz) := by
  refine Met.ofW (cc := cX11_lay) (maxL := 5) (ret := (some .int)) (by decide) rfl ?_
  intro p e s m args below meth c s₁ B hml hv
  obtain ⟨rfl, hsz, hP, hK, hE⟩ := hv
  subst hsz
  have hl := lv_entry ([.ref (a 0), .int x1, .int x2, .int x3]) (n := 5) (Nat.le_of_ble_eq_true rfl)
  rw [lg_entry_eq]
  generalize (lg_sl ([.ref (a 0), .int x1, .int x2, .int x3]) ++ List.replicate (5 - (lg_sl ([.ref (a 0), .int x1, .int x2, .int x3])).length) Slot.unset).toArray = ls at hl ⊢
  have hl : lv_has ls 5 [(0, .ref (a 0)), (1, .int x1), (2, .int x2), (3, .int x3)] := hl
  exact w_X11_lay_0 ⟨B.exec, B.bytes, hml, findClass_of_methodNamed B.named, fun w hw => atoms_spec (ws := Cond.code yX11_lay cX11_lay 5 (some .int) :: xTB) B.pre w (List.mem_cons_of_mem _ hw), hK, hI, hE⟩ B.returns B.notSynchronized hf (fun t0 e => e.symm) ⟨hP, va_S.rf⟩ (lv_sub hl [0, 1, 2, 3] rfl)
set_option maxHeartbeats 4000000 in
set_option maxRecDepth 100000 in
theorem w_X11_worth_0 (hM : xM p c cX11_worth m s args RX11 1 D cy xtb a z) (hr : meth.sig.returnType = (some .int)) (hlk : meth.locks = false) {S' : xSt} {v' : Int32} {S : xSt} {q : (xSt × Int32)} (h : f_X11_worth_0 S = some q) (k0 : ∀ t0 : xSt × Int32, q = t0 → t0 = (S', v')) {H : Heap} {locs : List Loc} (hG : xG D cy xtb a S s H locs) {ls : Array Slot} (hl : lv_has ls 1 [(0, .ref (a 0))]) : W p l e ({ frames := 2, cells := 0, slots := 0, locals := 43 } : Room) s m args below meth c H locs 0 0 (MQ below (xQi D cy xtb a S' v' s.heap.size) args s 0 0 (xA xtb a s.heap.size)) (F0 m 0 ls []) := by
  have hx := hM.1
  have hb := hM.2.1
  refine lv_aload_n hx hb dX11_worth_0 rfl (lv_at hl 0 rfl) ?_
  refine x_gr (r := 16) hM hG xfl_X11_28 xct_0 (by decide) rfl dX11_worth_1 ?_
  refine x_cVi (As := []) (rest := []) hM hG xml_X11_230 xwi_X4_value xws_X4_value xih_hay.1 (by decide) rfl h (fun S' v e => c_X4_value hM.2.2.2.2.2.2.1 xih_hay e _) ⟨Nat.le_of_ble_eq_true rfl, Nat.le_of_ble_eq_true rfl⟩ rfl hl.1 rfl (Nat.le_of_ble_eq_true rfl) dX11_worth_4 (fun S_1 v_2 H locs h hG => ?_)
  exact x_ri hM hG hr hlk rfl (k0 _ (Option.some.inj h).symm) dX11_worth_7
set_option maxHeartbeats 4000000 in
set_option maxRecDepth 100000 in
theorem c_X11_worth {l : Launch} {D : va_G} {cy : Nat → ClassId} {a z : Nat → Nat} (hI : xI xtb a) {S : xSt} {S' : xSt} {v' : Int32} (hf : f_X11_worth S = some (S', v')) (sz : Nat) : Met l yX11_worth (Cond.code yX11_worth cX11_worth 1 (some .int) :: xTB) ({ frames := 2, cells := 0, slots := 0, locals := 43 } : Room) (va_Pc [.ref (a 0)] (xPre D cy xtb a z S sz)) (xQi D cy xtb a S' v' sz) 0 0 (xA xtb a sz) := by
  refine Met.ofW (cc := cX11_worth) (maxL := 1) (ret := (some .int)) (by decide) rfl ?_
  intro p e s m args below meth c s₁ B hml hv
  obtain ⟨rfl, hsz, hP, hK, hE⟩ := hv
  subst hsz
  have hl := lv_entry ([.ref (a 0)]) (n := 1) (Nat.le_of_ble_eq_true rfl)
  rw [lg_entry_eq]
  generalize (lg_sl ([.ref (a 0)]) ++ List.replicate (1 - (lg_sl ([.ref (a 0)])).length) Slot.unset).toArray = ls at hl ⊢
  have hl : lv_has ls 1 [(0, .ref (a 0))] := hl
  exact w_X11_worth_0 ⟨B.exec, B.bytes, hml, findClass_of_methodNamed B.named, fun w hw => atoms_spec (ws := Cond.code yX11_worth cX11_worth 1 (some .int) :: xTB) B.pre w (List.mem_cons_of_mem _ hw), hK, hI, hE⟩ B.returns B.notSynchronized hf (fun t0 e => e.symm) ⟨hP, va_S.rf⟩ (lv_sub hl [0] rfl)
set_option maxHeartbeats 4000000 in
set_option maxRecDepth 100000 in
theorem w_X11_sell_0 {x1 : Int32} {x2 : Int32} {x3 : Int32} (hM : xM p c cX11_sell m s args RX11 4 D cy xtb a z) (hr : meth.sig.returnType = (some .int)) (hlk : meth.locks = false) {S' : xSt} {v' : Int32} {S : xSt} {q : (xSt × Int32)} (h : f_X11_sell_0 x1 x2 x3 S = some q) (k0 : ∀ t0 : xSt × Int32, q = t0 → t0 = (S', v')) {H : Heap} {locs : List Loc} (hG : xG D cy xtb a S s H locs) {ls : Array Slot} (hl : lv_has ls 4 [(0, .ref (a 0)), (1, .int x1), (2, .int x2), (3, .int x3)]) : W p l e ({ frames := 5, cells := 0, slots := 0, locals := 126 } : Room) s m args below meth c H locs 0 0 (MQ below (xQi D cy xtb a S' v' s.heap.size) args s 0 0 (xA xtb a s.heap.size)) (F0 m 0 ls []) := by
  have hx := hM.1
  have hb := hM.2.1
  refine lv_iload_n hx hb dX11_sell_0 rfl (lv_at hl 1 rfl) ?_
  refine lv_iconst (v := (0 : Int32)) hx hb dX11_sell_1 (by decide) ?_
  refine lv_bipush (v := (40 : Int32)) hx hb dX11_sell_2 (by decide) ?_
  refine x_cSi (As := [.int x1, .int (0 : Int32), .int (40 : Int32)]) (rest := []) hM hG xml_X11_97 xwt_X11_within h (fun S' v e => c_X11_within hM.2.2.2.2.2.2.1 e _) ⟨Nat.le_of_ble_eq_true rfl, Nat.le_of_ble_eq_true rfl⟩ rfl hl.1 rfl (Nat.le_of_ble_eq_true rfl) dX11_sell_4 (fun S_1 v_2 H locs h hG => ?_)
  refine x_if_eq (tgt := 29) hM h dX11_sell_7 (by decide) (fun c_3 h => ?_) (fun c_3 h => ?_)
  · refine lv_ldc (v := (-2000000000 : Int32)) hx hb hM.2.2.2.1 (hM.2.2.2.2.1 _ xcn_X11_163) dX11_sell_29 ?_
    exact x_ri hM hG hr hlk rfl (k0 _ (Option.some.inj h).symm) dX11_sell_31
  · refine lv_iload_n hx hb dX11_sell_10 rfl (lv_at hl 2 rfl) ?_
    refine lv_iconst (v := (0 : Int32)) hx hb dX11_sell_11 (by decide) ?_
    refine lv_bipush (v := (99 : Int32)) hx hb dX11_sell_12 (by decide) ?_
    refine x_cSi (As := [.int x2, .int (0 : Int32), .int (99 : Int32)]) (rest := []) hM hG xml_X11_97 xwt_X11_within h (fun S' v e => c_X11_within hM.2.2.2.2.2.2.1 e _) ⟨Nat.le_of_ble_eq_true rfl, Nat.le_of_ble_eq_true rfl⟩ rfl hl.1 rfl (Nat.le_of_ble_eq_true rfl) dX11_sell_14 (fun S_4 v_5 H locs h hG => ?_)
    refine x_if_eq (tgt := 29) hM h dX11_sell_17 (by decide) (fun c_6 h => ?_) (fun c_6 h => ?_)
    · refine lv_ldc (v := (-2000000000 : Int32)) hx hb hM.2.2.2.1 (hM.2.2.2.2.1 _ xcn_X11_163) dX11_sell_29 ?_
      exact x_ri hM hG hr hlk rfl (k0 _ (Option.some.inj h).symm) dX11_sell_31
    · refine lv_iload_n hx hb dX11_sell_20 rfl (lv_at hl 3 rfl) ?_
      refine lv_iconst (v := (0 : Int32)) hx hb dX11_sell_21 (by decide) ?_
      refine lv_iconst (v := (1 : Int32)) hx hb dX11_sell_22 (by decide) ?_
      refine x_cSi (As := [.int x3, .int (0 : Int32), .int (1 : Int32)]) (rest := []) hM hG xml_X11_97 xwt_X11_within h (fun S' v e => c_X11_within hM.2.2.2.2.2.2.1 e _) ⟨Nat.le_of_ble_eq_true rfl, Nat.le_of_ble_eq_true rfl⟩ rfl hl.1 rfl (Nat.le_of_ble_eq_true rfl) dX11_sell_23 (fun S_7 v_8 H locs h hG => ?_)
      refine x_if_ne (tgt := 32) hM h dX11_sell_26 (by decide) (fun c_9 h => ?_) (fun c_9 h => ?_)
      · refine lv_aload_n hx hb dX11_sell_32 rfl (lv_at hl 0 rfl) ?_
        refine x_gr (r := 86) hM hG xfl_X11_40 xct_0 (by decide) rfl dX11_sell_33 ?_
        refine lv_iload_n hx hb dX11_sell_36 rfl (lv_at hl 1 rfl) ?_
        refine lv_iload_n hx hb dX11_sell_37 rfl (lv_at hl 2 rfl) ?_
        refine x_cVv (As := [.int x1, .int x2]) (rest := []) hM hG xml_X11_233 xwi_X10_seekSale xws_X10_seekSale xct_86 (by decide) rfl h (fun S' v e => c_X10_seekSale hM.2.2.2.2.2.2.1 e _) ⟨Nat.le_of_ble_eq_true rfl, Nat.le_of_ble_eq_true rfl⟩ rfl hl.1 rfl (Nat.le_of_ble_eq_true rfl) dX11_sell_38 (fun S_10 v_11 H locs h hG => ?_)
        refine lv_iload_n hx hb dX11_sell_41 rfl (lv_at hl 3 rfl) ?_
        refine x_if_ne (tgt := 55) hM h dX11_sell_42 (by decide) (fun c_12 h => ?_) (fun c_12 h => ?_)
        · refine lv_aload_n hx hb dX11_sell_55 rfl (lv_at hl 0 rfl) ?_
          refine x_gr (r := 86) hM hG xfl_X11_40 xct_0 (by decide) rfl dX11_sell_56 ?_
          refine x_gi hM hG xfl_X11_209 xct_86 (by decide) rfl h dX11_sell_59 (fun v_13 h => ?_)
          exact x_ri hM hG hr hlk rfl (k0 _ (Option.some.inj h).symm) dX11_sell_62
        · refine lv_aload_n hx hb dX11_sell_45 rfl (lv_at hl 0 rfl) ?_
          refine x_gr (r := 86) hM hG xfl_X11_40 xct_0 (by decide) rfl dX11_sell_46 ?_
          refine x_gi hM hG xfl_X11_212 xct_86 (by decide) rfl h dX11_sell_49 (fun v_14 h => ?_)
          refine lv_goto (tgt := 62) hx hb dX11_sell_52 (by decide) ?_
          exact x_ri hM hG hr hlk rfl (k0 _ (Option.some.inj h).symm) dX11_sell_62
      · refine lv_ldc (v := (-2000000000 : Int32)) hx hb hM.2.2.2.1 (hM.2.2.2.2.1 _ xcn_X11_163) dX11_sell_29 ?_
        exact x_ri hM hG hr hlk rfl (k0 _ (Option.some.inj h).symm) dX11_sell_31
set_option maxHeartbeats 4000000 in
set_option maxRecDepth 100000 in
theorem c_X11_sell {l : Launch} {D : va_G} {cy : Nat → ClassId} {a z : Nat → Nat} (hI : xI xtb a) {S : xSt} {x1 : Int32} {x2 : Int32} {x3 : Int32} {S' : xSt} {v' : Int32} (hf : f_X11_sell S x1 x2 x3 = some (S', v')) (sz : Nat) : Met l yX11_sell (Cond.code yX11_sell cX11_sell 4 (some .int) :: xTB) ({ frames := 5, cells := 0, slots := 0, locals := 126 } : Room) (va_Pc [.ref (a 0), .int x1, .int x2, .int x3] (xPre D cy xtb a z S sz)) (xQi D cy xtb a S' v' sz) 0 0 (xA xtb a sz) := by
  refine Met.ofW (cc := cX11_sell) (maxL := 4) (ret := (some .int)) (by decide) rfl ?_
  intro p e s m args below meth c s₁ B hml hv
  obtain ⟨rfl, hsz, hP, hK, hE⟩ := hv
  subst hsz
  have hl := lv_entry ([.ref (a 0), .int x1, .int x2, .int x3]) (n := 4) (Nat.le_of_ble_eq_true rfl)
  rw [lg_entry_eq]
  generalize (lg_sl ([.ref (a 0), .int x1, .int x2, .int x3]) ++ List.replicate (4 - (lg_sl ([.ref (a 0), .int x1, .int x2, .int x3])).length) Slot.unset).toArray = ls at hl ⊢
  have hl : lv_has ls 4 [(0, .ref (a 0)), (1, .int x1), (2, .int x2), (3, .int x3)] := hl
  exact w_X11_sell_0 ⟨B.exec, B.bytes, hml, findClass_of_methodNamed B.named, fun w hw => atoms_spec (ws := Cond.code yX11_sell cX11_sell 4 (some .int) :: xTB) B.pre w (List.mem_cons_of_mem _ hw), hK, hI, hE⟩ B.returns B.notSynchronized hf (fun t0 e => e.symm) ⟨hP, va_S.rf⟩ (lv_sub hl [0, 1, 2, 3] rfl)
set_option maxHeartbeats 4000000 in
set_option maxRecDepth 100000 in
theorem w_X11_judge_0 {x1 : Int32} {x2 : Int32} (hM : xM p c cX11_judge m s args RX11 4 D cy xtb a z) (hr : meth.sig.returnType = (some .int)) (hlk : meth.locks = false) {S' : xSt} {v' : Int32} {S : xSt} {q : (xSt × Int32)} (h : f_X11_judge_0 x1 x2 S = some q) (k0 : ∀ t0 : xSt × Int32, q = t0 → t0 = (S', v')) {H : Heap} {locs : List Loc} (hG : xG D cy xtb a S s H locs) {ls : Array Slot} (hl : lv_has ls 4 [(0, .ref (a 0)), (1, .int x1), (2, .int x2)]) : W p l e ({ frames := 6, cells := 0, slots := 0, locals := 149 } : Room) s m args below meth c H locs 0 0 (MQ below (xQi D cy xtb a S' v' s.heap.size) args s 0 0 (xA xtb a s.heap.size)) (F0 m 0 ls []) := by
  have hx := hM.1
  have hb := hM.2.1
  refine lv_iload_n hx hb dX11_judge_0 rfl (lv_at hl 1 rfl) ?_
  refine x_cSi (As := [.int x1]) (rest := []) hM hG xml_X11_105 xwt_X11_isShelf h (fun S' v e => c_X11_isShelf hM.2.2.2.2.2.2.1 e _) ⟨Nat.le_of_ble_eq_true rfl, Nat.le_of_ble_eq_true rfl⟩ rfl hl.1 rfl (Nat.le_of_ble_eq_true rfl) dX11_judge_1 (fun S_1 v_2 H locs h hG => ?_)
  refine x_if_eq (tgt := 18) hM h dX11_judge_4 (by decide) (fun c_3 h => ?_) (fun c_3 h => ?_)
  · refine lv_iconst (v := (-1 : Int32)) hx hb dX11_judge_18 (by decide) ?_
    exact x_ri hM hG hr hlk rfl (k0 _ (Option.some.inj h).symm) dX11_judge_19
  · refine lv_aload_n hx hb dX11_judge_7 rfl (lv_at hl 0 rfl) ?_
    refine x_gr (r := 16) hM hG xfl_X11_28 xct_0 (by decide) rfl dX11_judge_8 ?_
    refine lv_iload_n hx hb dX11_judge_11 rfl (lv_at hl 2 rfl) ?_
    refine x_cVi (As := [.int x2]) (rest := []) hM hG xml_X11_156 xwi_X4_has xws_X4_has xih_hay.1 (by decide) rfl h (fun S' v e => c_X4_has hM.2.2.2.2.2.2.1 xih_hay e _) ⟨Nat.le_of_ble_eq_true rfl, Nat.le_of_ble_eq_true rfl⟩ rfl hl.1 rfl (Nat.le_of_ble_eq_true rfl) dX11_judge_12 (fun S_4 v_5 H locs h hG => ?_)
    refine x_if_ne (tgt := 20) hM h dX11_judge_15 (by decide) (fun c_6 h => ?_) (fun c_6 h => ?_)
    · refine lv_aload_n hx hb dX11_judge_20 rfl (lv_at hl 0 rfl) ?_
      refine x_gr (r := 1) hM hG xfl_X11_92 xct_0 (by decide) rfl dX11_judge_21 ?_
      refine lv_iload_n hx hb dX11_judge_24 rfl (lv_at hl 1 rfl) ?_
      refine x_aald5 hM hG xct_1 h dX11_judge_25 (fun hi_7 h => ?_)
      refine x_cVi (As := []) (rest := []) hM hG xml_X11_109 xwi_X8_refusalOfBytes xws_X8_refusalOfBytes (xih_shelf hi_7).1 (by decide) rfl h (fun S' v e => c_X8_refusalOfBytes hM.2.2.2.2.2.2.1 (xih_shelf hi_7) e _) ⟨Nat.le_of_ble_eq_true rfl, Nat.le_of_ble_eq_true rfl⟩ rfl hl.1 rfl (Nat.le_of_ble_eq_true rfl) dX11_judge_26 (fun S_8 v_9 H locs h hG => ?_)
      refine lv_istore_n (lv' := [(3, .int v_9), (0, .ref (a 0)), (1, .int x1), (2, .int x2)]) hx hb dX11_judge_29 rfl hl (by decide) rfl (fun ls hl => ?_)
      refine lv_iload_n hx hb dX11_judge_30 rfl (lv_at hl 0 rfl) ?_
      refine x_if_eq (tgt := 38) hM h dX11_judge_31 (by decide) (fun c_10 h => ?_) (fun c_10 h => ?_)
      · refine lv_aload_n hx hb dX11_judge_38 rfl (lv_at hl 1 rfl) ?_
        refine x_gr (r := 95) hM hG xfl_X11_72 xct_0 (by decide) rfl dX11_judge_39 ?_
        refine lv_aload_n hx hb dX11_judge_42 rfl (lv_at hl 1 rfl) ?_
        refine x_gr (r := 1) hM hG xfl_X11_92 xct_0 (by decide) rfl dX11_judge_43 ?_
        refine lv_iload_n hx hb dX11_judge_46 rfl (lv_at hl 2 rfl) ?_
        refine x_aald5 hM hG xct_1 h dX11_judge_47 (fun hi_11 h => ?_)
        refine lv_iload_n hx hb dX11_judge_48 rfl (lv_at hl 3 rfl) ?_
        refine x_cVi (As := [.ref (a (104 + 2 * x1.toNatClampNeg)), .int x2]) (rest := []) hM hG xml_X11_239 xwi_X1_judged xws_X1_judged xct_95 (by decide) rfl h (fun S' v e => c_X1_judged hM.2.2.2.2.2.2.1 (xih_shelf hi_11) e _) ⟨Nat.le_of_ble_eq_true rfl, Nat.le_of_ble_eq_true rfl⟩ rfl hl.1 rfl (Nat.le_of_ble_eq_true rfl) dX11_judge_49 (fun S_12 v_13 H locs h hG => ?_)
        exact x_ri hM hG hr hlk rfl (k0 _ (Option.some.inj h).symm) dX11_judge_52
      · refine lv_iload_n hx hb dX11_judge_34 rfl (lv_at hl 0 rfl) ?_
        refine lv_goto (tgt := 52) hx hb dX11_judge_35 (by decide) ?_
        exact x_ri hM hG hr hlk rfl (k0 _ (Option.some.inj h).symm) dX11_judge_52
    · refine lv_iconst (v := (-1 : Int32)) hx hb dX11_judge_18 (by decide) ?_
      exact x_ri hM hG hr hlk rfl (k0 _ (Option.some.inj h).symm) dX11_judge_19
set_option maxHeartbeats 4000000 in
set_option maxRecDepth 100000 in
theorem c_X11_judge {l : Launch} {D : va_G} {cy : Nat → ClassId} {a z : Nat → Nat} (hI : xI xtb a) {S : xSt} {x1 : Int32} {x2 : Int32} {S' : xSt} {v' : Int32} (hf : f_X11_judge S x1 x2 = some (S', v')) (sz : Nat) : Met l yX11_judge (Cond.code yX11_judge cX11_judge 4 (some .int) :: xTB) ({ frames := 6, cells := 0, slots := 0, locals := 149 } : Room) (va_Pc [.ref (a 0), .int x1, .int x2] (xPre D cy xtb a z S sz)) (xQi D cy xtb a S' v' sz) 0 0 (xA xtb a sz) := by
  refine Met.ofW (cc := cX11_judge) (maxL := 4) (ret := (some .int)) (by decide) rfl ?_
  intro p e s m args below meth c s₁ B hml hv
  obtain ⟨rfl, hsz, hP, hK, hE⟩ := hv
  subst hsz
  have hl := lv_entry ([.ref (a 0), .int x1, .int x2]) (n := 4) (Nat.le_of_ble_eq_true rfl)
  rw [lg_entry_eq]
  generalize (lg_sl ([.ref (a 0), .int x1, .int x2]) ++ List.replicate (4 - (lg_sl ([.ref (a 0), .int x1, .int x2])).length) Slot.unset).toArray = ls at hl ⊢
  have hl : lv_has ls 4 [(0, .ref (a 0)), (1, .int x1), (2, .int x2)] := hl
  exact w_X11_judge_0 ⟨B.exec, B.bytes, hml, findClass_of_methodNamed B.named, fun w hw => atoms_spec (ws := Cond.code yX11_judge cX11_judge 4 (some .int) :: xTB) B.pre w (List.mem_cons_of_mem _ hw), hK, hI, hE⟩ B.returns B.notSynchronized hf (fun t0 e => e.symm) ⟨hP, va_S.rf⟩ (lv_sub hl [0, 1, 2] rfl)
set_option maxHeartbeats 4000000 in
set_option maxRecDepth 100000 in
theorem w_X11_book_90 {x3 : Int32} {y1 : Nat} (hy1 : xIs_X8 y1) {y2 : Int32} {y3 : Int32} (hM : xM p c cX11_book m s args RX11 6 D cy xtb a z) (hr : meth.sig.returnType = (some .int)) (hlk : meth.locks = false) {S' : xSt} {v' : Int32} {S : xSt} {q : (xSt × Int32)} (h : f_X11_book_90 x3 y1 y2 y3 S = some q) (k0 : ∀ t0 : xSt × Int32, q = t0 → t0 = (S', v')) {H : Heap} {locs : List Loc} (hG : xG D cy xtb a S s H locs) {ls : Array Slot} (hl : lv_has ls 6 [(3, .int x3)]) : W p l e ({ frames := 6, cells := 0, slots := 0, locals := 152 } : Room) s m args below meth c H locs 0 0 (MQ below (xQi D cy xtb a S' v' s.heap.size) args s 0 0 (xA xtb a s.heap.size)) (F0 m 90 ls [.int y3, .int y2, .ref (a y1), .ref (a 95)]) := by
  have hx := hM.1
  have hb := hM.2.1
  refine x_cVi (As := [.ref (a y1), .int y2, .int y3]) (rest := []) hM hG xml_X11_243 xwi_X1_fitting xws_X1_fitting xct_95 (by decide) rfl h (fun S' v e => c_X1_fitting hM.2.2.2.2.2.2.1 hy1 e _) ⟨Nat.le_of_ble_eq_true rfl, Nat.le_of_ble_eq_true rfl⟩ rfl hl.1 rfl (Nat.le_of_ble_eq_true rfl) dX11_book_90 (fun S_1 v_2 H locs h hG => ?_)
  refine lv_istore (lv' := [(5, .int v_2), (3, .int x3)]) hx hb dX11_book_93 hl (by decide) rfl (fun ls hl => ?_)
  refine lv_iload_n hx hb dX11_book_95 rfl (lv_at hl 1 rfl) ?_
  by_cases c_3 : x3 = (0 : Int32)
  · have h := (if_pos c_3).symm.trans h
    refine lv_lookup (off := 28) (tgt := 124) hx hb dX11_book_96 (by decide) (by rw [c_3]; rfl) (by decide) ?_
    refine lv_iload hx hb dX11_book_124 (lv_at hl 0 rfl) ?_
    refine x_cSi (As := [.int v_2]) (rest := []) hM hG xml_X11_246 xwt_J6_bitCount_0f7a4 h (fun S' v e => c_J6_bitCount_0f7a4 hM.2.2.2.2.2.2.1 e _) ⟨Nat.le_of_ble_eq_true rfl, Nat.le_of_ble_eq_true rfl⟩ rfl hl.1 rfl (Nat.le_of_ble_eq_true rfl) dX11_book_126 (fun S_4 v_5 H locs h hG => ?_)
    exact x_ri hM hG hr hlk rfl (k0 _ (Option.some.inj h).symm) dX11_book_129
  · have h := (if_neg c_3).symm.trans h
    by_cases c_6 : x3 = (1 : Int32)
    · have h := (if_pos c_6).symm.trans h
      refine lv_lookup (off := 34) (tgt := 130) hx hb dX11_book_96 (by decide) (by rw [c_6]; rfl) (by decide) ?_
      refine lv_iload hx hb dX11_book_130 (lv_at hl 0 rfl) ?_
      refine x_cSi (As := [.int v_2]) (rest := []) hM hG xml_X11_251 xwt_X11_lowestBit h (fun S' v e => c_X11_lowestBit hM.2.2.2.2.2.2.1 e _) ⟨Nat.le_of_ble_eq_true rfl, Nat.le_of_ble_eq_true rfl⟩ rfl hl.1 rfl (Nat.le_of_ble_eq_true rfl) dX11_book_132 (fun S_7 v_8 H locs h hG => ?_)
      exact x_ri hM hG hr hlk rfl (k0 _ (Option.some.inj h).symm) dX11_book_135
    · have h := (if_neg c_6).symm.trans h
      refine lv_lookup (off := 40) (tgt := 136) hx hb dX11_book_96 (by decide) (by refine (lv_osw c_3 (by decide)).trans ?_; refine (lv_osw c_6 (by decide)).trans ?_; rfl) (by decide) ?_
      refine lv_iload hx hb dX11_book_136 (lv_at hl 0 rfl) ?_
      exact x_ri hM hG hr hlk rfl (k0 _ (Option.some.inj h).symm) dX11_book_138
set_option maxHeartbeats 4000000 in
set_option maxRecDepth 100000 in
theorem w_X11_book_0 {x1 : Int32} {x2 : Int32} {x3 : Int32} (hM : xM p c cX11_book m s args RX11 6 D cy xtb a z) (hr : meth.sig.returnType = (some .int)) (hlk : meth.locks = false) {S' : xSt} {v' : Int32} {S : xSt} {q : (xSt × Int32)} (h : f_X11_book_0 x1 x2 x3 S = some q) (k0 : ∀ t0 : xSt × Int32, q = t0 → t0 = (S', v')) {H : Heap} {locs : List Loc} (hG : xG D cy xtb a S s H locs) {ls : Array Slot} (hl : lv_has ls 6 [(0, .ref (a 0)), (1, .int x1), (2, .int x2), (3, .int x3)]) : W p l e ({ frames := 6, cells := 0, slots := 0, locals := 152 } : Room) s m args below meth c H locs 0 0 (MQ below (xQi D cy xtb a S' v' s.heap.size) args s 0 0 (xA xtb a s.heap.size)) (F0 m 0 ls []) := by
  have hx := hM.1
  have hb := hM.2.1
  refine lv_iload_n hx hb dX11_book_0 rfl (lv_at hl 1 rfl) ?_
  refine x_cSi (As := [.int x1]) (rest := []) hM hG xml_X11_105 xwt_X11_isShelf h (fun S' v e => c_X11_isShelf hM.2.2.2.2.2.2.1 e _) ⟨Nat.le_of_ble_eq_true rfl, Nat.le_of_ble_eq_true rfl⟩ rfl hl.1 rfl (Nat.le_of_ble_eq_true rfl) dX11_book_1 (fun S_1 v_2 H locs h hG => ?_)
  refine x_if_eq (tgt := 48) hM h dX11_book_4 (by decide) (fun c_3 h => ?_) (fun c_3 h => ?_)
  · refine lv_iconst (v := (-1 : Int32)) hx hb dX11_book_48 (by decide) ?_
    exact x_ri hM hG hr hlk rfl (k0 _ (Option.some.inj h).symm) dX11_book_49
  · refine lv_iload_n hx hb dX11_book_7 rfl (lv_at hl 2 rfl) ?_
    refine x_if_lt (tgt := 48) hM h dX11_book_8 (by decide) (fun c_4 h => ?_) (fun c_4 h => ?_)
    · refine lv_iconst (v := (-1 : Int32)) hx hb dX11_book_48 (by decide) ?_
      exact x_ri hM hG hr hlk rfl (k0 _ (Option.some.inj h).symm) dX11_book_49
    · refine lv_aload_n hx hb dX11_book_11 rfl (lv_at hl 0 rfl) ?_
      refine x_gr (r := 16) hM hG xfl_X11_28 xct_0 (by decide) rfl dX11_book_12 ?_
      refine lv_iload_n hx hb dX11_book_15 rfl (lv_at hl 2 rfl) ?_
      refine lv_bipush (v := (100 : Int32)) hx hb dX11_book_16 (by decide) ?_
      refine x_idiv hM h dX11_book_18 (fun v_5 h => ?_)
      refine x_cVi (As := [.int v_5]) (rest := []) hM hG xml_X11_156 xwi_X4_has xws_X4_has xih_hay.1 (by decide) rfl h (fun S' v e => c_X4_has hM.2.2.2.2.2.2.1 xih_hay e _) ⟨Nat.le_of_ble_eq_true rfl, Nat.le_of_ble_eq_true rfl⟩ rfl hl.1 rfl (Nat.le_of_ble_eq_true rfl) dX11_book_19 (fun S_6 v_7 H locs h hG => ?_)
      refine x_if_eq (tgt := 48) hM h dX11_book_22 (by decide) (fun c_8 h => ?_) (fun c_8 h => ?_)
      · refine lv_iconst (v := (-1 : Int32)) hx hb dX11_book_48 (by decide) ?_
        exact x_ri hM hG hr hlk rfl (k0 _ (Option.some.inj h).symm) dX11_book_49
      · refine lv_aload_n hx hb dX11_book_25 rfl (lv_at hl 0 rfl) ?_
        refine x_gr (r := 16) hM hG xfl_X11_28 xct_0 (by decide) rfl dX11_book_26 ?_
        refine lv_iload_n hx hb dX11_book_29 rfl (lv_at hl 2 rfl) ?_
        refine lv_bipush (v := (100 : Int32)) hx hb dX11_book_30 (by decide) ?_
        refine x_irem hM h dX11_book_32 (fun v_9 h => ?_)
        refine x_cVi (As := [.int v_9]) (rest := []) hM hG xml_X11_156 xwi_X4_has xws_X4_has xih_hay.1 (by decide) rfl h (fun S' v e => c_X4_has hM.2.2.2.2.2.2.1 xih_hay e _) ⟨Nat.le_of_ble_eq_true rfl, Nat.le_of_ble_eq_true rfl⟩ rfl hl.1 rfl (Nat.le_of_ble_eq_true rfl) dX11_book_33 (fun S_10 v_11 H locs h hG => ?_)
        refine x_if_eq (tgt := 48) hM h dX11_book_36 (by decide) (fun c_12 h => ?_) (fun c_12 h => ?_)
        · refine lv_iconst (v := (-1 : Int32)) hx hb dX11_book_48 (by decide) ?_
          exact x_ri hM hG hr hlk rfl (k0 _ (Option.some.inj h).symm) dX11_book_49
        · refine lv_iload_n hx hb dX11_book_39 rfl (lv_at hl 3 rfl) ?_
          refine lv_iconst (v := (0 : Int32)) hx hb dX11_book_40 (by decide) ?_
          refine lv_iconst (v := (2 : Int32)) hx hb dX11_book_41 (by decide) ?_
          refine x_cSi (As := [.int x3, .int (0 : Int32), .int (2 : Int32)]) (rest := []) hM hG xml_X11_97 xwt_X11_within h (fun S' v e => c_X11_within hM.2.2.2.2.2.2.1 e _) ⟨Nat.le_of_ble_eq_true rfl, Nat.le_of_ble_eq_true rfl⟩ rfl hl.1 rfl (Nat.le_of_ble_eq_true rfl) dX11_book_42 (fun S_13 v_14 H locs h hG => ?_)
          refine x_if_ne (tgt := 50) hM h dX11_book_45 (by decide) (fun c_15 h => ?_) (fun c_15 h => ?_)
          · refine lv_aload_n hx hb dX11_book_50 rfl (lv_at hl 0 rfl) ?_
            refine x_gr (r := 1) hM hG xfl_X11_92 xct_0 (by decide) rfl dX11_book_51 ?_
            refine lv_iload_n hx hb dX11_book_54 rfl (lv_at hl 1 rfl) ?_
            refine x_aald5 hM hG xct_1 h dX11_book_55 (fun hi_16 h => ?_)
            refine x_cVi (As := []) (rest := []) hM hG xml_X11_109 xwi_X8_refusalOfBytes xws_X8_refusalOfBytes (xih_shelf hi_16).1 (by decide) rfl h (fun S' v e => c_X8_refusalOfBytes hM.2.2.2.2.2.2.1 (xih_shelf hi_16) e _) ⟨Nat.le_of_ble_eq_true rfl, Nat.le_of_ble_eq_true rfl⟩ rfl hl.1 rfl (Nat.le_of_ble_eq_true rfl) dX11_book_56 (fun S_17 v_18 H locs h hG => ?_)
            refine lv_istore (lv' := [(4, .int v_18), (0, .ref (a 0)), (1, .int x1), (2, .int x2), (3, .int x3)]) hx hb dX11_book_59 hl (by decide) rfl (fun ls hl => ?_)
            refine lv_iload hx hb dX11_book_61 (lv_at hl 0 rfl) ?_
            refine x_if_eq (tgt := 69) hM h dX11_book_63 (by decide) (fun c_19 h => ?_) (fun c_19 h => ?_)
            · refine lv_aload_n hx hb dX11_book_69 rfl (lv_at hl 1 rfl) ?_
              refine x_gr (r := 95) hM hG xfl_X11_72 xct_0 (by decide) rfl dX11_book_70 ?_
              refine lv_aload_n hx hb dX11_book_73 rfl (lv_at hl 1 rfl) ?_
              refine x_gr (r := 1) hM hG xfl_X11_92 xct_0 (by decide) rfl dX11_book_74 ?_
              refine lv_iload_n hx hb dX11_book_77 rfl (lv_at hl 2 rfl) ?_
              refine x_aald5 hM hG xct_1 h dX11_book_78 (fun hi_20 h => ?_)
              refine lv_iload_n hx hb dX11_book_79 rfl (lv_at hl 3 rfl) ?_
              refine lv_iload_n hx hb dX11_book_80 rfl (lv_at hl 4 rfl) ?_
              refine lv_iconst (v := (2 : Int32)) hx hb dX11_book_81 (by decide) ?_
              refine x_icmp_ne (tgt := 89) hM h dX11_book_82 (by decide) (fun c_21 h => ?_) (fun c_21 h => ?_)
              · refine lv_iconst (v := (0 : Int32)) hx hb dX11_book_89 (by decide) ?_
                exact w_X11_book_90 (xih_shelf hi_20) hM hr hlk h (fun t0 e => k0 t0 e) hG (lv_sub hl [4] rfl)
              · refine lv_iconst (v := (3 : Int32)) hx hb dX11_book_85 (by decide) ?_
                refine lv_goto (tgt := 90) hx hb dX11_book_86 (by decide) ?_
                exact w_X11_book_90 (xih_shelf hi_20) hM hr hlk h (fun t0 e => k0 t0 e) hG (lv_sub hl [4] rfl)
            · refine lv_iload hx hb dX11_book_66 (lv_at hl 0 rfl) ?_
              exact x_ri hM hG hr hlk rfl (k0 _ (Option.some.inj h).symm) dX11_book_68
          · refine lv_iconst (v := (-1 : Int32)) hx hb dX11_book_48 (by decide) ?_
            exact x_ri hM hG hr hlk rfl (k0 _ (Option.some.inj h).symm) dX11_book_49
set_option maxHeartbeats 4000000 in
set_option maxRecDepth 100000 in
theorem c_X11_book {l : Launch} {D : va_G} {cy : Nat → ClassId} {a z : Nat → Nat} (hI : xI xtb a) {S : xSt} {x1 : Int32} {x2 : Int32} {x3 : Int32} {S' : xSt} {v' : Int32} (hf : f_X11_book S x1 x2 x3 = some (S', v')) (sz : Nat) : Met l yX11_book (Cond.code yX11_book cX11_book 6 (some .int) :: xTB) ({ frames := 6, cells := 0, slots := 0, locals := 152 } : Room) (va_Pc [.ref (a 0), .int x1, .int x2, .int x3] (xPre D cy xtb a z S sz)) (xQi D cy xtb a S' v' sz) 0 0 (xA xtb a sz) := by
  refine Met.ofW (cc := cX11_book) (maxL := 6) (ret := (some .int)) (by decide) rfl ?_
  intro p e s m args below meth c s₁ B hml hv
  obtain ⟨rfl, hsz, hP, hK, hE⟩ := hv
  subst hsz
  have hl := lv_entry ([.ref (a 0), .int x1, .int x2, .int x3]) (n := 6) (Nat.le_of_ble_eq_true rfl)
  rw [lg_entry_eq]
  generalize (lg_sl ([.ref (a 0), .int x1, .int x2, .int x3]) ++ List.replicate (6 - (lg_sl ([.ref (a 0), .int x1, .int x2, .int x3])).length) Slot.unset).toArray = ls at hl ⊢
  have hl : lv_has ls 6 [(0, .ref (a 0)), (1, .int x1), (2, .int x2), (3, .int x3)] := hl
  exact w_X11_book_0 ⟨B.exec, B.bytes, hml, findClass_of_methodNamed B.named, fun w hw => atoms_spec (ws := Cond.code yX11_book cX11_book 6 (some .int) :: xTB) B.pre w (List.mem_cons_of_mem _ hw), hK, hI, hE⟩ B.returns B.notSynchronized hf (fun t0 e => e.symm) ⟨hP, va_S.rf⟩ (lv_sub hl [0, 1, 2, 3] rfl)
set_option maxHeartbeats 4000000 in
set_option maxRecDepth 100000 in
theorem w_X11_byTurns_0 {x1 : Int32} {x2 : Int32} (hM : xM p c cX11_byTurns m s args RX11 3 D cy xtb a z) (hr : meth.sig.returnType = (some .int)) (hlk : meth.locks = false) {S' : xSt} {v' : Int32} {S : xSt} {q : (xSt × Int32)} (h : f_X11_byTurns_0 x1 x2 S = some q) (k0 : ∀ t0 : xSt × Int32, q = t0 → t0 = (S', v')) {H : Heap} {locs : List Loc} (hG : xG D cy xtb a S s H locs) {ls : Array Slot} (hl : lv_has ls 3 [(0, .ref (a 0)), (1, .int x1), (2, .int x2)]) : W p l e ({ frames := 12, cells := 0, slots := 0, locals := 326 } : Room) s m args below meth c H locs 0 0 (MQ below (xQi D cy xtb a S' v' s.heap.size) args s 0 0 (xA xtb a s.heap.size)) (F0 m 0 ls []) := by
  have hx := hM.1
  have hb := hM.2.1
  refine lv_iload_n hx hb dX11_byTurns_0 rfl (lv_at hl 1 rfl) ?_
  refine lv_bipush (v := (10 : Int32)) hx hb dX11_byTurns_1 (by decide) ?_
  refine lv_bipush (v := (39 : Int32)) hx hb dX11_byTurns_3 (by decide) ?_
  refine x_cSi (As := [.int x1, .int (10 : Int32), .int (39 : Int32)]) (rest := []) hM hG xml_X11_97 xwt_X11_within h (fun S' v e => c_X11_within hM.2.2.2.2.2.2.1 e _) ⟨Nat.le_of_ble_eq_true rfl, Nat.le_of_ble_eq_true rfl⟩ rfl hl.1 rfl (Nat.le_of_ble_eq_true rfl) dX11_byTurns_5 (fun S_1 v_2 H locs h hG => ?_)
  refine x_if_eq (tgt := 20) hM h dX11_byTurns_8 (by decide) (fun c_3 h => ?_) (fun c_3 h => ?_)
  · refine lv_iconst (v := (-1 : Int32)) hx hb dX11_byTurns_20 (by decide) ?_
    exact x_ri hM hG hr hlk rfl (k0 _ (Option.some.inj h).symm) dX11_byTurns_21
  · refine lv_iload_n hx hb dX11_byTurns_11 rfl (lv_at hl 2 rfl) ?_
    refine lv_iconst (v := (0 : Int32)) hx hb dX11_byTurns_12 (by decide) ?_
    refine lv_iconst (v := (1 : Int32)) hx hb dX11_byTurns_13 (by decide) ?_
    refine x_cSi (As := [.int x2, .int (0 : Int32), .int (1 : Int32)]) (rest := []) hM hG xml_X11_97 xwt_X11_within h (fun S' v e => c_X11_within hM.2.2.2.2.2.2.1 e _) ⟨Nat.le_of_ble_eq_true rfl, Nat.le_of_ble_eq_true rfl⟩ rfl hl.1 rfl (Nat.le_of_ble_eq_true rfl) dX11_byTurns_14 (fun S_4 v_5 H locs h hG => ?_)
    refine x_if_ne (tgt := 22) hM h dX11_byTurns_17 (by decide) (fun c_6 h => ?_) (fun c_6 h => ?_)
    · refine lv_aload_n hx hb dX11_byTurns_22 rfl (lv_at hl 0 rfl) ?_
      refine x_gr (r := 93) hM hG xfl_X11_65 xct_0 (by decide) rfl dX11_byTurns_23 ?_
      refine lv_iload_n hx hb dX11_byTurns_26 rfl (lv_at hl 1 rfl) ?_
      refine lv_bipush (v := (10 : Int32)) hx hb dX11_byTurns_27 (by decide) ?_
      refine x_idiv hM h dX11_byTurns_29 (fun v_7 h => ?_)
      refine lv_iload_n hx hb dX11_byTurns_30 rfl (lv_at hl 1 rfl) ?_
      refine lv_bipush (v := (10 : Int32)) hx hb dX11_byTurns_31 (by decide) ?_
      refine x_irem hM h dX11_byTurns_33 (fun v_8 h => ?_)
      refine x_cVv (As := [.int v_7, .int v_8]) (rest := []) hM hG xml_X11_254 xwi_X3_play xws_X3_play xct_93 (by decide) rfl h (fun S' v e => c_X3_play hM.2.2.2.2.2.2.1 e _) ⟨Nat.le_of_ble_eq_true rfl, Nat.le_of_ble_eq_true rfl⟩ rfl hl.1 rfl (Nat.le_of_ble_eq_true rfl) dX11_byTurns_34 (fun S_9 v_10 H locs h hG => ?_)
      refine lv_iload_n hx hb dX11_byTurns_37 rfl (lv_at hl 2 rfl) ?_
      refine x_if_ne (tgt := 51) hM h dX11_byTurns_38 (by decide) (fun c_11 h => ?_) (fun c_11 h => ?_)
      · refine lv_aload_n hx hb dX11_byTurns_51 rfl (lv_at hl 0 rfl) ?_
        refine x_gr (r := 93) hM hG xfl_X11_65 xct_0 (by decide) rfl dX11_byTurns_52 ?_
        refine x_gi hM hG xfl_X11_258 xct_93 (by decide) rfl h dX11_byTurns_55 (fun v_12 h => ?_)
        exact x_ri hM hG hr hlk rfl (k0 _ (Option.some.inj h).symm) dX11_byTurns_58
      · refine lv_aload_n hx hb dX11_byTurns_41 rfl (lv_at hl 0 rfl) ?_
        refine x_gr (r := 93) hM hG xfl_X11_65 xct_0 (by decide) rfl dX11_byTurns_42 ?_
        refine x_gi hM hG xfl_X11_257 xct_93 (by decide) rfl h dX11_byTurns_45 (fun v_13 h => ?_)
        refine lv_goto (tgt := 58) hx hb dX11_byTurns_48 (by decide) ?_
        exact x_ri hM hG hr hlk rfl (k0 _ (Option.some.inj h).symm) dX11_byTurns_58
    · refine lv_iconst (v := (-1 : Int32)) hx hb dX11_byTurns_20 (by decide) ?_
      exact x_ri hM hG hr hlk rfl (k0 _ (Option.some.inj h).symm) dX11_byTurns_21
set_option maxHeartbeats 4000000 in
set_option maxRecDepth 100000 in
theorem c_X11_byTurns {l : Launch} {D : va_G} {cy : Nat → ClassId} {a z : Nat → Nat} (hI : xI xtb a) {S : xSt} {x1 : Int32} {x2 : Int32} {S' : xSt} {v' : Int32} (hf : f_X11_byTurns S x1 x2 = some (S', v')) (sz : Nat) : Met l yX11_byTurns (Cond.code yX11_byTurns cX11_byTurns 3 (some .int) :: xTB) ({ frames := 12, cells := 0, slots := 0, locals := 326 } : Room) (va_Pc [.ref (a 0), .int x1, .int x2] (xPre D cy xtb a z S sz)) (xQi D cy xtb a S' v' sz) 0 0 (xA xtb a sz) := by
  refine Met.ofW (cc := cX11_byTurns) (maxL := 3) (ret := (some .int)) (by decide) rfl ?_
  intro p e s m args below meth c s₁ B hml hv
  obtain ⟨rfl, hsz, hP, hK, hE⟩ := hv
  subst hsz
  have hl := lv_entry ([.ref (a 0), .int x1, .int x2]) (n := 3) (Nat.le_of_ble_eq_true rfl)
  rw [lg_entry_eq]
  generalize (lg_sl ([.ref (a 0), .int x1, .int x2]) ++ List.replicate (3 - (lg_sl ([.ref (a 0), .int x1, .int x2])).length) Slot.unset).toArray = ls at hl ⊢
  have hl : lv_has ls 3 [(0, .ref (a 0)), (1, .int x1), (2, .int x2)] := hl
  exact w_X11_byTurns_0 ⟨B.exec, B.bytes, hml, findClass_of_methodNamed B.named, fun w hw => atoms_spec (ws := Cond.code yX11_byTurns cX11_byTurns 3 (some .int) :: xTB) B.pre w (List.mem_cons_of_mem _ hw), hK, hI, hE⟩ B.returns B.notSynchronized hf (fun t0 e => e.symm) ⟨hP, va_S.rf⟩ (lv_sub hl [0, 1, 2] rfl)
set_option maxHeartbeats 4000000 in
set_option maxRecDepth 100000 in
theorem w_X11_turned_0 {x1 : Int32} (hM : xM p c cX11_turned m s args RX11 2 D cy xtb a z) (hr : meth.sig.returnType = (some .int)) (hlk : meth.locks = false) {S' : xSt} {v' : Int32} {S : xSt} {q : (xSt × Int32)} (h : f_X11_turned_0 x1 S = some q) (k0 : ∀ t0 : xSt × Int32, q = t0 → t0 = (S', v')) {H : Heap} {locs : List Loc} (hG : xG D cy xtb a S s H locs) {ls : Array Slot} (hl : lv_has ls 2 [(0, .ref (a 0)), (1, .int x1)]) : W p l e ({ frames := 2, cells := 0, slots := 0, locals := 49 } : Room) s m args below meth c H locs 0 0 (MQ below (xQi D cy xtb a S' v' s.heap.size) args s 0 0 (xA xtb a s.heap.size)) (F0 m 0 ls []) := by
  have hx := hM.1
  have hb := hM.2.1
  refine lv_iload_n hx hb dX11_turned_0 rfl (lv_at hl 1 rfl) ?_
  refine lv_iconst (v := (0 : Int32)) hx hb dX11_turned_1 (by decide) ?_
  refine lv_iconst (v := (5 : Int32)) hx hb dX11_turned_2 (by decide) ?_
  refine x_cSi (As := [.int x1, .int (0 : Int32), .int (5 : Int32)]) (rest := []) hM hG xml_X11_97 xwt_X11_within h (fun S' v e => c_X11_within hM.2.2.2.2.2.2.1 e _) ⟨Nat.le_of_ble_eq_true rfl, Nat.le_of_ble_eq_true rfl⟩ rfl hl.1 rfl (Nat.le_of_ble_eq_true rfl) dX11_turned_3 (fun S_1 v_2 H locs h hG => ?_)
  refine x_if_ne (tgt := 11) hM h dX11_turned_6 (by decide) (fun c_3 h => ?_) (fun c_3 h => ?_)
  · refine lv_aload_n hx hb dX11_turned_11 rfl (lv_at hl 0 rfl) ?_
    refine x_gr (r := 16) hM hG xfl_X11_28 xct_0 (by decide) rfl dX11_turned_12 ?_
    refine lv_iload_n hx hb dX11_turned_15 rfl (lv_at hl 1 rfl) ?_
    refine x_cVv (As := [.int x1]) (rest := []) hM hG xml_X11_264 xwi_X4_turnColumn xws_X4_turnColumn xih_hay.1 (by decide) rfl h (fun S' v e => c_X4_turnColumn hM.2.2.2.2.2.2.1 xih_hay e _) ⟨Nat.le_of_ble_eq_true rfl, Nat.le_of_ble_eq_true rfl⟩ rfl hl.1 rfl (Nat.le_of_ble_eq_true rfl) dX11_turned_16 (fun S_4 v_5 H locs h hG => ?_)
    refine lv_aload_n hx hb dX11_turned_19 rfl (lv_at hl 0 rfl) ?_
    refine x_gr (r := 16) hM hG xfl_X11_28 xct_0 (by decide) rfl dX11_turned_20 ?_
    refine x_gr (r := 16 + 8) hM hG xfl_X11_267 xih_hay.1 (by decide) rfl dX11_turned_23 ?_
    refine lv_iconst (v := (1 : Int32)) hx hb dX11_turned_26 (by decide) ?_
    refine lv_dup2_11 hx hb dX11_turned_27 rfl rfl ?_
    refine x_iald hM hG xih_hay.2.2.2.2.2.2.2.2.1 h dX11_turned_28 (fun v_6 h => ?_)
    refine lv_iconst (v := (1 : Int32)) hx hb dX11_turned_29 (by decide) ?_
    refine x_iadd hM h dX11_turned_30 (fun v_7 h => ?_)
    refine x_iast hM hG xih_hay.2.2.2.2.2.2.2.2.1 h dX11_turned_31 (fun S_8 H locs h hG => ?_)
    refine lv_aload_n hx hb dX11_turned_32 rfl (lv_at hl 0 rfl) ?_
    refine x_gr (r := 16) hM hG xfl_X11_28 xct_0 (by decide) rfl dX11_turned_33 ?_
    refine x_gr (r := 16 + 1) hM hG xfl_X11_140 xih_hay.1 (by decide) rfl dX11_turned_36 ?_
    refine lv_iload_n hx hb dX11_turned_39 rfl (lv_at hl 1 rfl) ?_
    refine x_iald hM hG xih_hay.2.1 h dX11_turned_40 (fun v_9 h => ?_)
    exact x_ri hM hG hr hlk rfl (k0 _ (Option.some.inj h).symm) dX11_turned_41
  · refine lv_iconst (v := (-1 : Int32)) hx hb dX11_turned_9 (by decide) ?_
    exact x_ri hM hG hr hlk rfl (k0 _ (Option.some.inj h).symm) dX11_turned_10
set_option maxHeartbeats 4000000 in
set_option maxRecDepth 100000 in
theorem c_X11_turned {l : Launch} {D : va_G} {cy : Nat → ClassId} {a z : Nat → Nat} (hI : xI xtb a) {S : xSt} {x1 : Int32} {S' : xSt} {v' : Int32} (hf : f_X11_turned S x1 = some (S', v')) (sz : Nat) : Met l yX11_turned (Cond.code yX11_turned cX11_turned 2 (some .int) :: xTB) ({ frames := 2, cells := 0, slots := 0, locals := 49 } : Room) (va_Pc [.ref (a 0), .int x1] (xPre D cy xtb a z S sz)) (xQi D cy xtb a S' v' sz) 0 0 (xA xtb a sz) := by
  refine Met.ofW (cc := cX11_turned) (maxL := 2) (ret := (some .int)) (by decide) rfl ?_
  intro p e s m args below meth c s₁ B hml hv
  obtain ⟨rfl, hsz, hP, hK, hE⟩ := hv
  subst hsz
  have hl := lv_entry ([.ref (a 0), .int x1]) (n := 2) (Nat.le_of_ble_eq_true rfl)
  rw [lg_entry_eq]
  generalize (lg_sl ([.ref (a 0), .int x1]) ++ List.replicate (2 - (lg_sl ([.ref (a 0), .int x1])).length) Slot.unset).toArray = ls at hl ⊢
  have hl : lv_has ls 2 [(0, .ref (a 0)), (1, .int x1)] := hl
  exact w_X11_turned_0 ⟨B.exec, B.bytes, hml, findClass_of_methodNamed B.named, fun w hw => atoms_spec (ws := Cond.code yX11_turned cX11_turned 2 (some .int) :: xTB) B.pre w (List.mem_cons_of_mem _ hw), hK, hI, hE⟩ B.returns B.notSynchronized hf (fun t0 e => e.symm) ⟨hP, va_S.rf⟩ (lv_sub hl [0, 1] rfl)
set_option maxHeartbeats 4000000 in
set_option maxRecDepth 100000 in
theorem w_X11_read_0 {x1 : Int32} (hM : xM p c cX11_read m s args RX11 3 D cy xtb a z) (hr : meth.sig.returnType = (some .int)) (hlk : meth.locks = false) {S' : xSt} {v' : Int32} {S : xSt} {q : (xSt × Int32)} (h : f_X11_read_0 x1 S = some q) (k0 : ∀ t0 : xSt × Int32, q = t0 → t0 = (S', v')) {H : Heap} {locs : List Loc} (hG : xG D cy xtb a S s H locs) {ls : Array Slot} (hl : lv_has ls 3 [(0, .ref (a 0)), (1, .int x1)]) : W p l e ({ frames := 1, cells := 0, slots := 0, locals := 26 } : Room) s m args below meth c H locs 0 0 (MQ below (xQi D cy xtb a S' v' s.heap.size) args s 0 0 (xA xtb a s.heap.size)) (F0 m 0 ls []) := by
  have hx := hM.1
  have hb := hM.2.1
  refine lv_aload_n hx hb dX11_read_0 rfl (lv_at hl 0 rfl) ?_
  refine x_gr (r := 16) hM hG xfl_X11_28 xct_0 (by decide) rfl dX11_read_1 ?_
  refine lv_iload_n hx hb dX11_read_4 rfl (lv_at hl 1 rfl) ?_
  refine x_cVi (As := [.int x1]) (rest := []) hM hG xml_X11_156 xwi_X4_has xws_X4_has xih_hay.1 (by decide) rfl h (fun S' v e => c_X4_has hM.2.2.2.2.2.2.1 xih_hay e _) ⟨Nat.le_of_ble_eq_true rfl, Nat.le_of_ble_eq_true rfl⟩ rfl hl.1 rfl (Nat.le_of_ble_eq_true rfl) dX11_read_5 (fun S_1 v_2 H locs h hG => ?_)
  refine x_if_ne (tgt := 13) hM h dX11_read_8 (by decide) (fun c_3 h => ?_) (fun c_3 h => ?_)
  · refine lv_aload_n hx hb dX11_read_13 rfl (lv_at hl 0 rfl) ?_
    refine x_gr (r := 16) hM hG xfl_X11_28 xct_0 (by decide) rfl dX11_read_14 ?_
    refine x_gr (r := 16 + 4) hM hG xfl_X11_168 xih_hay.1 (by decide) rfl dX11_read_17 ?_
    refine lv_iload_n hx hb dX11_read_20 rfl (lv_at hl 1 rfl) ?_
    refine x_iald hM hG xih_hay.2.2.2.2.1 h dX11_read_21 (fun v_4 h => ?_)
    refine lv_istore_n (lv' := [(2, .int v_4), (0, .ref (a 0)), (1, .int x1)]) hx hb dX11_read_22 rfl hl (by decide) rfl (fun ls hl => ?_)
    refine lv_aload_n hx hb dX11_read_23 rfl (lv_at hl 1 rfl) ?_
    refine x_gr (r := 16) hM hG xfl_X11_28 xct_0 (by decide) rfl dX11_read_24 ?_
    refine x_gr (r := 16 + 8) hM hG xfl_X11_267 xih_hay.1 (by decide) rfl dX11_read_27 ?_
    refine lv_iconst (v := (3 : Int32)) hx hb dX11_read_30 (by decide) ?_
    refine lv_dup2_11 hx hb dX11_read_31 rfl rfl ?_
    refine x_iald hM hG xih_hay.2.2.2.2.2.2.2.2.1 h dX11_read_32 (fun v_5 h => ?_)
    refine lv_iconst (v := (1 : Int32)) hx hb dX11_read_33 (by decide) ?_
    refine x_iadd hM h dX11_read_34 (fun v_6 h => ?_)
    refine x_iast hM hG xih_hay.2.2.2.2.2.2.2.2.1 h dX11_read_35 (fun S_7 H locs h hG => ?_)
    refine lv_aload_n hx hb dX11_read_36 rfl (lv_at hl 1 rfl) ?_
    refine x_gr (r := 16) hM hG xfl_X11_28 xct_0 (by decide) rfl dX11_read_37 ?_
    refine x_gr (r := 16 + 8) hM hG xfl_X11_267 xih_hay.1 (by decide) rfl dX11_read_40 ?_
    refine lv_iconst (v := (5 : Int32)) hx hb dX11_read_43 (by decide) ?_
    refine lv_aload_n hx hb dX11_read_44 rfl (lv_at hl 1 rfl) ?_
    refine x_gr (r := 16) hM hG xfl_X11_28 xct_0 (by decide) rfl dX11_read_45 ?_
    refine x_gr (r := 16 + 8) hM hG xfl_X11_267 xih_hay.1 (by decide) rfl dX11_read_48 ?_
    refine lv_iconst (v := (5 : Int32)) hx hb dX11_read_51 (by decide) ?_
    refine x_iald hM hG xih_hay.2.2.2.2.2.2.2.2.1 h dX11_read_52 (fun v_8 h => ?_)
    refine lv_iload_n hx hb dX11_read_53 rfl (lv_at hl 0 rfl) ?_
    refine x_mmax hM hl.1 xmm_X11_273 h (Nat.le_of_ble_eq_true rfl) (Nat.le_of_ble_eq_true rfl) dX11_read_54 (fun v_9 h => ?_)
    refine x_iast hM hG xih_hay.2.2.2.2.2.2.2.2.1 h dX11_read_57 (fun S_10 H locs h hG => ?_)
    refine lv_iload_n hx hb dX11_read_58 rfl (lv_at hl 0 rfl) ?_
    exact x_ri hM hG hr hlk rfl (k0 _ (Option.some.inj h).symm) dX11_read_59
  · refine lv_iconst (v := (-1 : Int32)) hx hb dX11_read_11 (by decide) ?_
    exact x_ri hM hG hr hlk rfl (k0 _ (Option.some.inj h).symm) dX11_read_12
set_option maxHeartbeats 4000000 in
set_option maxRecDepth 100000 in
theorem c_X11_read {l : Launch} {D : va_G} {cy : Nat → ClassId} {a z : Nat → Nat} (hI : xI xtb a) {S : xSt} {x1 : Int32} {S' : xSt} {v' : Int32} (hf : f_X11_read S x1 = some (S', v')) (sz : Nat) : Met l yX11_read (Cond.code yX11_read cX11_read 3 (some .int) :: xTB) ({ frames := 1, cells := 0, slots := 0, locals := 26 } : Room) (va_Pc [.ref (a 0), .int x1] (xPre D cy xtb a z S sz)) (xQi D cy xtb a S' v' sz) 0 0 (xA xtb a sz) := by
  refine Met.ofW (cc := cX11_read) (maxL := 3) (ret := (some .int)) (by decide) rfl ?_
  intro p e s m args below meth c s₁ B hml hv
  obtain ⟨rfl, hsz, hP, hK, hE⟩ := hv
  subst hsz
  have hl := lv_entry ([.ref (a 0), .int x1]) (n := 3) (Nat.le_of_ble_eq_true rfl)
  rw [lg_entry_eq]
  generalize (lg_sl ([.ref (a 0), .int x1]) ++ List.replicate (3 - (lg_sl ([.ref (a 0), .int x1])).length) Slot.unset).toArray = ls at hl ⊢
  have hl : lv_has ls 3 [(0, .ref (a 0)), (1, .int x1)] := hl
  exact w_X11_read_0 ⟨B.exec, B.bytes, hml, findClass_of_methodNamed B.named, fun w hw => atoms_spec (ws := Cond.code yX11_read cX11_read 3 (some .int) :: xTB) B.pre w (List.mem_cons_of_mem _ hw), hK, hI, hE⟩ B.returns B.notSynchronized hf (fun t0 e => e.symm) ⟨hP, va_S.rf⟩ (lv_sub hl [0, 1] rfl)
set_option maxHeartbeats 4000000 in
set_option maxRecDepth 100000 in
theorem w_X11_day_0 (hM : xM p c cX11_day m s args RX11 1 D cy xtb a z) (hr : meth.sig.returnType = (some .int)) (hlk : meth.locks = false) {S' : xSt} {v' : Int32} {S : xSt} {q : (xSt × Int32)} (h : f_X11_day_0 S = some q) (k0 : ∀ t0 : xSt × Int32, q = t0 → t0 = (S', v')) {H : Heap} {locs : List Loc} (hG : xG D cy xtb a S s H locs) {ls : Array Slot} (hl : lv_has ls 1 [(0, .ref (a 0))]) : W p l e ({ frames := 4, cells := 0, slots := 0, locals := 102 } : Room) s m args below meth c H locs 0 0 (MQ below (xQi D cy xtb a S' v' s.heap.size) args s 0 0 (xA xtb a s.heap.size)) (F0 m 0 ls []) := by
  have hx := hM.1
  have hb := hM.2.1
  refine lv_aload_n hx hb dX11_day_0 rfl (lv_at hl 0 rfl) ?_
  refine x_gr (r := 16) hM hG xfl_X11_28 xct_0 (by decide) rfl dX11_day_1 ?_
  refine x_cVv (As := []) (rest := []) hM hG xml_X11_278 xwi_X4_passDay xws_X4_passDay xih_hay.1 (by decide) rfl h (fun S' v e => c_X4_passDay hM.2.2.2.2.2.2.1 xih_hay e _) ⟨Nat.le_of_ble_eq_true rfl, Nat.le_of_ble_eq_true rfl⟩ rfl hl.1 rfl (Nat.le_of_ble_eq_true rfl) dX11_day_4 (fun S_1 v_2 H locs h hG => ?_)
  refine lv_aload_n hx hb dX11_day_7 rfl (lv_at hl 0 rfl) ?_
  refine x_gr (r := 16) hM hG xfl_X11_28 xct_0 (by decide) rfl dX11_day_8 ?_
  refine x_gr (r := 16 + 8) hM hG xfl_X11_267 xih_hay.1 (by decide) rfl dX11_day_11 ?_
  refine lv_iconst (v := (4 : Int32)) hx hb dX11_day_14 (by decide) ?_
  refine lv_dup2_11 hx hb dX11_day_15 rfl rfl ?_
  refine x_iald hM hG xih_hay.2.2.2.2.2.2.2.2.1 h dX11_day_16 (fun v_3 h => ?_)
  refine lv_iconst (v := (1 : Int32)) hx hb dX11_day_17 (by decide) ?_
  refine x_iadd hM h dX11_day_18 (fun v_4 h => ?_)
  refine x_iast hM hG xih_hay.2.2.2.2.2.2.2.2.1 h dX11_day_19 (fun S_5 H locs h hG => ?_)
  refine lv_aload_n hx hb dX11_day_20 rfl (lv_at hl 0 rfl) ?_
  refine x_gr (r := 16) hM hG xfl_X11_28 xct_0 (by decide) rfl dX11_day_21 ?_
  refine x_cVi (As := []) (rest := []) hM hG xml_X11_183 xwi_X4_glowing xws_X4_glowing xih_hay.1 (by decide) rfl h (fun S' v e => c_X4_glowing hM.2.2.2.2.2.2.1 xih_hay e _) ⟨Nat.le_of_ble_eq_true rfl, Nat.le_of_ble_eq_true rfl⟩ rfl hl.1 rfl (Nat.le_of_ble_eq_true rfl) dX11_day_24 (fun S_6 v_7 H locs h hG => ?_)
  exact x_ri hM hG hr hlk rfl (k0 _ (Option.some.inj h).symm) dX11_day_27
set_option maxHeartbeats 4000000 in
set_option maxRecDepth 100000 in
theorem c_X11_day {l : Launch} {D : va_G} {cy : Nat → ClassId} {a z : Nat → Nat} (hI : xI xtb a) {S : xSt} {S' : xSt} {v' : Int32} (hf : f_X11_day S = some (S', v')) (sz : Nat) : Met l yX11_day (Cond.code yX11_day cX11_day 1 (some .int) :: xTB) ({ frames := 4, cells := 0, slots := 0, locals := 102 } : Room) (va_Pc [.ref (a 0)] (xPre D cy xtb a z S sz)) (xQi D cy xtb a S' v' sz) 0 0 (xA xtb a sz) := by
  refine Met.ofW (cc := cX11_day) (maxL := 1) (ret := (some .int)) (by decide) rfl ?_
  intro p e s m args below meth c s₁ B hml hv
  obtain ⟨rfl, hsz, hP, hK, hE⟩ := hv
  subst hsz
  have hl := lv_entry ([.ref (a 0)]) (n := 1) (Nat.le_of_ble_eq_true rfl)
  rw [lg_entry_eq]
  generalize (lg_sl ([.ref (a 0)]) ++ List.replicate (1 - (lg_sl ([.ref (a 0)])).length) Slot.unset).toArray = ls at hl ⊢
  have hl : lv_has ls 1 [(0, .ref (a 0))] := hl
  exact w_X11_day_0 ⟨B.exec, B.bytes, hml, findClass_of_methodNamed B.named, fun w hw => atoms_spec (ws := Cond.code yX11_day cX11_day 1 (some .int) :: xTB) B.pre w (List.mem_cons_of_mem _ hw), hK, hI, hE⟩ B.returns B.notSynchronized hf (fun t0 e => e.symm) ⟨hP, va_S.rf⟩ (lv_sub hl [0] rfl)
set_option maxHeartbeats 4000000 in
set_option maxRecDepth 100000 in
theorem w_X11_led_0 {x1 : Int32} (hM : xM p c cX11_led m s args RX11 2 D cy xtb a z) (hr : meth.sig.returnType = (some .int)) (hlk : meth.locks = false) {S' : xSt} {v' : Int32} {S : xSt} {q : (xSt × Int32)} (h : f_X11_led_0 x1 S = some q) (k0 : ∀ t0 : xSt × Int32, q = t0 → t0 = (S', v')) {H : Heap} {locs : List Loc} (hG : xG D cy xtb a S s H locs) {ls : Array Slot} (hl : lv_has ls 2 [(0, .ref (a 0)), (1, .int x1)]) : W p l e ({ frames := 1, cells := 0, slots := 0, locals := 22 } : Room) s m args below meth c H locs 0 0 (MQ below (xQi D cy xtb a S' v' s.heap.size) args s 0 0 (xA xtb a s.heap.size)) (F0 m 0 ls []) := by
  have hx := hM.1
  have hb := hM.2.1
  refine lv_iload_n hx hb dX11_led_0 rfl (lv_at hl 1 rfl) ?_
  refine lv_iconst (v := (0 : Int32)) hx hb dX11_led_1 (by decide) ?_
  refine lv_iconst (v := (5 : Int32)) hx hb dX11_led_2 (by decide) ?_
  refine x_cSi (As := [.int x1, .int (0 : Int32), .int (5 : Int32)]) (rest := []) hM hG xml_X11_97 xwt_X11_within h (fun S' v e => c_X11_within hM.2.2.2.2.2.2.1 e _) ⟨Nat.le_of_ble_eq_true rfl, Nat.le_of_ble_eq_true rfl⟩ rfl hl.1 rfl (Nat.le_of_ble_eq_true rfl) dX11_led_3 (fun S_1 v_2 H locs h hG => ?_)
  refine x_if_eq (tgt := 21) hM h dX11_led_6 (by decide) (fun c_3 h => ?_) (fun c_3 h => ?_)
  · refine lv_iconst (v := (-1 : Int32)) hx hb dX11_led_21 (by decide) ?_
    exact x_ri hM hG hr hlk rfl (k0 _ (Option.some.inj h).symm) dX11_led_22
  · refine lv_aload_n hx hb dX11_led_9 rfl (lv_at hl 0 rfl) ?_
    refine x_gr (r := 16) hM hG xfl_X11_28 xct_0 (by decide) rfl dX11_led_10 ?_
    refine x_gr (r := 16 + 8) hM hG xfl_X11_267 xih_hay.1 (by decide) rfl dX11_led_13 ?_
    refine lv_iload_n hx hb dX11_led_16 rfl (lv_at hl 1 rfl) ?_
    refine x_iald hM hG xih_hay.2.2.2.2.2.2.2.2.1 h dX11_led_17 (fun v_4 h => ?_)
    refine lv_goto (tgt := 22) hx hb dX11_led_18 (by decide) ?_
    exact x_ri hM hG hr hlk rfl (k0 _ (Option.some.inj h).symm) dX11_led_22
set_option maxHeartbeats 4000000 in
set_option maxRecDepth 100000 in
theorem c_X11_led {l : Launch} {D : va_G} {cy : Nat → ClassId} {a z : Nat → Nat} (hI : xI xtb a) {S : xSt} {x1 : Int32} {S' : xSt} {v' : Int32} (hf : f_X11_led S x1 = some (S', v')) (sz : Nat) : Met l yX11_led (Cond.code yX11_led cX11_led 2 (some .int) :: xTB) ({ frames := 1, cells := 0, slots := 0, locals := 22 } : Room) (va_Pc [.ref (a 0), .int x1] (xPre D cy xtb a z S sz)) (xQi D cy xtb a S' v' sz) 0 0 (xA xtb a sz) := by
  refine Met.ofW (cc := cX11_led) (maxL := 2) (ret := (some .int)) (by decide) rfl ?_
  intro p e s m args below meth c s₁ B hml hv
  obtain ⟨rfl, hsz, hP, hK, hE⟩ := hv
  subst hsz
  have hl := lv_entry ([.ref (a 0), .int x1]) (n := 2) (Nat.le_of_ble_eq_true rfl)
  rw [lg_entry_eq]
  generalize (lg_sl ([.ref (a 0), .int x1]) ++ List.replicate (2 - (lg_sl ([.ref (a 0), .int x1])).length) Slot.unset).toArray = ls at hl ⊢
  have hl : lv_has ls 2 [(0, .ref (a 0)), (1, .int x1)] := hl
  exact w_X11_led_0 ⟨B.exec, B.bytes, hml, findClass_of_methodNamed B.named, fun w hw => atoms_spec (ws := Cond.code yX11_led cX11_led 2 (some .int) :: xTB) B.pre w (List.mem_cons_of_mem _ hw), hK, hI, hE⟩ B.returns B.notSynchronized hf (fun t0 e => e.symm) ⟨hP, va_S.rf⟩ (lv_sub hl [0, 1] rfl)
set_option maxHeartbeats 4000000 in
set_option maxRecDepth 100000 in
theorem w_X11_image_0 (hM : xM p c cX11_image m s args RX11 1 D cy xtb a z) (hr : meth.sig.returnType = (some .int)) (hlk : meth.locks = false) {S' : xSt} {v' : Int32} {S : xSt} {q : (xSt × Int32)} (h : f_X11_image_0 S = some q) (k0 : ∀ t0 : xSt × Int32, q = t0 → t0 = (S', v')) {H : Heap} {locs : List Loc} (hG : xG D cy xtb a S s H locs) {ls : Array Slot} (hl : lv_has ls 1 [(0, .ref (a 0))]) : W p l e ({ frames := 2, cells := 0, slots := 0, locals := 47 } : Room) s m args below meth c H locs 0 0 (MQ below (xQi D cy xtb a S' v' s.heap.size) args s 0 0 (xA xtb a s.heap.size)) (F0 m 0 ls []) := by
  have hx := hM.1
  have hb := hM.2.1
  refine lv_aload_n hx hb dX11_image_0 rfl (lv_at hl 0 rfl) ?_
  refine x_gr (r := 26) hM hG xfl_X11_32 xct_0 (by decide) rfl dX11_image_1 ?_
  refine lv_aload_n hx hb dX11_image_4 rfl (lv_at hl 0 rfl) ?_
  refine x_gr (r := 16) hM hG xfl_X11_28 xct_0 (by decide) rfl dX11_image_5 ?_
  refine x_cVv (As := [.ref (a 16)]) (rest := []) hM hG xml_X11_281 xwi_X4_takeStack xws_X4_takeStack xih_image.1 (by decide) rfl h (fun S' v e => c_X4_takeStack hM.2.2.2.2.2.2.1 xih_image xih_hay e _) ⟨Nat.le_of_ble_eq_true rfl, Nat.le_of_ble_eq_true rfl⟩ rfl hl.1 rfl (Nat.le_of_ble_eq_true rfl) dX11_image_8 (fun S_1 v_2 H locs h hG => ?_)
  refine lv_aload_n hx hb dX11_image_11 rfl (lv_at hl 0 rfl) ?_
  refine lv_iconst (v := (1 : Int32)) hx hb dX11_image_12 (by decide) ?_
  refine x_pi hM hG xfl_X11_284 xfp_X11_4 xct_0 (by decide) rfl rfl rfl h dX11_image_13 (fun S_3 H locs h hG => ?_)
  refine lv_aload_n hx hb dX11_image_16 rfl (lv_at hl 0 rfl) ?_
  refine x_gr (r := 16) hM hG xfl_X11_28 xct_0 (by decide) rfl dX11_image_17 ?_
  refine x_gr (r := 16 + 8) hM hG xfl_X11_267 xih_hay.1 (by decide) rfl dX11_image_20 ?_
  refine lv_iconst (v := (4 : Int32)) hx hb dX11_image_23 (by decide) ?_
  refine x_iald hM hG xih_hay.2.2.2.2.2.2.2.2.1 h dX11_image_24 (fun v_4 h => ?_)
  exact x_ri hM hG hr hlk rfl (k0 _ (Option.some.inj h).symm) dX11_image_25
set_option maxHeartbeats 4000000 in
set_option maxRecDepth 100000 in
theorem c_X11_image {l : Launch} {D : va_G} {cy : Nat → ClassId} {a z : Nat → Nat} (hI : xI xtb a) {S : xSt} {S' : xSt} {v' : Int32} (hf : f_X11_image S = some (S', v')) (sz : Nat) : Met l yX11_image (Cond.code yX11_image cX11_image 1 (some .int) :: xTB) ({ frames := 2, cells := 0, slots := 0, locals := 47 } : Room) (va_Pc [.ref (a 0)] (xPre D cy xtb a z S sz)) (xQi D cy xtb a S' v' sz) 0 0 (xA xtb a sz) := by
  refine Met.ofW (cc := cX11_image) (maxL := 1) (ret := (some .int)) (by decide) rfl ?_
  intro p e s m args below meth c s₁ B hml hv
  obtain ⟨rfl, hsz, hP, hK, hE⟩ := hv
  subst hsz
  have hl := lv_entry ([.ref (a 0)]) (n := 1) (Nat.le_of_ble_eq_true rfl)
  rw [lg_entry_eq]
  generalize (lg_sl ([.ref (a 0)]) ++ List.replicate (1 - (lg_sl ([.ref (a 0)])).length) Slot.unset).toArray = ls at hl ⊢
  have hl : lv_has ls 1 [(0, .ref (a 0))] := hl
  exact w_X11_image_0 ⟨B.exec, B.bytes, hml, findClass_of_methodNamed B.named, fun w hw => atoms_spec (ws := Cond.code yX11_image cX11_image 1 (some .int) :: xTB) B.pre w (List.mem_cons_of_mem _ hw), hK, hI, hE⟩ B.returns B.notSynchronized hf (fun t0 e => e.symm) ⟨hP, va_S.rf⟩ (lv_sub hl [0] rfl)
set_option maxHeartbeats 4000000 in
set_option maxRecDepth 100000 in
theorem w_X11_back_0 (hM : xM p c cX11_back m s args RX11 1 D cy xtb a z) (hr : meth.sig.returnType = (some .int)) (hlk : meth.locks = false) {S' : xSt} {v' : Int32} {S : xSt} {q : (xSt × Int32)} (h : f_X11_back_0 S = some q) (k0 : ∀ t0 : xSt × Int32, q = t0 → t0 = (S', v')) {H : Heap} {locs : List Loc} (hG : xG D cy xtb a S s H locs) {ls : Array Slot} (hl : lv_has ls 1 [(0, .ref (a 0))]) : W p l e ({ frames := 2, cells := 0, slots := 0, locals := 47 } : Room) s m args below meth c H locs 0 0 (MQ below (xQi D cy xtb a S' v' s.heap.size) args s 0 0 (xA xtb a s.heap.size)) (F0 m 0 ls []) := by
  have hx := hM.1
  have hb := hM.2.1
  refine lv_aload_n hx hb dX11_back_0 rfl (lv_at hl 0 rfl) ?_
  refine x_gi hM hG xfl_X11_284 xct_0 (by decide) rfl h dX11_back_1 (fun v_1 h => ?_)
  refine x_if_ne (tgt := 10) hM h dX11_back_4 (by decide) (fun c_2 h => ?_) (fun c_2 h => ?_)
  · refine lv_aload_n hx hb dX11_back_10 rfl (lv_at hl 0 rfl) ?_
    refine x_gr (r := 16) hM hG xfl_X11_28 xct_0 (by decide) rfl dX11_back_11 ?_
    refine lv_aload_n hx hb dX11_back_14 rfl (lv_at hl 0 rfl) ?_
    refine x_gr (r := 26) hM hG xfl_X11_32 xct_0 (by decide) rfl dX11_back_15 ?_
    refine x_cVv (As := [.ref (a 26)]) (rest := []) hM hG xml_X11_281 xwi_X4_takeStack xws_X4_takeStack xih_hay.1 (by decide) rfl h (fun S' v e => c_X4_takeStack hM.2.2.2.2.2.2.1 xih_hay xih_image e _) ⟨Nat.le_of_ble_eq_true rfl, Nat.le_of_ble_eq_true rfl⟩ rfl hl.1 rfl (Nat.le_of_ble_eq_true rfl) dX11_back_18 (fun S_3 v_4 H locs h hG => ?_)
    refine lv_aload_n hx hb dX11_back_21 rfl (lv_at hl 0 rfl) ?_
    refine x_gr (r := 16) hM hG xfl_X11_28 xct_0 (by decide) rfl dX11_back_22 ?_
    refine x_gr (r := 16 + 8) hM hG xfl_X11_267 xih_hay.1 (by decide) rfl dX11_back_25 ?_
    refine lv_iconst (v := (4 : Int32)) hx hb dX11_back_28 (by decide) ?_
    refine x_iald hM hG xih_hay.2.2.2.2.2.2.2.2.1 h dX11_back_29 (fun v_5 h => ?_)
    exact x_ri hM hG hr hlk rfl (k0 _ (Option.some.inj h).symm) dX11_back_30
  · refine lv_bipush (v := (-5 : Int32)) hx hb dX11_back_7 (by decide) ?_
    exact x_ri hM hG hr hlk rfl (k0 _ (Option.some.inj h).symm) dX11_back_9
set_option maxHeartbeats 4000000 in
set_option maxRecDepth 100000 in
theorem c_X11_back {l : Launch} {D : va_G} {cy : Nat → ClassId} {a z : Nat → Nat} (hI : xI xtb a) {S : xSt} {S' : xSt} {v' : Int32} (hf : f_X11_back S = some (S', v')) (sz : Nat) : Met l yX11_back (Cond.code yX11_back cX11_back 1 (some .int) :: xTB) ({ frames := 2, cells := 0, slots := 0, locals := 47 } : Room) (va_Pc [.ref (a 0)] (xPre D cy xtb a z S sz)) (xQi D cy xtb a S' v' sz) 0 0 (xA xtb a sz) := by
  refine Met.ofW (cc := cX11_back) (maxL := 1) (ret := (some .int)) (by decide) rfl ?_
  intro p e s m args below meth c s₁ B hml hv
  obtain ⟨rfl, hsz, hP, hK, hE⟩ := hv
  subst hsz
  have hl := lv_entry ([.ref (a 0)]) (n := 1) (Nat.le_of_ble_eq_true rfl)
  rw [lg_entry_eq]
  generalize (lg_sl ([.ref (a 0)]) ++ List.replicate (1 - (lg_sl ([.ref (a 0)])).length) Slot.unset).toArray = ls at hl ⊢
  have hl : lv_has ls 1 [(0, .ref (a 0))] := hl
  exact w_X11_back_0 ⟨B.exec, B.bytes, hml, findClass_of_methodNamed B.named, fun w hw => atoms_spec (ws := Cond.code yX11_back cX11_back 1 (some .int) :: xTB) B.pre w (List.mem_cons_of_mem _ hw), hK, hI, hE⟩ B.returns B.notSynchronized hf (fun t0 e => e.symm) ⟨hP, va_S.rf⟩ (lv_sub hl [0] rfl)
set_option maxHeartbeats 4000000 in
set_option maxRecDepth 100000 in
theorem w_X11_row_0 {x1 : Int32} {x2 : Int32} {x3 : Int32} (hM : xM p c cX11_row m s args RX11 4 D cy xtb a z) (hr : meth.sig.returnType = (some .int)) (hlk : meth.locks = false) {S' : xSt} {v' : Int32} {S : xSt} {q : (xSt × Int32)} (h : f_X11_row_0 x1 x2 x3 S = some q) (k0 : ∀ t0 : xSt × Int32, q = t0 → t0 = (S', v')) {H : Heap} {locs : List Loc} (hG : xG D cy xtb a S s H locs) {ls : Array Slot} (hl : lv_has ls 4 [(0, .ref (a 0)), (1, .int x1), (2, .int x2), (3, .int x3)]) : W p l e ({ frames := 2, cells := 0, slots := 0, locals := 42 } : Room) s m args below meth c H locs 0 0 (MQ below (xQi D cy xtb a S' v' s.heap.size) args s 0 0 (xA xtb a s.heap.size)) (F0 m 0 ls []) := by
  have hx := hM.1
  have hb := hM.2.1
  refine lv_iload_n hx hb dX11_row_0 rfl (lv_at hl 1 rfl) ?_
  refine x_cSi (As := [.int x1]) (rest := []) hM hG xml_X11_105 xwt_X11_isShelf h (fun S' v e => c_X11_isShelf hM.2.2.2.2.2.2.1 e _) ⟨Nat.le_of_ble_eq_true rfl, Nat.le_of_ble_eq_true rfl⟩ rfl hl.1 rfl (Nat.le_of_ble_eq_true rfl) dX11_row_1 (fun S_1 v_2 H locs h hG => ?_)
  refine x_if_eq (tgt := 22) hM h dX11_row_4 (by decide) (fun c_3 h => ?_) (fun c_3 h => ?_)
  · refine lv_iconst (v := (-1 : Int32)) hx hb dX11_row_22 (by decide) ?_
    exact x_ri hM hG hr hlk rfl (k0 _ (Option.some.inj h).symm) dX11_row_23
  · refine lv_iload_n hx hb dX11_row_7 rfl (lv_at hl 2 rfl) ?_
    refine lv_iconst (v := (0 : Int32)) hx hb dX11_row_8 (by decide) ?_
    refine lv_iconst (v := (4 : Int32)) hx hb dX11_row_9 (by decide) ?_
    refine x_cSi (As := [.int x2, .int (0 : Int32), .int (4 : Int32)]) (rest := []) hM hG xml_X11_97 xwt_X11_within h (fun S' v e => c_X11_within hM.2.2.2.2.2.2.1 e _) ⟨Nat.le_of_ble_eq_true rfl, Nat.le_of_ble_eq_true rfl⟩ rfl hl.1 rfl (Nat.le_of_ble_eq_true rfl) dX11_row_10 (fun S_4 v_5 H locs h hG => ?_)
    refine x_if_eq (tgt := 22) hM h dX11_row_13 (by decide) (fun c_6 h => ?_) (fun c_6 h => ?_)
    · refine lv_iconst (v := (-1 : Int32)) hx hb dX11_row_22 (by decide) ?_
      exact x_ri hM hG hr hlk rfl (k0 _ (Option.some.inj h).symm) dX11_row_23
    · refine lv_iload_n hx hb dX11_row_16 rfl (lv_at hl 3 rfl) ?_
      refine lv_bipush (v := (60 : Int32)) hx hb dX11_row_17 (by decide) ?_
      refine x_icmp_le (tgt := 24) hM h dX11_row_19 (by decide) (fun c_7 h => ?_) (fun c_7 h => ?_)
      · refine lv_iload_n hx hb dX11_row_24 rfl (lv_at hl 3 rfl) ?_
        refine x_if_ge (tgt := 31) hM h dX11_row_25 (by decide) (fun c_8 h => ?_) (fun c_8 h => ?_)
        · refine lv_aload_n hx hb dX11_row_31 rfl (lv_at hl 0 rfl) ?_
          refine x_gr (r := 1) hM hG xfl_X11_92 xct_0 (by decide) rfl dX11_row_32 ?_
          refine lv_iload_n hx hb dX11_row_35 rfl (lv_at hl 1 rfl) ?_
          refine x_aald5 hM hG xct_1 h dX11_row_36 (fun hi_9 h => ?_)
          refine lv_iload_n hx hb dX11_row_37 rfl (lv_at hl 2 rfl) ?_
          refine lv_iload_n hx hb dX11_row_38 rfl (lv_at hl 3 rfl) ?_
          refine x_cVv (As := [.int x2, .int x3]) (rest := []) hM hG xml_X11_317 xwi_X8_holdRow xws_X8_holdRow (xih_shelf hi_9).1 (by decide) rfl h (fun S' v e => c_X8_holdRow hM.2.2.2.2.2.2.1 (xih_shelf hi_9) e _) ⟨Nat.le_of_ble_eq_true rfl, Nat.le_of_ble_eq_true rfl⟩ rfl hl.1 rfl (Nat.le_of_ble_eq_true rfl) dX11_row_39 (fun S_10 v_11 H locs h hG => ?_)
          refine lv_iconst (v := (1 : Int32)) hx hb dX11_row_42 (by decide) ?_
          exact x_ri hM hG hr hlk rfl (k0 _ (Option.some.inj h).symm) dX11_row_43
        · refine lv_bipush (v := (-14 : Int32)) hx hb dX11_row_28 (by decide) ?_
          exact x_ri hM hG hr hlk rfl (k0 _ (Option.some.inj h).symm) dX11_row_30
      · refine lv_iconst (v := (-1 : Int32)) hx hb dX11_row_22 (by decide) ?_
        exact x_ri hM hG hr hlk rfl (k0 _ (Option.some.inj h).symm) dX11_row_23
set_option maxHeartbeats 4000000 in
set_option maxRecDepth 100000 in
theorem c_X11_row {l : Launch} {D : va_G} {cy : Nat → ClassId} {a z : Nat → Nat} (hI : xI xtb a) {S : xSt} {x1 : Int32} {x2 : Int32} {x3 : Int32} {S' : xSt} {v' : Int32} (hf : f_X11_row S x1 x2 x3 = some (S', v')) (sz : Nat) : Met l yX11_row (Cond.code yX11_row cX11_row 4 (some .int) :: xTB) ({ frames := 2, cells := 0, slots := 0, locals := 42 } : Room) (va_Pc [.ref (a 0), .int x1, .int x2, .int x3] (xPre D cy xtb a z S sz)) (xQi D cy xtb a S' v' sz) 0 0 (xA xtb a sz) := by
  refine Met.ofW (cc := cX11_row) (maxL := 4) (ret := (some .int)) (by decide) rfl ?_
  intro p e s m args below meth c s₁ B hml hv
  obtain ⟨rfl, hsz, hP, hK, hE⟩ := hv
  subst hsz
  have hl := lv_entry ([.ref (a 0), .int x1, .int x2, .int x3]) (n := 4) (Nat.le_of_ble_eq_true rfl)
  rw [lg_entry_eq]
  generalize (lg_sl ([.ref (a 0), .int x1, .int x2, .int x3]) ++ List.replicate (4 - (lg_sl ([.ref (a 0), .int x1, .int x2, .int x3])).length) Slot.unset).toArray = ls at hl ⊢
  have hl : lv_has ls 4 [(0, .ref (a 0)), (1, .int x1), (2, .int x2), (3, .int x3)] := hl
  exact w_X11_row_0 ⟨B.exec, B.bytes, hml, findClass_of_methodNamed B.named, fun w hw => atoms_spec (ws := Cond.code yX11_row cX11_row 4 (some .int) :: xTB) B.pre w (List.mem_cons_of_mem _ hw), hK, hI, hE⟩ B.returns B.notSynchronized hf (fun t0 e => e.symm) ⟨hP, va_S.rf⟩ (lv_sub hl [0, 1, 2, 3] rfl)
set_option maxHeartbeats 4000000 in
set_option maxRecDepth 100000 in
theorem w_X11_put_37 {x5 : Int32} (hM : xM p c cX11_put m s args RX11 6 D cy xtb a z) (hr : meth.sig.returnType = (some .int)) (hlk : meth.locks = false) {S' : xSt} {v' : Int32} {S : xSt} {q : (xSt × Int32)} (h : f_X11_put_37 x5 S = some q) (k0 : ∀ t0 : xSt × Int32, q = t0 → t0 = (S', v')) {H : Heap} {locs : List Loc} (hG : xG D cy xtb a S s H locs) {ls : Array Slot} (hl : lv_has ls 6 [(5, .int x5)]) : W p l e ({ frames := 2, cells := 0, slots := 0, locals := 42 } : Room) s m args below meth c H locs 0 0 (MQ below (xQi D cy xtb a S' v' s.heap.size) args s 0 0 (xA xtb a s.heap.size)) (F0 m 37 ls []) := by
  have hx := hM.1
  have hb := hM.2.1
  refine lv_iload hx hb dX11_put_37 (lv_at hl 0 rfl) ?_
  refine x_if_ne (tgt := 46) hM h dX11_put_39 (by decide) (fun c_1 h => ?_) (fun c_1 h => ?_)
  · refine lv_iload hx hb dX11_put_46 (lv_at hl 0 rfl) ?_
    exact x_ri hM hG hr hlk rfl (k0 _ (Option.some.inj h).symm) dX11_put_48
  · refine lv_iconst (v := (1 : Int32)) hx hb dX11_put_42 (by decide) ?_
    refine lv_goto (tgt := 48) hx hb dX11_put_43 (by decide) ?_
    exact x_ri hM hG hr hlk rfl (k0 _ (Option.some.inj h).symm) dX11_put_48
set_option maxHeartbeats 4000000 in
set_option maxRecDepth 100000 in
theorem w_X11_put_0 {x1 : Int32} {x2 : Int32} {x3 : Int64} (hM : xM p c cX11_put m s args RX11 6 D cy xtb a z) (hr : meth.sig.returnType = (some .int)) (hlk : meth.locks = false) {S' : xSt} {v' : Int32} {S : xSt} {q : (xSt × Int32)} (h : f_X11_put_0 x1 x2 x3 S = some q) (k0 : ∀ t0 : xSt × Int32, q = t0 → t0 = (S', v')) {H : Heap} {locs : List Loc} (hG : xG D cy xtb a S s H locs) {ls : Array Slot} (hl : lv_has ls 6 [(0, .ref (a 0)), (1, .int x1), (2, .int x2), (3, .long x3)]) : W p l e ({ frames := 2, cells := 0, slots := 0, locals := 42 } : Room) s m args below meth c H locs 0 0 (MQ below (xQi D cy xtb a S' v' s.heap.size) args s 0 0 (xA xtb a s.heap.size)) (F0 m 0 ls []) := by
  have hx := hM.1
  have hb := hM.2.1
  refine lv_iload_n hx hb dX11_put_0 rfl (lv_at hl 1 rfl) ?_
  refine x_cSi (As := [.int x1]) (rest := []) hM hG xml_X11_105 xwt_X11_isShelf h (fun S' v e => c_X11_isShelf hM.2.2.2.2.2.2.1 e _) ⟨Nat.le_of_ble_eq_true rfl, Nat.le_of_ble_eq_true rfl⟩ rfl hl.1 rfl (Nat.le_of_ble_eq_true rfl) dX11_put_1 (fun S_1 v_2 H locs h hG => ?_)
  refine x_if_ne (tgt := 9) hM h dX11_put_4 (by decide) (fun c_3 h => ?_) (fun c_3 h => ?_)
  · refine lv_aload_n hx hb dX11_put_9 rfl (lv_at hl 0 rfl) ?_
    refine x_gr (r := 1) hM hG xfl_X11_92 xct_0 (by decide) rfl dX11_put_10 ?_
    refine lv_iload_n hx hb dX11_put_13 rfl (lv_at hl 1 rfl) ?_
    refine x_aald5 hM hG xct_1 h dX11_put_14 (fun hi_4 h => ?_)
    refine lv_iload_n hx hb dX11_put_15 rfl (lv_at hl 2 rfl) ?_
    refine x_cVi (As := [.int x2]) (rest := []) hM hG xml_X11_320 xwi_X8_refusalOfPlace xws_X8_refusalOfPlace (xih_shelf hi_4).1 (by decide) rfl h (fun S' v e => c_X8_refusalOfPlace hM.2.2.2.2.2.2.1 (xih_shelf hi_4) e _) ⟨Nat.le_of_ble_eq_true rfl, Nat.le_of_ble_eq_true rfl⟩ rfl hl.1 rfl (Nat.le_of_ble_eq_true rfl) dX11_put_16 (fun S_5 v_6 H locs h hG => ?_)
    refine lv_istore (lv' := [(5, .int v_6), (0, .ref (a 0)), (1, .int x1), (2, .int x2), (3, .long x3)]) hx hb dX11_put_19 hl (by decide) rfl (fun ls hl => ?_)
    refine lv_iload hx hb dX11_put_21 (lv_at hl 0 rfl) ?_
    refine x_if_ne (tgt := 37) hM h dX11_put_23 (by decide) (fun c_7 h => ?_) (fun c_7 h => ?_)
    · exact w_X11_put_37 hM hr hlk h (fun t0 e => k0 t0 e) hG (lv_sub hl [0] rfl)
    · refine lv_aload_n hx hb dX11_put_26 rfl (lv_at hl 1 rfl) ?_
      refine x_gr (r := 1) hM hG xfl_X11_92 xct_0 (by decide) rfl dX11_put_27 ?_
      refine lv_iload_n hx hb dX11_put_30 rfl (lv_at hl 2 rfl) ?_
      refine x_aald5 hM hG xct_1 h dX11_put_31 (fun hi_8 h => ?_)
      refine lv_iload_n hx hb dX11_put_32 rfl (lv_at hl 3 rfl) ?_
      refine lv_lload_n hx hb dX11_put_33 rfl (lv_at hl 4 rfl) ?_
      refine x_cVv (As := [.int x2, .long x3]) (rest := []) hM hG xml_X11_323 xwi_X8_store xws_X8_store (xih_shelf hi_8).1 (by decide) rfl h (fun S' v e => c_X8_store hM.2.2.2.2.2.2.1 (xih_shelf hi_8) e _) ⟨Nat.le_of_ble_eq_true rfl, Nat.le_of_ble_eq_true rfl⟩ rfl hl.1 rfl (Nat.le_of_ble_eq_true rfl) dX11_put_34 (fun S_9 v_10 H locs h hG => ?_)
      exact w_X11_put_37 hM hr hlk h (fun t0 e => k0 t0 e) hG (lv_sub hl [0] rfl)
  · refine lv_iconst (v := (-1 : Int32)) hx hb dX11_put_7 (by decide) ?_
    exact x_ri hM hG hr hlk rfl (k0 _ (Option.some.inj h).symm) dX11_put_8
set_option maxHeartbeats 4000000 in
set_option maxRecDepth 100000 in
theorem c_X11_put {l : Launch} {D : va_G} {cy : Nat → ClassId} {a z : Nat → Nat} (hI : xI xtb a) {S : xSt} {x1 : Int32} {x2 : Int32} {x3 : Int64} {S' : xSt} {v' : Int32} (hf : f_X11_put S x1 x2 x3 = some (S', v')) (sz : Nat) : Met l yX11_put (Cond.code yX11_put cX11_put 6 (some .int) :: xTB) ({ frames := 2, cells := 0, slots := 0, locals := 42 } : Room) (va_Pc [.ref (a 0), .int x1, .int x2, .long x3] (xPre D cy xtb a z S sz)) (xQi D cy xtb a S' v' sz) 0 0 (xA xtb a sz) := by
  refine Met.ofW (cc := cX11_put) (maxL := 6) (ret := (some .int)) (by decide) rfl ?_
  intro p e s m args below meth c s₁ B hml hv
  obtain ⟨rfl, hsz, hP, hK, hE⟩ := hv
  subst hsz
  have hl := lv_entry ([.ref (a 0), .int x1, .int x2, .long x3]) (n := 6) (Nat.le_of_ble_eq_true rfl)
  rw [lg_entry_eq]
  generalize (lg_sl ([.ref (a 0), .int x1, .int x2, .long x3]) ++ List.replicate (6 - (lg_sl ([.ref (a 0), .int x1, .int x2, .long x3])).length) Slot.unset).toArray = ls at hl ⊢
  have hl : lv_has ls 6 [(0, .ref (a 0)), (1, .int x1), (2, .int x2), (3, .long x3)] := hl
  exact w_X11_put_0 ⟨B.exec, B.bytes, hml, findClass_of_methodNamed B.named, fun w hw => atoms_spec (ws := Cond.code yX11_put cX11_put 6 (some .int) :: xTB) B.pre w (List.mem_cons_of_mem _ hw), hK, hI, hE⟩ B.returns B.notSynchronized hf (fun t0 e => e.symm) ⟨hP, va_S.rf⟩ (lv_sub hl [0, 1, 2, 3] rfl)
set_option maxHeartbeats 4000000 in
set_option maxRecDepth 100000 in
theorem w_X11_count_0 {x1 : Int32} (hM : xM p c cX11_count m s args RX11 2 D cy xtb a z) (hr : meth.sig.returnType = (some .int)) (hlk : meth.locks = false) {S' : xSt} {v' : Int32} {S : xSt} {q : (xSt × Int32)} (h : f_X11_count_0 x1 S = some q) (k0 : ∀ t0 : xSt × Int32, q = t0 → t0 = (S', v')) {H : Heap} {locs : List Loc} (hG : xG D cy xtb a S s H locs) {ls : Array Slot} (hl : lv_has ls 2 [(0, .ref (a 0)), (1, .int x1)]) : W p l e ({ frames := 2, cells := 0, slots := 0, locals := 43 } : Room) s m args below meth c H locs 0 0 (MQ below (xQi D cy xtb a S' v' s.heap.size) args s 0 0 (xA xtb a s.heap.size)) (F0 m 0 ls []) := by
  have hx := hM.1
  have hb := hM.2.1
  refine lv_iload_n hx hb dX11_count_0 rfl (lv_at hl 1 rfl) ?_
  by_cases c_1 : x1 = (0 : Int32)
  · have h := (if_pos c_1).symm.trans h
    refine lv_tableIn (off := 39) (tgt := 40) hx hb dX11_count_1 (by rw [c_1]; decide) (by rw [c_1]; decide) (by rw [c_1]; rfl) (by decide) ?_
    refine lv_aload_n hx hb dX11_count_40 rfl (lv_at hl 0 rfl) ?_
    refine x_gr (r := 16) hM hG xfl_X11_28 xct_0 (by decide) rfl dX11_count_41 ?_
    refine x_cVi (As := []) (rest := []) hM hG xml_X11_359 xwi_X4_cells xws_X4_cells xih_hay.1 (by decide) rfl h (fun S' v e => c_X4_cells hM.2.2.2.2.2.2.1 xih_hay e _) ⟨Nat.le_of_ble_eq_true rfl, Nat.le_of_ble_eq_true rfl⟩ rfl hl.1 rfl (Nat.le_of_ble_eq_true rfl) dX11_count_44 (fun S_2 v_3 H locs h hG => ?_)
    exact x_ri hM hG hr hlk rfl (k0 _ (Option.some.inj h).symm) dX11_count_47
  · have h := (if_neg c_1).symm.trans h
    by_cases c_4 : x1 = (1 : Int32)
    · have h := (if_pos c_4).symm.trans h
      refine lv_tableIn (off := 47) (tgt := 48) hx hb dX11_count_1 (by rw [c_4]; decide) (by rw [c_4]; decide) (by rw [c_4]; rfl) (by decide) ?_
      refine lv_aload_n hx hb dX11_count_48 rfl (lv_at hl 0 rfl) ?_
      refine x_gr (r := 16) hM hG xfl_X11_28 xct_0 (by decide) rfl dX11_count_49 ?_
      refine x_cVi (As := []) (rest := []) hM hG xml_X11_183 xwi_X4_glowing xws_X4_glowing xih_hay.1 (by decide) rfl h (fun S' v e => c_X4_glowing hM.2.2.2.2.2.2.1 xih_hay e _) ⟨Nat.le_of_ble_eq_true rfl, Nat.le_of_ble_eq_true rfl⟩ rfl hl.1 rfl (Nat.le_of_ble_eq_true rfl) dX11_count_52 (fun S_5 v_6 H locs h hG => ?_)
      exact x_ri hM hG hr hlk rfl (k0 _ (Option.some.inj h).symm) dX11_count_55
    · have h := (if_neg c_4).symm.trans h
      by_cases c_7 : x1 = (2 : Int32)
      · have h := (if_pos c_7).symm.trans h
        refine lv_tableIn (off := 55) (tgt := 56) hx hb dX11_count_1 (by rw [c_7]; decide) (by rw [c_7]; decide) (by rw [c_7]; rfl) (by decide) ?_
        refine lv_aload_n hx hb dX11_count_56 rfl (lv_at hl 0 rfl) ?_
        refine x_gr (r := 2) hM hG xfl_X11_10 xct_0 (by decide) rfl dX11_count_57 ?_
        refine x_gi hM hG xfl_X11_362 xct_2 (by decide) rfl h dX11_count_60 (fun v_8 h => ?_)
        exact x_ri hM hG hr hlk rfl (k0 _ (Option.some.inj h).symm) dX11_count_63
      · have h := (if_neg c_7).symm.trans h
        by_cases c_9 : x1 = (3 : Int32)
        · have h := (if_pos c_9).symm.trans h
          refine lv_tableIn (off := 63) (tgt := 64) hx hb dX11_count_1 (by rw [c_9]; decide) (by rw [c_9]; decide) (by rw [c_9]; rfl) (by decide) ?_
          refine lv_aload_n hx hb dX11_count_64 rfl (lv_at hl 0 rfl) ?_
          refine x_gr (r := 96) hM hG xfl_X11_79 xct_0 (by decide) rfl dX11_count_65 ?_
          refine x_gi hM hG xfl_X11_365 xct_96 (by decide) rfl h dX11_count_68 (fun v_10 h => ?_)
          exact x_ri hM hG hr hlk rfl (k0 _ (Option.some.inj h).symm) dX11_count_71
        · have h := (if_neg c_9).symm.trans h
          by_cases c_11 : x1 = (4 : Int32)
          · have h := (if_pos c_11).symm.trans h
            refine lv_tableIn (off := 71) (tgt := 72) hx hb dX11_count_1 (by rw [c_11]; decide) (by rw [c_11]; decide) (by rw [c_11]; rfl) (by decide) ?_
            refine lv_aload_n hx hb dX11_count_72 rfl (lv_at hl 0 rfl) ?_
            refine x_gr (r := 101) hM hG xfl_X11_86 xct_0 (by decide) rfl dX11_count_73 ?_
            refine x_gi hM hG xfl_X11_308 xct_101 (by decide) rfl h dX11_count_76 (fun v_12 h => ?_)
            exact x_ri hM hG hr hlk rfl (k0 _ (Option.some.inj h).symm) dX11_count_79
          · have h := (if_neg c_11).symm.trans h
            by_cases c_13 : x1 = (5 : Int32)
            · have h := (if_pos c_13).symm.trans h
              refine lv_tableIn (off := 79) (tgt := 80) hx hb dX11_count_1 (by rw [c_13]; decide) (by rw [c_13]; decide) (by rw [c_13]; rfl) (by decide) ?_
              refine lv_aload_n hx hb dX11_count_80 rfl (lv_at hl 0 rfl) ?_
              refine x_gr (r := 101) hM hG xfl_X11_86 xct_0 (by decide) rfl dX11_count_81 ?_
              refine x_gi hM hG xfl_X11_299 xct_101 (by decide) rfl h dX11_count_84 (fun v_14 h => ?_)
              exact x_ri hM hG hr hlk rfl (k0 _ (Option.some.inj h).symm) dX11_count_87
            · have h := (if_neg c_13).symm.trans h
              refine lv_tableOut (tgt := 88) hx hb dX11_count_1 (x_tout [(0 : Int32), (1 : Int32), (2 : Int32), (3 : Int32), (4 : Int32), (5 : Int32)] 0 (by decide) (by decide) (List.forall_mem_cons.mpr ⟨c_1, (List.forall_mem_cons.mpr ⟨c_4, (List.forall_mem_cons.mpr ⟨c_7, (List.forall_mem_cons.mpr ⟨c_9, (List.forall_mem_cons.mpr ⟨c_11, (List.forall_mem_cons.mpr ⟨c_13, (fun _ h => absurd h List.not_mem_nil)⟩)⟩)⟩)⟩)⟩)⟩)) (by decide) ?_
              refine lv_iconst (v := (-1 : Int32)) hx hb dX11_count_88 (by decide) ?_
              exact x_ri hM hG hr hlk rfl (k0 _ (Option.some.inj h).symm) dX11_count_89
set_option maxHeartbeats 4000000 in
set_option maxRecDepth 100000 in
theorem c_X11_count {l : Launch} {D : va_G} {cy : Nat → ClassId} {a z : Nat → Nat} (hI : xI xtb a) {S : xSt} {x1 : Int32} {S' : xSt} {v' : Int32} (hf : f_X11_count S x1 = some (S', v')) (sz : Nat) : Met l yX11_count (Cond.code yX11_count cX11_count 2 (some .int) :: xTB) ({ frames := 2, cells := 0, slots := 0, locals := 43 } : Room) (va_Pc [.ref (a 0), .int x1] (xPre D cy xtb a z S sz)) (xQi D cy xtb a S' v' sz) 0 0 (xA xtb a sz) := by
  refine Met.ofW (cc := cX11_count) (maxL := 2) (ret := (some .int)) (by decide) rfl ?_
  intro p e s m args below meth c s₁ B hml hv
  obtain ⟨rfl, hsz, hP, hK, hE⟩ := hv
  subst hsz
  have hl := lv_entry ([.ref (a 0), .int x1]) (n := 2) (Nat.le_of_ble_eq_true rfl)
  rw [lg_entry_eq]
  generalize (lg_sl ([.ref (a 0), .int x1]) ++ List.replicate (2 - (lg_sl ([.ref (a 0), .int x1])).length) Slot.unset).toArray = ls at hl ⊢
  have hl : lv_has ls 2 [(0, .ref (a 0)), (1, .int x1)] := hl
  exact w_X11_count_0 ⟨B.exec, B.bytes, hml, findClass_of_methodNamed B.named, fun w hw => atoms_spec (ws := Cond.code yX11_count cX11_count 2 (some .int) :: xTB) B.pre w (List.mem_cons_of_mem _ hw), hK, hI, hE⟩ B.returns B.notSynchronized hf (fun t0 e => e.symm) ⟨hP, va_S.rf⟩ (lv_sub hl [0, 1] rfl)
set_option maxHeartbeats 4000000 in
set_option maxRecDepth 100000 in
theorem w_J13_bitCount_95d88_0 {x0 : Int64} (hM : xM p c cJ13_bitCount_95d88 m s args RJ13 2 D cy xtb a z) (hr : meth.sig.returnType = (some .int)) (hlk : meth.locks = false) {S' : xSt} {v' : Int32} {S : xSt} {q : (xSt × Int32)} (h : f_J13_bitCount_95d88_0 x0 S = some q) (k0 : ∀ t0 : xSt × Int32, q = t0 → t0 = (S', v')) {H : Heap} {locs : List Loc} (hG : xG D cy xtb a S s H locs) {ls : Array Slot} (hl : lv_has ls 2 [(0, .long x0)]) : W p l e ({ frames := 0, cells := 0, slots := 0, locals := 0 } : Room) s m args below meth c H locs 0 0 (MQ below (xQi D cy xtb a S' v' s.heap.size) args s 0 0 (xA xtb a s.heap.size)) (F0 m 0 ls []) := by
  have hx := hM.1
  have hb := hM.2.1
  refine lv_lload_n hx hb dJ13_bitCount_95d88_0 rfl (lv_at hl 0 rfl) ?_
  refine lv_lload_n hx hb dJ13_bitCount_95d88_1 rfl (lv_at hl 0 rfl) ?_
  refine lv_iconst (v := (1 : Int32)) hx hb dJ13_bitCount_95d88_2 (by decide) ?_
  refine x_lushr hM h dJ13_bitCount_95d88_3 (fun v_1 h => ?_)
  refine lv_ldc2 (v := (6148914691236517205 : Int64)) hx hb hM.2.2.2.1 (hM.2.2.2.2.1 _ xcn_J13_314) dJ13_bitCount_95d88_4 ?_
  refine x_land hM h dJ13_bitCount_95d88_7 (fun v_2 h => ?_)
  refine x_lsub hM h dJ13_bitCount_95d88_8 (fun v_3 h => ?_)
  refine lv_lstore_n (lv' := [(0, .long v_3)]) hx hb dJ13_bitCount_95d88_9 rfl hl (by decide) rfl (fun ls hl => ?_)
  refine lv_lload_n hx hb dJ13_bitCount_95d88_10 rfl (lv_at hl 0 rfl) ?_
  refine lv_ldc2 (v := (3689348814741910323 : Int64)) hx hb hM.2.2.2.1 (hM.2.2.2.2.1 _ xcn_J13_316) dJ13_bitCount_95d88_11 ?_
  refine x_land hM h dJ13_bitCount_95d88_14 (fun v_4 h => ?_)
  refine lv_lload_n hx hb dJ13_bitCount_95d88_15 rfl (lv_at hl 0 rfl) ?_
  refine lv_iconst (v := (2 : Int32)) hx hb dJ13_bitCount_95d88_16 (by decide) ?_
  refine x_lushr hM h dJ13_bitCount_95d88_17 (fun v_5 h => ?_)
  refine lv_ldc2 (v := (3689348814741910323 : Int64)) hx hb hM.2.2.2.1 (hM.2.2.2.2.1 _ xcn_J13_316) dJ13_bitCount_95d88_18 ?_
  refine x_land hM h dJ13_bitCount_95d88_21 (fun v_6 h => ?_)
  refine x_ladd hM h dJ13_bitCount_95d88_22 (fun v_7 h => ?_)
  refine lv_lstore_n (lv' := [(0, .long v_7)]) hx hb dJ13_bitCount_95d88_23 rfl hl (by decide) rfl (fun ls hl => ?_)
  refine lv_lload_n hx hb dJ13_bitCount_95d88_24 rfl (lv_at hl 0 rfl) ?_
  refine lv_lload_n hx hb dJ13_bitCount_95d88_25 rfl (lv_at hl 0 rfl) ?_
  refine lv_iconst (v := (4 : Int32)) hx hb dJ13_bitCount_95d88_26 (by decide) ?_
  refine x_lushr hM h dJ13_bitCount_95d88_27 (fun v_8 h => ?_)
  refine x_ladd hM h dJ13_bitCount_95d88_28 (fun v_9 h => ?_)
  refine lv_ldc2 (v := (1085102592571150095 : Int64)) hx hb hM.2.2.2.1 (hM.2.2.2.2.1 _ xcn_J13_318) dJ13_bitCount_95d88_29 ?_
  refine x_land hM h dJ13_bitCount_95d88_32 (fun v_10 h => ?_)
  refine lv_lstore_n (lv' := [(0, .long v_10)]) hx hb dJ13_bitCount_95d88_33 rfl hl (by decide) rfl (fun ls hl => ?_)
  refine lv_lload_n hx hb dJ13_bitCount_95d88_34 rfl (lv_at hl 0 rfl) ?_
  refine lv_lload_n hx hb dJ13_bitCount_95d88_35 rfl (lv_at hl 0 rfl) ?_
  refine lv_bipush (v := (8 : Int32)) hx hb dJ13_bitCount_95d88_36 (by decide) ?_
  refine x_lushr hM h dJ13_bitCount_95d88_38 (fun v_11 h => ?_)
  refine x_ladd hM h dJ13_bitCount_95d88_39 (fun v_12 h => ?_)
  refine lv_lstore_n (lv' := [(0, .long v_12)]) hx hb dJ13_bitCount_95d88_40 rfl hl (by decide) rfl (fun ls hl => ?_)
  refine lv_lload_n hx hb dJ13_bitCount_95d88_41 rfl (lv_at hl 0 rfl) ?_
  refine lv_lload_n hx hb dJ13_bitCount_95d88_42 rfl (lv_at hl 0 rfl) ?_
  refine lv_bipush (v := (16 : Int32)) hx hb dJ13_bitCount_95d88_43 (by decide) ?_
  refine x_lushr hM h dJ13_bitCount_95d88_45 (fun v_13 h => ?_)
  refine x_ladd hM h dJ13_bitCount_95d88_46 (fun v_14 h => ?_)
  refine lv_lstore_n (lv' := [(0, .long v_14)]) hx hb dJ13_bitCount_95d88_47 rfl hl (by decide) rfl (fun ls hl => ?_)
  refine lv_lload_n hx hb dJ13_bitCount_95d88_48 rfl (lv_at hl 0 rfl) ?_
  refine lv_lload_n hx hb dJ13_bitCount_95d88_49 rfl (lv_at hl 0 rfl) ?_
  refine lv_bipush (v := (32 : Int32)) hx hb dJ13_bitCount_95d88_50 (by decide) ?_
  refine x_lushr hM h dJ13_bitCount_95d88_52 (fun v_15 h => ?_)
  refine x_ladd hM h dJ13_bitCount_95d88_53 (fun v_16 h => ?_)
  refine lv_lstore_n (lv' := [(0, .long v_16)]) hx hb dJ13_bitCount_95d88_54 rfl hl (by decide) rfl (fun ls hl => ?_)
  refine lv_lload_n hx hb dJ13_bitCount_95d88_55 rfl (lv_at hl 0 rfl) ?_
  refine x_l2i hM h dJ13_bitCount_95d88_56 (fun v_17 h => ?_)
  refine lv_bipush (v := (127 : Int32)) hx hb dJ13_bitCount_95d88_57 (by decide) ?_
  refine x_iand hM h dJ13_bitCount_95d88_59 (fun v_18 h => ?_)
  exact x_ri hM hG hr hlk rfl (k0 _ (Option.some.inj h).symm) dJ13_bitCount_95d88_60
set_option maxHeartbeats 4000000 in
set_option maxRecDepth 100000 in
theorem c_J13_bitCount_95d88 {l : Launch} {D : va_G} {cy : Nat → ClassId} {a z : Nat → Nat} (hI : xI xtb a) {S : xSt} {x0 : Int64} {S' : xSt} {v' : Int32} (hf : f_J13_bitCount_95d88 S x0 = some (S', v')) (sz : Nat) : Met l yJ13_bitCount_95d88 (Cond.code yJ13_bitCount_95d88 cJ13_bitCount_95d88 2 (some .int) :: xTB) ({ frames := 0, cells := 0, slots := 0, locals := 0 } : Room) (va_Pc [.long x0] (xPre D cy xtb a z S sz)) (xQi D cy xtb a S' v' sz) 0 0 (xA xtb a sz) := by
  refine Met.ofW (cc := cJ13_bitCount_95d88) (maxL := 2) (ret := (some .int)) (by decide) rfl ?_
  intro p e s m args below meth c s₁ B hml hv
  obtain ⟨rfl, hsz, hP, hK, hE⟩ := hv
  subst hsz
  have hl := lv_entry ([.long x0]) (n := 2) (Nat.le_of_ble_eq_true rfl)
  rw [lg_entry_eq]
  generalize (lg_sl ([.long x0]) ++ List.replicate (2 - (lg_sl ([.long x0])).length) Slot.unset).toArray = ls at hl ⊢
  have hl : lv_has ls 2 [(0, .long x0)] := hl
  exact w_J13_bitCount_95d88_0 ⟨B.exec, B.bytes, hml, findClass_of_methodNamed B.named, fun w hw => atoms_spec (ws := Cond.code yJ13_bitCount_95d88 cJ13_bitCount_95d88 2 (some .int) :: xTB) B.pre w (List.mem_cons_of_mem _ hw), hK, hI, hE⟩ B.returns B.notSynchronized hf (fun t0 e => e.symm) ⟨hP, va_S.rf⟩ (lv_sub hl [0] rfl)
end XWwalkX3
