section XWwalkX0
variable {p : Program} {l : Launch} {e : Env} {s : State} {m : MethodId} {args : Array Value} {below : List Frame} {meth : Method} {c : Code} {D : va_G} {cy : Nat → ClassId} {a z : Nat → Nat}
set_option maxHeartbeats 4000000 in
set_option maxRecDepth 100000 in
theorem w_X4_takeStack_0 {o : Nat} (ho : xIs_X4 o) {o1 : Nat} (ho1 : xIs_X4 o1) (hM : xM p c cX4_takeStack m s args RX4 2 D cy xtb a z) (hr : meth.sig.returnType = none) (hlk : meth.locks = false) {S' : xSt} {v' : Unit} {S : xSt} {q : (xSt × Unit)} (h : f_X4_takeStack_0 o o1 S = some q) (k0 : ∀ t0 : xSt × Unit, q = t0 → t0 = (S', v')) {H : Heap} {locs : List Loc} (hG : xG D cy xtb a S s H locs) {ls : Array Slot} (hl : lv_has ls 2 [(0, .ref (a o)), (1, .ref (a o1))]) : W p l e ({ frames := 1, cells := 0, slots := 0, locals := 26 } : Room) s m args below meth c H locs 0 0 (MQ below (xQv D cy xtb a S' v' s.heap.size) args s 0 0 (xA xtb a s.heap.size)) (F0 m 0 ls []) := by
  have hx := hM.1
  have hb := hM.2.1
  refine lv_aload_n hx hb dX4_takeStack_0 rfl (lv_at hl 1 rfl) ?_
  refine x_gr (r := o1 + 1) hM hG xfl_X4_9 ho1.1 (by decide) rfl dX4_takeStack_1 ?_
  refine lv_iconst (v := (0 : Int32)) hx hb dX4_takeStack_4 (by decide) ?_
  refine lv_aload_n hx hb dX4_takeStack_5 rfl (lv_at hl 0 rfl) ?_
  refine x_gr (r := o + 1) hM hG xfl_X4_9 ho.1 (by decide) rfl dX4_takeStack_6 ?_
  refine lv_iconst (v := (0 : Int32)) hx hb dX4_takeStack_9 (by decide) ?_
  refine lv_bipush (v := (6 : Int32)) hx hb dX4_takeStack_10 (by decide) ?_
  refine x_cpi hM hG hl.1 xcp_X4_47 ho1.2.1 ho.2.1 h (Nat.le_of_ble_eq_true rfl) (Nat.le_of_ble_eq_true rfl) dX4_takeStack_12 (fun S_1 H locs h hG => ?_)
  refine lv_aload_n hx hb dX4_takeStack_15 rfl (lv_at hl 1 rfl) ?_
  refine x_gr (r := o1 + 3) hM hG xfl_X4_18 ho1.1 (by decide) rfl dX4_takeStack_16 ?_
  refine lv_iconst (v := (0 : Int32)) hx hb dX4_takeStack_19 (by decide) ?_
  refine lv_aload_n hx hb dX4_takeStack_20 rfl (lv_at hl 0 rfl) ?_
  refine x_gr (r := o + 3) hM hG xfl_X4_18 ho.1 (by decide) rfl dX4_takeStack_21 ?_
  refine lv_iconst (v := (0 : Int32)) hx hb dX4_takeStack_24 (by decide) ?_
  refine lv_bipush (v := (30 : Int32)) hx hb dX4_takeStack_25 (by decide) ?_
  refine x_cpi hM hG hl.1 xcp_X4_47 ho1.2.2.2.1 ho.2.2.2.1 h (Nat.le_of_ble_eq_true rfl) (Nat.le_of_ble_eq_true rfl) dX4_takeStack_27 (fun S_2 H locs h hG => ?_)
  refine lv_aload_n hx hb dX4_takeStack_30 rfl (lv_at hl 1 rfl) ?_
  refine x_gr (r := o1 + 4) hM hG xfl_X4_21 ho1.1 (by decide) rfl dX4_takeStack_31 ?_
  refine lv_iconst (v := (0 : Int32)) hx hb dX4_takeStack_34 (by decide) ?_
  refine lv_aload_n hx hb dX4_takeStack_35 rfl (lv_at hl 0 rfl) ?_
  refine x_gr (r := o + 4) hM hG xfl_X4_21 ho.1 (by decide) rfl dX4_takeStack_36 ?_
  refine lv_iconst (v := (0 : Int32)) hx hb dX4_takeStack_39 (by decide) ?_
  refine lv_bipush (v := (30 : Int32)) hx hb dX4_takeStack_40 (by decide) ?_
  refine x_cpi hM hG hl.1 xcp_X4_47 ho1.2.2.2.2.1 ho.2.2.2.2.1 h (Nat.le_of_ble_eq_true rfl) (Nat.le_of_ble_eq_true rfl) dX4_takeStack_42 (fun S_3 H locs h hG => ?_)
  refine lv_aload_n hx hb dX4_takeStack_45 rfl (lv_at hl 1 rfl) ?_
  refine x_gr (r := o1 + 5) hM hG xfl_X4_24 ho1.1 (by decide) rfl dX4_takeStack_46 ?_
  refine lv_iconst (v := (0 : Int32)) hx hb dX4_takeStack_49 (by decide) ?_
  refine lv_aload_n hx hb dX4_takeStack_50 rfl (lv_at hl 0 rfl) ?_
  refine x_gr (r := o + 5) hM hG xfl_X4_24 ho.1 (by decide) rfl dX4_takeStack_51 ?_
  refine lv_iconst (v := (0 : Int32)) hx hb dX4_takeStack_54 (by decide) ?_
  refine lv_bipush (v := (30 : Int32)) hx hb dX4_takeStack_55 (by decide) ?_
  refine x_cpi hM hG hl.1 xcp_X4_47 ho1.2.2.2.2.2.1 ho.2.2.2.2.2.1 h (Nat.le_of_ble_eq_true rfl) (Nat.le_of_ble_eq_true rfl) dX4_takeStack_57 (fun S_4 H locs h hG => ?_)
  refine lv_aload_n hx hb dX4_takeStack_60 rfl (lv_at hl 1 rfl) ?_
  refine x_gr (r := o1 + 6) hM hG xfl_X4_27 ho1.1 (by decide) rfl dX4_takeStack_61 ?_
  refine lv_iconst (v := (0 : Int32)) hx hb dX4_takeStack_64 (by decide) ?_
  refine lv_aload_n hx hb dX4_takeStack_65 rfl (lv_at hl 0 rfl) ?_
  refine x_gr (r := o + 6) hM hG xfl_X4_27 ho.1 (by decide) rfl dX4_takeStack_66 ?_
  refine lv_iconst (v := (0 : Int32)) hx hb dX4_takeStack_69 (by decide) ?_
  refine lv_bipush (v := (30 : Int32)) hx hb dX4_takeStack_70 (by decide) ?_
  refine x_cpi hM hG hl.1 xcp_X4_47 ho1.2.2.2.2.2.2.1 ho.2.2.2.2.2.2.1 h (Nat.le_of_ble_eq_true rfl) (Nat.le_of_ble_eq_true rfl) dX4_takeStack_72 (fun S_5 H locs h hG => ?_)
  refine lv_aload_n hx hb dX4_takeStack_75 rfl (lv_at hl 1 rfl) ?_
  refine x_gr (r := o1 + 7) hM hG xfl_X4_30 ho1.1 (by decide) rfl dX4_takeStack_76 ?_
  refine lv_iconst (v := (0 : Int32)) hx hb dX4_takeStack_79 (by decide) ?_
  refine lv_aload_n hx hb dX4_takeStack_80 rfl (lv_at hl 0 rfl) ?_
  refine x_gr (r := o + 7) hM hG xfl_X4_30 ho.1 (by decide) rfl dX4_takeStack_81 ?_
  refine lv_iconst (v := (0 : Int32)) hx hb dX4_takeStack_84 (by decide) ?_
  refine lv_bipush (v := (30 : Int32)) hx hb dX4_takeStack_85 (by decide) ?_
  refine x_cpi hM hG hl.1 xcp_X4_47 ho1.2.2.2.2.2.2.2.1 ho.2.2.2.2.2.2.2.1 h (Nat.le_of_ble_eq_true rfl) (Nat.le_of_ble_eq_true rfl) dX4_takeStack_87 (fun S_6 H locs h hG => ?_)
  refine lv_aload_n hx hb dX4_takeStack_90 rfl (lv_at hl 1 rfl) ?_
  refine x_gr (r := o1 + 8) hM hG xfl_X4_33 ho1.1 (by decide) rfl dX4_takeStack_91 ?_
  refine lv_iconst (v := (0 : Int32)) hx hb dX4_takeStack_94 (by decide) ?_
  refine lv_aload_n hx hb dX4_takeStack_95 rfl (lv_at hl 0 rfl) ?_
  refine x_gr (r := o + 8) hM hG xfl_X4_33 ho.1 (by decide) rfl dX4_takeStack_96 ?_
  refine lv_iconst (v := (0 : Int32)) hx hb dX4_takeStack_99 (by decide) ?_
  refine lv_aload_n hx hb dX4_takeStack_100 rfl (lv_at hl 0 rfl) ?_
  refine x_gr (r := o + 8) hM hG xfl_X4_33 ho.1 (by decide) rfl dX4_takeStack_101 ?_
  refine x_alen (v := (6 : Int32)) hM hG ho.2.2.2.2.2.2.2.2.1 (by decide) dX4_takeStack_104 ?_
  refine x_cpi hM hG hl.1 xcp_X4_47 ho1.2.2.2.2.2.2.2.2.1 ho.2.2.2.2.2.2.2.2.1 h (Nat.le_of_ble_eq_true rfl) (Nat.le_of_ble_eq_true rfl) dX4_takeStack_105 (fun S_7 H locs h hG => ?_)
  refine lv_aload_n hx hb dX4_takeStack_108 rfl (lv_at hl 0 rfl) ?_
  refine lv_aload_n hx hb dX4_takeStack_109 rfl (lv_at hl 1 rfl) ?_
  refine x_gi hM hG xfl_X4_53 ho1.1 (by decide) rfl h dX4_takeStack_110 (fun v_8 h => ?_)
  refine x_pi hM hG xfl_X4_53 xfp_X4_11 ho.1 (by decide) rfl rfl rfl h dX4_takeStack_113 (fun S_9 H locs h hG => ?_)
  exact x_rv hM hG hr hlk (k0 _ (Option.some.inj h).symm) dX4_takeStack_116
set_option maxHeartbeats 4000000 in
set_option maxRecDepth 100000 in
theorem c_X4_takeStack {l : Launch} {D : va_G} {cy : Nat → ClassId} {a z : Nat → Nat} (hI : xI xtb a) {o : Nat} (ho : xIs_X4 o) {o1 : Nat} (ho1 : xIs_X4 o1) {S : xSt} {S' : xSt} {v' : Unit} (hf : f_X4_takeStack o o1 S = some (S', v')) (sz : Nat) : Met l yX4_takeStack (Cond.code yX4_takeStack cX4_takeStack 2 none :: xTB) ({ frames := 1, cells := 0, slots := 0, locals := 26 } : Room) (va_Pc [.ref (a o), .ref (a o1)] (xPre D cy xtb a z S sz)) (xQv D cy xtb a S' v' sz) 0 0 (xA xtb a sz) := by
  refine Met.ofW (cc := cX4_takeStack) (maxL := 2) (ret := none) (by decide) rfl ?_
  intro p e s m args below meth c s₁ B hml hv
  obtain ⟨rfl, hsz, hP, hK, hE⟩ := hv
  subst hsz
  have hl := lv_entry ([.ref (a o), .ref (a o1)]) (n := 2) (Nat.le_of_ble_eq_true rfl)
  rw [lg_entry_eq]
  generalize (lg_sl ([.ref (a o), .ref (a o1)]) ++ List.replicate (2 - (lg_sl ([.ref (a o), .ref (a o1)])).length) Slot.unset).toArray = ls at hl ⊢
  have hl : lv_has ls 2 [(0, .ref (a o)), (1, .ref (a o1))] := hl
  exact w_X4_takeStack_0 ho ho1 ⟨B.exec, B.bytes, hml, findClass_of_methodNamed B.named, fun w hw => atoms_spec (ws := Cond.code yX4_takeStack cX4_takeStack 2 none :: xTB) B.pre w (List.mem_cons_of_mem _ hw), hK, hI, hE⟩ B.returns B.notSynchronized hf (fun t0 e => e.symm) ⟨hP, va_S.rf⟩ (lv_sub hl [0, 1] rfl)
set_option maxHeartbeats 4000000 in
set_option maxRecDepth 100000 in
theorem w_X4_takeAll_0 {o : Nat} (ho : xIs_X4 o) {o1 : Nat} (ho1 : xIs_X4 o1) (hM : xM p c cX4_takeAll m s args RX4 2 D cy xtb a z) (hr : meth.sig.returnType = none) (hlk : meth.locks = false) {S' : xSt} {v' : Unit} {S : xSt} {q : (xSt × Unit)} (h : f_X4_takeAll_0 o o1 S = some q) (k0 : ∀ t0 : xSt × Unit, q = t0 → t0 = (S', v')) {H : Heap} {locs : List Loc} (hG : xG D cy xtb a S s H locs) {ls : Array Slot} (hl : lv_has ls 2 [(0, .ref (a o)), (1, .ref (a o1))]) : W p l e ({ frames := 2, cells := 0, slots := 0, locals := 47 } : Room) s m args below meth c H locs 0 0 (MQ below (xQv D cy xtb a S' v' s.heap.size) args s 0 0 (xA xtb a s.heap.size)) (F0 m 0 ls []) := by
  have hx := hM.1
  have hb := hM.2.1
  refine lv_aload_n hx hb dX4_takeAll_0 rfl (lv_at hl 0 rfl) ?_
  refine lv_aload_n hx hb dX4_takeAll_1 rfl (lv_at hl 1 rfl) ?_
  refine x_cVv (As := [.ref (a o1)]) (rest := []) hM hG xml_X4_56 xwi_X4_takeStack xws_X4_takeStack ho.1 (by decide) rfl h (fun S' v e => c_X4_takeStack hM.2.2.2.2.2.2.1 ho ho1 e _) ⟨Nat.le_of_ble_eq_true rfl, Nat.le_of_ble_eq_true rfl⟩ rfl hl.1 rfl (Nat.le_of_ble_eq_true rfl) dX4_takeAll_2 (fun S_1 v_2 H locs h hG => ?_)
  refine lv_aload_n hx hb dX4_takeAll_5 rfl (lv_at hl 1 rfl) ?_
  refine x_gr (r := o1 + 2) hM hG xfl_X4_15 ho1.1 (by decide) rfl dX4_takeAll_6 ?_
  refine lv_iconst (v := (0 : Int32)) hx hb dX4_takeAll_9 (by decide) ?_
  refine lv_aload_n hx hb dX4_takeAll_10 rfl (lv_at hl 0 rfl) ?_
  refine x_gr (r := o + 2) hM hG xfl_X4_15 ho.1 (by decide) rfl dX4_takeAll_11 ?_
  refine lv_iconst (v := (0 : Int32)) hx hb dX4_takeAll_14 (by decide) ?_
  refine lv_bipush (v := (6 : Int32)) hx hb dX4_takeAll_15 (by decide) ?_
  refine x_cpi hM hG hl.1 xcp_X4_47 ho1.2.2.1 ho.2.2.1 h (Nat.le_of_ble_eq_true rfl) (Nat.le_of_ble_eq_true rfl) dX4_takeAll_17 (fun S_3 H locs h hG => ?_)
  refine lv_aload_n hx hb dX4_takeAll_20 rfl (lv_at hl 0 rfl) ?_
  refine lv_aload_n hx hb dX4_takeAll_21 rfl (lv_at hl 1 rfl) ?_
  refine x_gi hM hG xfl_X4_39 ho1.1 (by decide) rfl h dX4_takeAll_22 (fun v_4 h => ?_)
  refine x_pi hM hG xfl_X4_39 xfp_X4_10 ho.1 (by decide) rfl rfl rfl h dX4_takeAll_25 (fun S_5 H locs h hG => ?_)
  exact x_rv hM hG hr hlk (k0 _ (Option.some.inj h).symm) dX4_takeAll_28
set_option maxHeartbeats 4000000 in
set_option maxRecDepth 100000 in
theorem c_X4_takeAll {l : Launch} {D : va_G} {cy : Nat → ClassId} {a z : Nat → Nat} (hI : xI xtb a) {o : Nat} (ho : xIs_X4 o) {o1 : Nat} (ho1 : xIs_X4 o1) {S : xSt} {S' : xSt} {v' : Unit} (hf : f_X4_takeAll o o1 S = some (S', v')) (sz : Nat) : Met l yX4_takeAll (Cond.code yX4_takeAll cX4_takeAll 2 none :: xTB) ({ frames := 2, cells := 0, slots := 0, locals := 47 } : Room) (va_Pc [.ref (a o), .ref (a o1)] (xPre D cy xtb a z S sz)) (xQv D cy xtb a S' v' sz) 0 0 (xA xtb a sz) := by
  refine Met.ofW (cc := cX4_takeAll) (maxL := 2) (ret := none) (by decide) rfl ?_
  intro p e s m args below meth c s₁ B hml hv
  obtain ⟨rfl, hsz, hP, hK, hE⟩ := hv
  subst hsz
  have hl := lv_entry ([.ref (a o), .ref (a o1)]) (n := 2) (Nat.le_of_ble_eq_true rfl)
  rw [lg_entry_eq]
  generalize (lg_sl ([.ref (a o), .ref (a o1)]) ++ List.replicate (2 - (lg_sl ([.ref (a o), .ref (a o1)])).length) Slot.unset).toArray = ls at hl ⊢
  have hl : lv_has ls 2 [(0, .ref (a o)), (1, .ref (a o1))] := hl
  exact w_X4_takeAll_0 ho ho1 ⟨B.exec, B.bytes, hml, findClass_of_methodNamed B.named, fun w hw => atoms_spec (ws := Cond.code yX4_takeAll cX4_takeAll 2 none :: xTB) B.pre w (List.mem_cons_of_mem _ hw), hK, hI, hE⟩ B.returns B.notSynchronized hf (fun t0 e => e.symm) ⟨hP, va_S.rf⟩ (lv_sub hl [0, 1] rfl)
set_option maxHeartbeats 4000000 in
set_option maxRecDepth 100000 in
theorem w_X4_has_28 {o : Nat} (ho : xIs_X4 o) (hM : xM p c cX4_has m s args RX4 2 D cy xtb a z) (hr : meth.sig.returnType = (some .boolean)) (hlk : meth.locks = false) {S' : xSt} {v' : Int32} {S : xSt} {q : (xSt × Int32)} (h : f_X4_has_28 o S = some q) (k0 : ∀ t0 : xSt × Int32, q = t0 → t0 = (S', v')) {H : Heap} {locs : List Loc} (hG : xG D cy xtb a S s H locs) {ls : Array Slot} (hl : lv_has ls 2 []) : W p l e ({ frames := 0, cells := 0, slots := 0, locals := 0 } : Room) s m args below meth c H locs 0 0 (MQ below (xQi D cy xtb a S' v' s.heap.size) args s 0 0 (xA xtb a s.heap.size)) (F0 m 28 ls []) := by
  have hx := hM.1
  have hb := hM.2.1
  refine lv_iconst (v := (0 : Int32)) hx hb dX4_has_28 (by decide) ?_
  obtain ⟨hz, h⟩ := xgd_at h
  exact x_ri hM hG hr hlk (x_nz hz) (k0 _ (Option.some.inj h).symm) dX4_has_29
set_option maxHeartbeats 4000000 in
set_option maxRecDepth 100000 in
theorem w_X4_has_0 {o : Nat} (ho : xIs_X4 o) {x1 : Int32} (hM : xM p c cX4_has m s args RX4 2 D cy xtb a z) (hr : meth.sig.returnType = (some .boolean)) (hlk : meth.locks = false) {S' : xSt} {v' : Int32} {S : xSt} {q : (xSt × Int32)} (h : f_X4_has_0 o x1 S = some q) (k0 : ∀ t0 : xSt × Int32, q = t0 → t0 = (S', v')) {H : Heap} {locs : List Loc} (hG : xG D cy xtb a S s H locs) {ls : Array Slot} (hl : lv_has ls 2 [(0, .ref (a o)), (1, .int x1)]) : W p l e ({ frames := 0, cells := 0, slots := 0, locals := 0 } : Room) s m args below meth c H locs 0 0 (MQ below (xQi D cy xtb a S' v' s.heap.size) args s 0 0 (xA xtb a s.heap.size)) (F0 m 0 ls []) := by
  have hx := hM.1
  have hb := hM.2.1
  refine lv_iload_n hx hb dX4_has_0 rfl (lv_at hl 1 rfl) ?_
  refine x_if_lt (tgt := 28) hM h dX4_has_1 (by decide) (fun c_1 h => ?_) (fun c_1 h => ?_)
  · exact w_X4_has_28 ho hM hr hlk h (fun t0 e => k0 t0 e) hG (lv_sub hl [] rfl)
  · refine lv_iload_n hx hb dX4_has_4 rfl (lv_at hl 1 rfl) ?_
    refine lv_bipush (v := (30 : Int32)) hx hb dX4_has_5 (by decide) ?_
    refine x_icmp_ge (tgt := 28) hM h dX4_has_7 (by decide) (fun c_2 h => ?_) (fun c_2 h => ?_)
    · exact w_X4_has_28 ho hM hr hlk h (fun t0 e => k0 t0 e) hG (lv_sub hl [] rfl)
    · refine lv_iload_n hx hb dX4_has_10 rfl (lv_at hl 1 rfl) ?_
      refine lv_iconst (v := (5 : Int32)) hx hb dX4_has_11 (by decide) ?_
      refine x_irem hM h dX4_has_12 (fun v_3 h => ?_)
      refine lv_aload_n hx hb dX4_has_13 rfl (lv_at hl 0 rfl) ?_
      refine x_gr (r := o + 1) hM hG xfl_X4_9 ho.1 (by decide) rfl dX4_has_14 ?_
      refine lv_iload_n hx hb dX4_has_17 rfl (lv_at hl 1 rfl) ?_
      refine lv_iconst (v := (5 : Int32)) hx hb dX4_has_18 (by decide) ?_
      refine x_idiv hM h dX4_has_19 (fun v_4 h => ?_)
      refine x_iald hM hG ho.2.1 h dX4_has_20 (fun v_5 h => ?_)
      refine x_icmp_ge (tgt := 28) hM h dX4_has_21 (by decide) (fun c_6 h => ?_) (fun c_6 h => ?_)
      · exact w_X4_has_28 ho hM hr hlk h (fun t0 e => k0 t0 e) hG (lv_sub hl [] rfl)
      · refine lv_iconst (v := (1 : Int32)) hx hb dX4_has_24 (by decide) ?_
        refine lv_goto (tgt := 29) hx hb dX4_has_25 (by decide) ?_
        obtain ⟨hz, h⟩ := xgd_at h
        exact x_ri hM hG hr hlk (x_nz hz) (k0 _ (Option.some.inj h).symm) dX4_has_29
set_option maxHeartbeats 4000000 in
set_option maxRecDepth 100000 in
theorem c_X4_has {l : Launch} {D : va_G} {cy : Nat → ClassId} {a z : Nat → Nat} (hI : xI xtb a) {o : Nat} (ho : xIs_X4 o) {S : xSt} {x1 : Int32} {S' : xSt} {v' : Int32} (hf : f_X4_has o S x1 = some (S', v')) (sz : Nat) : Met l yX4_has (Cond.code yX4_has cX4_has 2 (some .boolean) :: xTB) ({ frames := 0, cells := 0, slots := 0, locals := 0 } : Room) (va_Pc [.ref (a o), .int x1] (xPre D cy xtb a z S sz)) (xQi D cy xtb a S' v' sz) 0 0 (xA xtb a sz) := by
  refine Met.ofW (cc := cX4_has) (maxL := 2) (ret := (some .boolean)) (by decide) rfl ?_
  intro p e s m args below meth c s₁ B hml hv
  obtain ⟨rfl, hsz, hP, hK, hE⟩ := hv
  subst hsz
  have hl := lv_entry ([.ref (a o), .int x1]) (n := 2) (Nat.le_of_ble_eq_true rfl)
  rw [lg_entry_eq]
  generalize (lg_sl ([.ref (a o), .int x1]) ++ List.replicate (2 - (lg_sl ([.ref (a o), .int x1])).length) Slot.unset).toArray = ls at hl ⊢
  have hl : lv_has ls 2 [(0, .ref (a o)), (1, .int x1)] := hl
  exact w_X4_has_0 ho ⟨B.exec, B.bytes, hml, findClass_of_methodNamed B.named, fun w hw => atoms_spec (ws := Cond.code yX4_has cX4_has 2 (some .boolean) :: xTB) B.pre w (List.mem_cons_of_mem _ hw), hK, hI, hE⟩ B.returns B.notSynchronized hf (fun t0 e => e.symm) ⟨hP, va_S.rf⟩ (lv_sub hl [0, 1] rfl)
set_option maxHeartbeats 4000000 in
set_option maxRecDepth 100000 in
theorem w_X4_isBeyond_20 {o : Nat} (ho : xIs_X4 o) (hM : xM p c cX4_isBeyond m s args RX4 3 D cy xtb a z) (hr : meth.sig.returnType = (some .boolean)) (hlk : meth.locks = false) {S' : xSt} {v' : Int32} {S : xSt} {q : (xSt × Int32)} (h : f_X4_isBeyond_20 o S = some q) (k0 : ∀ t0 : xSt × Int32, q = t0 → t0 = (S', v')) {H : Heap} {locs : List Loc} (hG : xG D cy xtb a S s H locs) {ls : Array Slot} (hl : lv_has ls 3 []) : W p l e ({ frames := 0, cells := 0, slots := 0, locals := 0 } : Room) s m args below meth c H locs 0 0 (MQ below (xQi D cy xtb a S' v' s.heap.size) args s 0 0 (xA xtb a s.heap.size)) (F0 m 20 ls []) := by
  have hx := hM.1
  have hb := hM.2.1
  refine lv_iconst (v := (1 : Int32)) hx hb dX4_isBeyond_20 (by decide) ?_
  refine lv_goto (tgt := 25) hx hb dX4_isBeyond_21 (by decide) ?_
  obtain ⟨hz, h⟩ := xgd_at h
  exact x_ri hM hG hr hlk (x_nz hz) (k0 _ (Option.some.inj h).symm) dX4_isBeyond_25
set_option maxHeartbeats 4000000 in
set_option maxRecDepth 100000 in
theorem w_X4_isBeyond_0 {o : Nat} (ho : xIs_X4 o) {x1 : Int32} {x2 : Int32} (hM : xM p c cX4_isBeyond m s args RX4 3 D cy xtb a z) (hr : meth.sig.returnType = (some .boolean)) (hlk : meth.locks = false) {S' : xSt} {v' : Int32} {S : xSt} {q : (xSt × Int32)} (h : f_X4_isBeyond_0 o x1 x2 S = some q) (k0 : ∀ t0 : xSt × Int32, q = t0 → t0 = (S', v')) {H : Heap} {locs : List Loc} (hG : xG D cy xtb a S s H locs) {ls : Array Slot} (hl : lv_has ls 3 [(0, .ref (a o)), (1, .int x1), (2, .int x2)]) : W p l e ({ frames := 0, cells := 0, slots := 0, locals := 0 } : Room) s m args below meth c H locs 0 0 (MQ below (xQi D cy xtb a S' v' s.heap.size) args s 0 0 (xA xtb a s.heap.size)) (F0 m 0 ls []) := by
  have hx := hM.1
  have hb := hM.2.1
  refine lv_iload_n hx hb dX4_isBeyond_0 rfl (lv_at hl 1 rfl) ?_
  refine x_if_lt (tgt := 20) hM h dX4_isBeyond_1 (by decide) (fun c_1 h => ?_) (fun c_1 h => ?_)
  · exact w_X4_isBeyond_20 ho hM hr hlk h (fun t0 e => k0 t0 e) hG (lv_sub hl [] rfl)
  · refine lv_iload_n hx hb dX4_isBeyond_4 rfl (lv_at hl 1 rfl) ?_
    refine lv_bipush (v := (6 : Int32)) hx hb dX4_isBeyond_5 (by decide) ?_
    refine x_icmp_ge (tgt := 20) hM h dX4_isBeyond_7 (by decide) (fun c_2 h => ?_) (fun c_2 h => ?_)
    · exact w_X4_isBeyond_20 ho hM hr hlk h (fun t0 e => k0 t0 e) hG (lv_sub hl [] rfl)
    · refine lv_iload_n hx hb dX4_isBeyond_10 rfl (lv_at hl 2 rfl) ?_
      refine lv_aload_n hx hb dX4_isBeyond_11 rfl (lv_at hl 0 rfl) ?_
      refine x_gr (r := o + 1) hM hG xfl_X4_9 ho.1 (by decide) rfl dX4_isBeyond_12 ?_
      refine lv_iload_n hx hb dX4_isBeyond_15 rfl (lv_at hl 1 rfl) ?_
      refine x_iald hM hG ho.2.1 h dX4_isBeyond_16 (fun v_3 h => ?_)
      refine x_icmp_lt (tgt := 24) hM h dX4_isBeyond_17 (by decide) (fun c_4 h => ?_) (fun c_4 h => ?_)
      · refine lv_iconst (v := (0 : Int32)) hx hb dX4_isBeyond_24 (by decide) ?_
        obtain ⟨hz, h⟩ := xgd_at h
        exact x_ri hM hG hr hlk (x_nz hz) (k0 _ (Option.some.inj h).symm) dX4_isBeyond_25
      · exact w_X4_isBeyond_20 ho hM hr hlk h (fun t0 e => k0 t0 e) hG (lv_sub hl [] rfl)
set_option maxHeartbeats 4000000 in
set_option maxRecDepth 100000 in
theorem c_X4_isBeyond {l : Launch} {D : va_G} {cy : Nat → ClassId} {a z : Nat → Nat} (hI : xI xtb a) {o : Nat} (ho : xIs_X4 o) {S : xSt} {x1 : Int32} {x2 : Int32} {S' : xSt} {v' : Int32} (hf : f_X4_isBeyond o S x1 x2 = some (S', v')) (sz : Nat) : Met l yX4_isBeyond (Cond.code yX4_isBeyond cX4_isBeyond 3 (some .boolean) :: xTB) ({ frames := 0, cells := 0, slots := 0, locals := 0 } : Room) (va_Pc [.ref (a o), .int x1, .int x2] (xPre D cy xtb a z S sz)) (xQi D cy xtb a S' v' sz) 0 0 (xA xtb a sz) := by
  refine Met.ofW (cc := cX4_isBeyond) (maxL := 3) (ret := (some .boolean)) (by decide) rfl ?_
  intro p e s m args below meth c s₁ B hml hv
  obtain ⟨rfl, hsz, hP, hK, hE⟩ := hv
  subst hsz
  have hl := lv_entry ([.ref (a o), .int x1, .int x2]) (n := 3) (Nat.le_of_ble_eq_true rfl)
  rw [lg_entry_eq]
  generalize (lg_sl ([.ref (a o), .int x1, .int x2]) ++ List.replicate (3 - (lg_sl ([.ref (a o), .int x1, .int x2])).length) Slot.unset).toArray = ls at hl ⊢
  have hl : lv_has ls 3 [(0, .ref (a o)), (1, .int x1), (2, .int x2)] := hl
  exact w_X4_isBeyond_0 ho ⟨B.exec, B.bytes, hml, findClass_of_methodNamed B.named, fun w hw => atoms_spec (ws := Cond.code yX4_isBeyond cX4_isBeyond 3 (some .boolean) :: xTB) B.pre w (List.mem_cons_of_mem _ hw), hK, hI, hE⟩ B.returns B.notSynchronized hf (fun t0 e => e.symm) ⟨hP, va_S.rf⟩ (lv_sub hl [0, 1, 2] rfl)
set_option maxHeartbeats 4000000 in
set_option maxRecDepth 100000 in
theorem w_X4_airOf_46 {o : Nat} (ho : xIs_X4 o) {x2 : Int32} {x3 : Int32} {x4 : Int32} (hM : xM p c cX4_airOf m s args RX4 5 D cy xtb a z) (hr : meth.sig.returnType = (some .int)) (hlk : meth.locks = false) {S' : xSt} {v' : Int32} {S : xSt} {q : (xSt × Int32)} (h : f_X4_airOf_46 o x2 x3 x4 S = some q) (k0 : ∀ t0 : xSt × Int32, q = t0 → t0 = (S', v')) {H : Heap} {locs : List Loc} (hG : xG D cy xtb a S s H locs) {ls : Array Slot} (hl : lv_has ls 5 [(0, .ref (a o)), (2, .int x2), (3, .int x3), (4, .int x4)]) : W p l e ({ frames := 1, cells := 0, slots := 0, locals := 22 } : Room) s m args below meth c H locs 0 0 (MQ below (xQi D cy xtb a S' v' s.heap.size) args s 0 0 (xA xtb a s.heap.size)) (F0 m 46 ls []) := by
  have hx := hM.1
  have hb := hM.2.1
  refine lv_aload_n hx hb dX4_airOf_46 rfl (lv_at hl 0 rfl) ?_
  refine lv_iload_n hx hb dX4_airOf_47 rfl (lv_at hl 1 rfl) ?_
  refine lv_iconst (v := (1 : Int32)) hx hb dX4_airOf_48 (by decide) ?_
  refine x_iadd hM h dX4_airOf_49 (fun v_1 h => ?_)
  refine lv_iload_n hx hb dX4_airOf_50 rfl (lv_at hl 2 rfl) ?_
  refine x_cVi (As := [.int v_1, .int x3]) (rest := []) hM hG xml_X4_69 xwi_X4_isBeyond xws_X4_isBeyond ho.1 (by decide) rfl h (fun S' v e => c_X4_isBeyond hM.2.2.2.2.2.2.1 ho e _) ⟨Nat.le_of_ble_eq_true rfl, Nat.le_of_ble_eq_true rfl⟩ rfl hl.1 rfl (Nat.le_of_ble_eq_true rfl) dX4_airOf_51 (fun S_2 v_3 H locs h hG => ?_)
  refine x_if_eq (tgt := 64) hM h dX4_airOf_54 (by decide) (fun c_4 h => ?_) (fun c_4 h => ?_)
  · refine lv_iload hx hb dX4_airOf_64 (lv_at hl 3 rfl) ?_
    exact x_ri hM hG hr hlk rfl (k0 _ (Option.some.inj h).symm) dX4_airOf_66
  · refine lv_iload hx hb dX4_airOf_57 (lv_at hl 3 rfl) ?_
    refine lv_iconst (v := (1 : Int32)) hx hb dX4_airOf_59 (by decide) ?_
    refine x_iadd hM h dX4_airOf_60 (fun v_5 h => ?_)
    refine lv_goto (tgt := 66) hx hb dX4_airOf_61 (by decide) ?_
    exact x_ri hM hG hr hlk rfl (k0 _ (Option.some.inj h).symm) dX4_airOf_66
set_option maxHeartbeats 4000000 in
set_option maxRecDepth 100000 in
theorem w_X4_airOf_32 {o : Nat} (ho : xIs_X4 o) {x2 : Int32} {x3 : Int32} {x4 : Int32} (hM : xM p c cX4_airOf m s args RX4 5 D cy xtb a z) (hr : meth.sig.returnType = (some .int)) (hlk : meth.locks = false) {S' : xSt} {v' : Int32} {S : xSt} {q : (xSt × Int32)} (h : f_X4_airOf_32 o x2 x3 x4 S = some q) (k0 : ∀ t0 : xSt × Int32, q = t0 → t0 = (S', v')) {H : Heap} {locs : List Loc} (hG : xG D cy xtb a S s H locs) {ls : Array Slot} (hl : lv_has ls 5 [(0, .ref (a o)), (2, .int x2), (3, .int x3), (4, .int x4)]) : W p l e ({ frames := 1, cells := 0, slots := 0, locals := 22 } : Room) s m args below meth c H locs 0 0 (MQ below (xQi D cy xtb a S' v' s.heap.size) args s 0 0 (xA xtb a s.heap.size)) (F0 m 32 ls []) := by
  have hx := hM.1
  have hb := hM.2.1
  refine lv_aload_n hx hb dX4_airOf_32 rfl (lv_at hl 0 rfl) ?_
  refine lv_iload_n hx hb dX4_airOf_33 rfl (lv_at hl 1 rfl) ?_
  refine lv_iconst (v := (1 : Int32)) hx hb dX4_airOf_34 (by decide) ?_
  refine x_isub hM h dX4_airOf_35 (fun v_1 h => ?_)
  refine lv_iload_n hx hb dX4_airOf_36 rfl (lv_at hl 2 rfl) ?_
  refine x_cVi (As := [.int v_1, .int x3]) (rest := []) hM hG xml_X4_69 xwi_X4_isBeyond xws_X4_isBeyond ho.1 (by decide) rfl h (fun S' v e => c_X4_isBeyond hM.2.2.2.2.2.2.1 ho e _) ⟨Nat.le_of_ble_eq_true rfl, Nat.le_of_ble_eq_true rfl⟩ rfl hl.1 rfl (Nat.le_of_ble_eq_true rfl) dX4_airOf_37 (fun S_2 v_3 H locs h hG => ?_)
  refine x_if_eq (tgt := 46) hM h dX4_airOf_40 (by decide) (fun c_4 h => ?_) (fun c_4 h => ?_)
  · exact w_X4_airOf_46 ho hM hr hlk h (fun t0 e => k0 t0 e) hG (lv_sub hl [0, 1, 2, 3] rfl)
  · refine x_iinc hM (fun v => [(4, .int v), (0, .ref (a o)), (2, .int x2), (3, .int x3)]) h dX4_airOf_43 hl (k := 3) rfl (by decide) (by decide) (fun _ => rfl) (fun v_5 ls h hl => ?_)
    exact w_X4_airOf_46 ho hM hr hlk h (fun t0 e => k0 t0 e) hG (lv_sub hl [1, 2, 3, 0] rfl)
set_option maxHeartbeats 4000000 in
set_option maxRecDepth 100000 in
theorem w_X4_airOf_0 {o : Nat} (ho : xIs_X4 o) {x1 : Int32} (hM : xM p c cX4_airOf m s args RX4 5 D cy xtb a z) (hr : meth.sig.returnType = (some .int)) (hlk : meth.locks = false) {S' : xSt} {v' : Int32} {S : xSt} {q : (xSt × Int32)} (h : f_X4_airOf_0 o x1 S = some q) (k0 : ∀ t0 : xSt × Int32, q = t0 → t0 = (S', v')) {H : Heap} {locs : List Loc} (hG : xG D cy xtb a S s H locs) {ls : Array Slot} (hl : lv_has ls 5 [(0, .ref (a o)), (1, .int x1)]) : W p l e ({ frames := 1, cells := 0, slots := 0, locals := 22 } : Room) s m args below meth c H locs 0 0 (MQ below (xQi D cy xtb a S' v' s.heap.size) args s 0 0 (xA xtb a s.heap.size)) (F0 m 0 ls []) := by
  have hx := hM.1
  have hb := hM.2.1
  refine lv_iload_n hx hb dX4_airOf_0 rfl (lv_at hl 1 rfl) ?_
  refine lv_iconst (v := (5 : Int32)) hx hb dX4_airOf_1 (by decide) ?_
  refine x_idiv hM h dX4_airOf_2 (fun v_1 h => ?_)
  refine lv_istore_n (lv' := [(2, .int v_1), (0, .ref (a o)), (1, .int x1)]) hx hb dX4_airOf_3 rfl hl (by decide) rfl (fun ls hl => ?_)
  refine lv_iload_n hx hb dX4_airOf_4 rfl (lv_at hl 2 rfl) ?_
  refine lv_iconst (v := (5 : Int32)) hx hb dX4_airOf_5 (by decide) ?_
  refine x_irem hM h dX4_airOf_6 (fun v_2 h => ?_)
  refine lv_istore_n (lv' := [(3, .int v_2), (2, .int v_1), (0, .ref (a o)), (1, .int x1)]) hx hb dX4_airOf_7 rfl hl (by decide) rfl (fun ls hl => ?_)
  refine lv_iconst (v := (2 : Int32)) hx hb dX4_airOf_8 (by decide) ?_
  refine lv_aload_n hx hb dX4_airOf_9 rfl (lv_at hl 2 rfl) ?_
  refine x_gr (r := o + 2) hM hG xfl_X4_15 ho.1 (by decide) rfl dX4_airOf_10 ?_
  refine lv_iload_n hx hb dX4_airOf_13 rfl (lv_at hl 1 rfl) ?_
  refine x_iald hM hG ho.2.2.1 h dX4_airOf_14 (fun v_3 h => ?_)
  refine x_imul hM h dX4_airOf_15 (fun v_4 h => ?_)
  refine lv_istore (lv' := [(4, .int v_4), (3, .int v_2), (2, .int v_1), (0, .ref (a o)), (1, .int x1)]) hx hb dX4_airOf_16 hl (by decide) rfl (fun ls hl => ?_)
  refine lv_aload_n hx hb dX4_airOf_18 rfl (lv_at hl 3 rfl) ?_
  refine lv_iload_n hx hb dX4_airOf_19 rfl (lv_at hl 2 rfl) ?_
  refine lv_iload_n hx hb dX4_airOf_20 rfl (lv_at hl 1 rfl) ?_
  refine lv_iconst (v := (1 : Int32)) hx hb dX4_airOf_21 (by decide) ?_
  refine x_iadd hM h dX4_airOf_22 (fun v_5 h => ?_)
  refine x_cVi (As := [.int v_1, .int v_5]) (rest := []) hM hG xml_X4_69 xwi_X4_isBeyond xws_X4_isBeyond ho.1 (by decide) rfl h (fun S' v e => c_X4_isBeyond hM.2.2.2.2.2.2.1 ho e _) ⟨Nat.le_of_ble_eq_true rfl, Nat.le_of_ble_eq_true rfl⟩ rfl hl.1 rfl (Nat.le_of_ble_eq_true rfl) dX4_airOf_23 (fun S_6 v_7 H locs h hG => ?_)
  refine x_if_eq (tgt := 32) hM h dX4_airOf_26 (by decide) (fun c_8 h => ?_) (fun c_8 h => ?_)
  · exact w_X4_airOf_32 ho hM hr hlk h (fun t0 e => k0 t0 e) hG (lv_sub hl [3, 2, 1, 0] rfl)
  · refine x_iinc hM (fun v => [(4, .int v), (3, .int v_2), (2, .int v_1), (0, .ref (a o)), (1, .int x1)]) h dX4_airOf_29 hl (k := 0) rfl (by decide) (by decide) (fun _ => rfl) (fun v_9 ls h hl => ?_)
    exact w_X4_airOf_32 ho hM hr hlk h (fun t0 e => k0 t0 e) hG (lv_sub hl [3, 2, 1, 0] rfl)
set_option maxHeartbeats 4000000 in
set_option maxRecDepth 100000 in
theorem c_X4_airOf {l : Launch} {D : va_G} {cy : Nat → ClassId} {a z : Nat → Nat} (hI : xI xtb a) {o : Nat} (ho : xIs_X4 o) {S : xSt} {x1 : Int32} {S' : xSt} {v' : Int32} (hf : f_X4_airOf o S x1 = some (S', v')) (sz : Nat) : Met l yX4_airOf (Cond.code yX4_airOf cX4_airOf 5 (some .int) :: xTB) ({ frames := 1, cells := 0, slots := 0, locals := 22 } : Room) (va_Pc [.ref (a o), .int x1] (xPre D cy xtb a z S sz)) (xQi D cy xtb a S' v' sz) 0 0 (xA xtb a sz) := by
  refine Met.ofW (cc := cX4_airOf) (maxL := 5) (ret := (some .int)) (by decide) rfl ?_
  intro p e s m args below meth c s₁ B hml hv
  obtain ⟨rfl, hsz, hP, hK, hE⟩ := hv
  subst hsz
  have hl := lv_entry ([.ref (a o), .int x1]) (n := 5) (Nat.le_of_ble_eq_true rfl)
  rw [lg_entry_eq]
  generalize (lg_sl ([.ref (a o), .int x1]) ++ List.replicate (5 - (lg_sl ([.ref (a o), .int x1])).length) Slot.unset).toArray = ls at hl ⊢
  have hl : lv_has ls 5 [(0, .ref (a o)), (1, .int x1)] := hl
  exact w_X4_airOf_0 ho ⟨B.exec, B.bytes, hml, findClass_of_methodNamed B.named, fun w hw => atoms_spec (ws := Cond.code yX4_airOf cX4_airOf 5 (some .int) :: xTB) B.pre w (List.mem_cons_of_mem _ hw), hK, hI, hE⟩ B.returns B.notSynchronized hf (fun t0 e => e.symm) ⟨hP, va_S.rf⟩ (lv_sub hl [0, 1] rfl)
set_option maxHeartbeats 4000000 in
set_option maxRecDepth 100000 in
theorem w_X4_meanBeside_115 {o : Nat} (ho : xIs_X4 o) {x4 : Int32} {x5 : Int32} (hM : xM p c cX4_meanBeside m s args RX4 6 D cy xtb a z) (hr : meth.sig.returnType = (some .int)) (hlk : meth.locks = false) {S' : xSt} {v' : Int32} {S : xSt} {q : (xSt × Int32)} (h : f_X4_meanBeside_115 o x4 x5 S = some q) (k0 : ∀ t0 : xSt × Int32, q = t0 → t0 = (S', v')) {H : Heap} {locs : List Loc} (hG : xG D cy xtb a S s H locs) {ls : Array Slot} (hl : lv_has ls 6 [(4, .int x4), (5, .int x5)]) : W p l e ({ frames := 1, cells := 0, slots := 0, locals := 22 } : Room) s m args below meth c H locs 0 0 (MQ below (xQi D cy xtb a S' v' s.heap.size) args s 0 0 (xA xtb a s.heap.size)) (F0 m 115 ls []) := by
  have hx := hM.1
  have hb := hM.2.1
  refine lv_iload hx hb dX4_meanBeside_115 (lv_at hl 1 rfl) ?_
  refine x_if_ne (tgt := 125) hM h dX4_meanBeside_117 (by decide) (fun c_1 h => ?_) (fun c_1 h => ?_)
  · refine lv_iload hx hb dX4_meanBeside_125 (lv_at hl 0 rfl) ?_
    refine lv_iload hx hb dX4_meanBeside_127 (lv_at hl 1 rfl) ?_
    refine x_idiv hM h dX4_meanBeside_129 (fun v_2 h => ?_)
    exact x_ri hM hG hr hlk rfl (k0 _ (Option.some.inj h).symm) dX4_meanBeside_130
  · refine lv_bipush (v := (20 : Int32)) hx hb dX4_meanBeside_120 (by decide) ?_
    refine lv_goto (tgt := 130) hx hb dX4_meanBeside_122 (by decide) ?_
    exact x_ri hM hG hr hlk rfl (k0 _ (Option.some.inj h).symm) dX4_meanBeside_130
set_option maxHeartbeats 4000000 in
set_option maxRecDepth 100000 in
theorem w_X4_meanBeside_88 {o : Nat} (ho : xIs_X4 o) {x1 : Int32} {x2 : Int32} {x3 : Int32} {x4 : Int32} {x5 : Int32} (hM : xM p c cX4_meanBeside m s args RX4 6 D cy xtb a z) (hr : meth.sig.returnType = (some .int)) (hlk : meth.locks = false) {S' : xSt} {v' : Int32} {S : xSt} {q : (xSt × Int32)} (h : f_X4_meanBeside_88 o x1 x2 x3 x4 x5 S = some q) (k0 : ∀ t0 : xSt × Int32, q = t0 → t0 = (S', v')) {H : Heap} {locs : List Loc} (hG : xG D cy xtb a S s H locs) {ls : Array Slot} (hl : lv_has ls 6 [(0, .ref (a o)), (1, .int x1), (2, .int x2), (3, .int x3), (4, .int x4), (5, .int x5)]) : W p l e ({ frames := 1, cells := 0, slots := 0, locals := 22 } : Room) s m args below meth c H locs 0 0 (MQ below (xQi D cy xtb a S' v' s.heap.size) args s 0 0 (xA xtb a s.heap.size)) (F0 m 88 ls []) := by
  have hx := hM.1
  have hb := hM.2.1
  refine lv_aload_n hx hb dX4_meanBeside_88 rfl (lv_at hl 0 rfl) ?_
  refine lv_iload_n hx hb dX4_meanBeside_89 rfl (lv_at hl 2 rfl) ?_
  refine lv_iconst (v := (1 : Int32)) hx hb dX4_meanBeside_90 (by decide) ?_
  refine x_iadd hM h dX4_meanBeside_91 (fun v_1 h => ?_)
  refine lv_iload_n hx hb dX4_meanBeside_92 rfl (lv_at hl 3 rfl) ?_
  refine x_cVi (As := [.int v_1, .int x3]) (rest := []) hM hG xml_X4_69 xwi_X4_isBeyond xws_X4_isBeyond ho.1 (by decide) rfl h (fun S' v e => c_X4_isBeyond hM.2.2.2.2.2.2.1 ho e _) ⟨Nat.le_of_ble_eq_true rfl, Nat.le_of_ble_eq_true rfl⟩ rfl hl.1 rfl (Nat.le_of_ble_eq_true rfl) dX4_meanBeside_93 (fun S_2 v_3 H locs h hG => ?_)
  refine x_if_ne (tgt := 115) hM h dX4_meanBeside_96 (by decide) (fun c_4 h => ?_) (fun c_4 h => ?_)
  · exact w_X4_meanBeside_115 ho hM hr hlk h (fun t0 e => k0 t0 e) hG (lv_sub hl [4, 5] rfl)
  · refine lv_iload hx hb dX4_meanBeside_99 (lv_at hl 4 rfl) ?_
    refine lv_aload_n hx hb dX4_meanBeside_101 rfl (lv_at hl 0 rfl) ?_
    refine x_gr (r := o + 4) hM hG xfl_X4_21 ho.1 (by decide) rfl dX4_meanBeside_102 ?_
    refine lv_iload_n hx hb dX4_meanBeside_105 rfl (lv_at hl 1 rfl) ?_
    refine lv_iconst (v := (5 : Int32)) hx hb dX4_meanBeside_106 (by decide) ?_
    refine x_iadd hM h dX4_meanBeside_107 (fun v_5 h => ?_)
    refine x_iald hM hG ho.2.2.2.2.1 h dX4_meanBeside_108 (fun v_6 h => ?_)
    refine x_iadd hM h dX4_meanBeside_109 (fun v_7 h => ?_)
    refine lv_istore (lv' := [(4, .int v_7), (0, .ref (a o)), (1, .int x1), (2, .int x2), (3, .int x3), (5, .int x5)]) hx hb dX4_meanBeside_110 hl (by decide) rfl (fun ls hl => ?_)
    refine x_iinc hM (fun v => [(5, .int v), (4, .int v_7), (0, .ref (a o)), (1, .int x1), (2, .int x2), (3, .int x3)]) h dX4_meanBeside_112 hl (k := 5) rfl (by decide) (by decide) (fun _ => rfl) (fun v_8 ls h hl => ?_)
    exact w_X4_meanBeside_115 ho hM hr hlk h (fun t0 e => k0 t0 e) hG (lv_sub hl [1, 0] rfl)
set_option maxHeartbeats 4000000 in
set_option maxRecDepth 100000 in
theorem w_X4_meanBeside_61 {o : Nat} (ho : xIs_X4 o) {x1 : Int32} {x2 : Int32} {x3 : Int32} {x4 : Int32} {x5 : Int32} (hM : xM p c cX4_meanBeside m s args RX4 6 D cy xtb a z) (hr : meth.sig.returnType = (some .int)) (hlk : meth.locks = false) {S' : xSt} {v' : Int32} {S : xSt} {q : (xSt × Int32)} (h : f_X4_meanBeside_61 o x1 x2 x3 x4 x5 S = some q) (k0 : ∀ t0 : xSt × Int32, q = t0 → t0 = (S', v')) {H : Heap} {locs : List Loc} (hG : xG D cy xtb a S s H locs) {ls : Array Slot} (hl : lv_has ls 6 [(0, .ref (a o)), (1, .int x1), (2, .int x2), (3, .int x3), (4, .int x4), (5, .int x5)]) : W p l e ({ frames := 1, cells := 0, slots := 0, locals := 22 } : Room) s m args below meth c H locs 0 0 (MQ below (xQi D cy xtb a S' v' s.heap.size) args s 0 0 (xA xtb a s.heap.size)) (F0 m 61 ls []) := by
  have hx := hM.1
  have hb := hM.2.1
  refine lv_aload_n hx hb dX4_meanBeside_61 rfl (lv_at hl 0 rfl) ?_
  refine lv_iload_n hx hb dX4_meanBeside_62 rfl (lv_at hl 2 rfl) ?_
  refine lv_iconst (v := (1 : Int32)) hx hb dX4_meanBeside_63 (by decide) ?_
  refine x_isub hM h dX4_meanBeside_64 (fun v_1 h => ?_)
  refine lv_iload_n hx hb dX4_meanBeside_65 rfl (lv_at hl 3 rfl) ?_
  refine x_cVi (As := [.int v_1, .int x3]) (rest := []) hM hG xml_X4_69 xwi_X4_isBeyond xws_X4_isBeyond ho.1 (by decide) rfl h (fun S' v e => c_X4_isBeyond hM.2.2.2.2.2.2.1 ho e _) ⟨Nat.le_of_ble_eq_true rfl, Nat.le_of_ble_eq_true rfl⟩ rfl hl.1 rfl (Nat.le_of_ble_eq_true rfl) dX4_meanBeside_66 (fun S_2 v_3 H locs h hG => ?_)
  refine x_if_ne (tgt := 88) hM h dX4_meanBeside_69 (by decide) (fun c_4 h => ?_) (fun c_4 h => ?_)
  · exact w_X4_meanBeside_88 ho hM hr hlk h (fun t0 e => k0 t0 e) hG (lv_sub hl [0, 1, 2, 3, 4, 5] rfl)
  · refine lv_iload hx hb dX4_meanBeside_72 (lv_at hl 4 rfl) ?_
    refine lv_aload_n hx hb dX4_meanBeside_74 rfl (lv_at hl 0 rfl) ?_
    refine x_gr (r := o + 4) hM hG xfl_X4_21 ho.1 (by decide) rfl dX4_meanBeside_75 ?_
    refine lv_iload_n hx hb dX4_meanBeside_78 rfl (lv_at hl 1 rfl) ?_
    refine lv_iconst (v := (5 : Int32)) hx hb dX4_meanBeside_79 (by decide) ?_
    refine x_isub hM h dX4_meanBeside_80 (fun v_5 h => ?_)
    refine x_iald hM hG ho.2.2.2.2.1 h dX4_meanBeside_81 (fun v_6 h => ?_)
    refine x_iadd hM h dX4_meanBeside_82 (fun v_7 h => ?_)
    refine lv_istore (lv' := [(4, .int v_7), (0, .ref (a o)), (1, .int x1), (2, .int x2), (3, .int x3), (5, .int x5)]) hx hb dX4_meanBeside_83 hl (by decide) rfl (fun ls hl => ?_)
    refine x_iinc hM (fun v => [(5, .int v), (4, .int v_7), (0, .ref (a o)), (1, .int x1), (2, .int x2), (3, .int x3)]) h dX4_meanBeside_85 hl (k := 5) rfl (by decide) (by decide) (fun _ => rfl) (fun v_8 ls h hl => ?_)
    exact w_X4_meanBeside_88 ho hM hr hlk h (fun t0 e => k0 t0 e) hG (lv_sub hl [2, 3, 4, 5, 1, 0] rfl)
set_option maxHeartbeats 4000000 in
set_option maxRecDepth 100000 in
theorem w_X4_meanBeside_34 {o : Nat} (ho : xIs_X4 o) {x1 : Int32} {x2 : Int32} {x3 : Int32} {x4 : Int32} {x5 : Int32} (hM : xM p c cX4_meanBeside m s args RX4 6 D cy xtb a z) (hr : meth.sig.returnType = (some .int)) (hlk : meth.locks = false) {S' : xSt} {v' : Int32} {S : xSt} {q : (xSt × Int32)} (h : f_X4_meanBeside_34 o x1 x2 x3 x4 x5 S = some q) (k0 : ∀ t0 : xSt × Int32, q = t0 → t0 = (S', v')) {H : Heap} {locs : List Loc} (hG : xG D cy xtb a S s H locs) {ls : Array Slot} (hl : lv_has ls 6 [(0, .ref (a o)), (1, .int x1), (2, .int x2), (3, .int x3), (4, .int x4), (5, .int x5)]) : W p l e ({ frames := 1, cells := 0, slots := 0, locals := 22 } : Room) s m args below meth c H locs 0 0 (MQ below (xQi D cy xtb a S' v' s.heap.size) args s 0 0 (xA xtb a s.heap.size)) (F0 m 34 ls []) := by
  have hx := hM.1
  have hb := hM.2.1
  refine lv_aload_n hx hb dX4_meanBeside_34 rfl (lv_at hl 0 rfl) ?_
  refine lv_iload_n hx hb dX4_meanBeside_35 rfl (lv_at hl 2 rfl) ?_
  refine lv_iload_n hx hb dX4_meanBeside_36 rfl (lv_at hl 3 rfl) ?_
  refine lv_iconst (v := (1 : Int32)) hx hb dX4_meanBeside_37 (by decide) ?_
  refine x_iadd hM h dX4_meanBeside_38 (fun v_1 h => ?_)
  refine x_cVi (As := [.int x2, .int v_1]) (rest := []) hM hG xml_X4_69 xwi_X4_isBeyond xws_X4_isBeyond ho.1 (by decide) rfl h (fun S' v e => c_X4_isBeyond hM.2.2.2.2.2.2.1 ho e _) ⟨Nat.le_of_ble_eq_true rfl, Nat.le_of_ble_eq_true rfl⟩ rfl hl.1 rfl (Nat.le_of_ble_eq_true rfl) dX4_meanBeside_39 (fun S_2 v_3 H locs h hG => ?_)
  refine x_if_ne (tgt := 61) hM h dX4_meanBeside_42 (by decide) (fun c_4 h => ?_) (fun c_4 h => ?_)
  · exact w_X4_meanBeside_61 ho hM hr hlk h (fun t0 e => k0 t0 e) hG (lv_sub hl [0, 1, 2, 3, 4, 5] rfl)
  · refine lv_iload hx hb dX4_meanBeside_45 (lv_at hl 4 rfl) ?_
    refine lv_aload_n hx hb dX4_meanBeside_47 rfl (lv_at hl 0 rfl) ?_
    refine x_gr (r := o + 4) hM hG xfl_X4_21 ho.1 (by decide) rfl dX4_meanBeside_48 ?_
    refine lv_iload_n hx hb dX4_meanBeside_51 rfl (lv_at hl 1 rfl) ?_
    refine lv_iconst (v := (1 : Int32)) hx hb dX4_meanBeside_52 (by decide) ?_
    refine x_iadd hM h dX4_meanBeside_53 (fun v_5 h => ?_)
    refine x_iald hM hG ho.2.2.2.2.1 h dX4_meanBeside_54 (fun v_6 h => ?_)
    refine x_iadd hM h dX4_meanBeside_55 (fun v_7 h => ?_)
    refine lv_istore (lv' := [(4, .int v_7), (0, .ref (a o)), (1, .int x1), (2, .int x2), (3, .int x3), (5, .int x5)]) hx hb dX4_meanBeside_56 hl (by decide) rfl (fun ls hl => ?_)
    refine x_iinc hM (fun v => [(5, .int v), (4, .int v_7), (0, .ref (a o)), (1, .int x1), (2, .int x2), (3, .int x3)]) h dX4_meanBeside_58 hl (k := 5) rfl (by decide) (by decide) (fun _ => rfl) (fun v_8 ls h hl => ?_)
    exact w_X4_meanBeside_61 ho hM hr hlk h (fun t0 e => k0 t0 e) hG (lv_sub hl [2, 3, 4, 5, 1, 0] rfl)
set_option maxHeartbeats 4000000 in
set_option maxRecDepth 100000 in
theorem w_X4_meanBeside_0 {o : Nat} (ho : xIs_X4 o) {x1 : Int32} (hM : xM p c cX4_meanBeside m s args RX4 6 D cy xtb a z) (hr : meth.sig.returnType = (some .int)) (hlk : meth.locks = false) {S' : xSt} {v' : Int32} {S : xSt} {q : (xSt × Int32)} (h : f_X4_meanBeside_0 o x1 S = some q) (k0 : ∀ t0 : xSt × Int32, q = t0 → t0 = (S', v')) {H : Heap} {locs : List Loc} (hG : xG D cy xtb a S s H locs) {ls : Array Slot} (hl : lv_has ls 6 [(0, .ref (a o)), (1, .int x1)]) : W p l e ({ frames := 1, cells := 0, slots := 0, locals := 22 } : Room) s m args below meth c H locs 0 0 (MQ below (xQi D cy xtb a S' v' s.heap.size) args s 0 0 (xA xtb a s.heap.size)) (F0 m 0 ls []) := by
  have hx := hM.1
  have hb := hM.2.1
  refine lv_iload_n hx hb dX4_meanBeside_0 rfl (lv_at hl 1 rfl) ?_
  refine lv_iconst (v := (5 : Int32)) hx hb dX4_meanBeside_1 (by decide) ?_
  refine x_idiv hM h dX4_meanBeside_2 (fun v_1 h => ?_)
  refine lv_istore_n (lv' := [(2, .int v_1), (0, .ref (a o)), (1, .int x1)]) hx hb dX4_meanBeside_3 rfl hl (by decide) rfl (fun ls hl => ?_)
  refine lv_iload_n hx hb dX4_meanBeside_4 rfl (lv_at hl 2 rfl) ?_
  refine lv_iconst (v := (5 : Int32)) hx hb dX4_meanBeside_5 (by decide) ?_
  refine x_irem hM h dX4_meanBeside_6 (fun v_2 h => ?_)
  refine lv_istore_n (lv' := [(3, .int v_2), (2, .int v_1), (0, .ref (a o)), (1, .int x1)]) hx hb dX4_meanBeside_7 rfl hl (by decide) rfl (fun ls hl => ?_)
  refine lv_iconst (v := (0 : Int32)) hx hb dX4_meanBeside_8 (by decide) ?_
  refine lv_istore (lv' := [(4, .int (0 : Int32)), (3, .int v_2), (2, .int v_1), (0, .ref (a o)), (1, .int x1)]) hx hb dX4_meanBeside_9 hl (by decide) rfl (fun ls hl => ?_)
  refine lv_iconst (v := (0 : Int32)) hx hb dX4_meanBeside_11 (by decide) ?_
  refine lv_istore (lv' := [(5, .int (0 : Int32)), (4, .int (0 : Int32)), (3, .int v_2), (2, .int v_1), (0, .ref (a o)), (1, .int x1)]) hx hb dX4_meanBeside_12 hl (by decide) rfl (fun ls hl => ?_)
  refine lv_iload_n hx hb dX4_meanBeside_14 rfl (lv_at hl 2 rfl) ?_
  refine x_if_le (tgt := 34) hM h dX4_meanBeside_15 (by decide) (fun c_3 h => ?_) (fun c_3 h => ?_)
  · exact w_X4_meanBeside_34 ho hM hr hlk h (fun t0 e => k0 t0 e) hG (lv_sub hl [4, 5, 3, 2, 1, 0] rfl)
  · refine lv_iload hx hb dX4_meanBeside_18 (lv_at hl 1 rfl) ?_
    refine lv_aload_n hx hb dX4_meanBeside_20 rfl (lv_at hl 4 rfl) ?_
    refine x_gr (r := o + 4) hM hG xfl_X4_21 ho.1 (by decide) rfl dX4_meanBeside_21 ?_
    refine lv_iload_n hx hb dX4_meanBeside_24 rfl (lv_at hl 5 rfl) ?_
    refine lv_iconst (v := (1 : Int32)) hx hb dX4_meanBeside_25 (by decide) ?_
    refine x_isub hM h dX4_meanBeside_26 (fun v_4 h => ?_)
    refine x_iald hM hG ho.2.2.2.2.1 h dX4_meanBeside_27 (fun v_5 h => ?_)
    refine x_iadd hM h dX4_meanBeside_28 (fun v_6 h => ?_)
    refine lv_istore (lv' := [(4, .int v_6), (5, .int (0 : Int32)), (3, .int v_2), (2, .int v_1), (0, .ref (a o)), (1, .int x1)]) hx hb dX4_meanBeside_29 hl (by decide) rfl (fun ls hl => ?_)
    refine x_iinc hM (fun v => [(5, .int v), (4, .int v_6), (3, .int v_2), (2, .int v_1), (0, .ref (a o)), (1, .int x1)]) h dX4_meanBeside_31 hl (k := 1) rfl (by decide) (by decide) (fun _ => rfl) (fun v_7 ls h hl => ?_)
    exact w_X4_meanBeside_34 ho hM hr hlk h (fun t0 e => k0 t0 e) hG (lv_sub hl [4, 5, 3, 2, 1, 0] rfl)
set_option maxHeartbeats 4000000 in
set_option maxRecDepth 100000 in
theorem c_X4_meanBeside {l : Launch} {D : va_G} {cy : Nat → ClassId} {a z : Nat → Nat} (hI : xI xtb a) {o : Nat} (ho : xIs_X4 o) {S : xSt} {x1 : Int32} {S' : xSt} {v' : Int32} (hf : f_X4_meanBeside o S x1 = some (S', v')) (sz : Nat) : Met l yX4_meanBeside (Cond.code yX4_meanBeside cX4_meanBeside 6 (some .int) :: xTB) ({ frames := 1, cells := 0, slots := 0, locals := 22 } : Room) (va_Pc [.ref (a o), .int x1] (xPre D cy xtb a z S sz)) (xQi D cy xtb a S' v' sz) 0 0 (xA xtb a sz) := by
  refine Met.ofW (cc := cX4_meanBeside) (maxL := 6) (ret := (some .int)) (by decide) rfl ?_
  intro p e s m args below meth c s₁ B hml hv
  obtain ⟨rfl, hsz, hP, hK, hE⟩ := hv
  subst hsz
  have hl := lv_entry ([.ref (a o), .int x1]) (n := 6) (Nat.le_of_ble_eq_true rfl)
  rw [lg_entry_eq]
  generalize (lg_sl ([.ref (a o), .int x1]) ++ List.replicate (6 - (lg_sl ([.ref (a o), .int x1])).length) Slot.unset).toArray = ls at hl ⊢
  have hl : lv_has ls 6 [(0, .ref (a o)), (1, .int x1)] := hl
  exact w_X4_meanBeside_0 ho ⟨B.exec, B.bytes, hml, findClass_of_methodNamed B.named, fun w hw => atoms_spec (ws := Cond.code yX4_meanBeside cX4_meanBeside 6 (some .int) :: xTB) B.pre w (List.mem_cons_of_mem _ hw), hK, hI, hE⟩ B.returns B.notSynchronized hf (fun t0 e => e.symm) ⟨hP, va_S.rf⟩ (lv_sub hl [0, 1] rfl)
set_option maxHeartbeats 4000000 in
set_option maxRecDepth 100000 in
theorem w_X5_held_0 {x0 : Int32} (hM : xM p c cX5_held m s args RX5 1 D cy xtb a z) (hr : meth.sig.returnType = (some .int)) (hlk : meth.locks = false) {S' : xSt} {v' : Int32} {S : xSt} {q : (xSt × Int32)} (h : f_X5_held_0 x0 S = some q) (k0 : ∀ t0 : xSt × Int32, q = t0 → t0 = (S', v')) {H : Heap} {locs : List Loc} (hG : xG D cy xtb a S s H locs) {ls : Array Slot} (hl : lv_has ls 1 [(0, .int x0)]) : W p l e ({ frames := 1, cells := 0, slots := 0, locals := 26 } : Room) s m args below meth c H locs 0 0 (MQ below (xQi D cy xtb a S' v' s.heap.size) args s 0 0 (xA xtb a s.heap.size)) (F0 m 0 ls []) := by
  have hx := hM.1
  have hb := hM.2.1
  refine lv_bipush (v := (-20 : Int32)) hx hb dX5_held_0 (by decide) ?_
  refine lv_bipush (v := (20 : Int32)) hx hb dX5_held_2 (by decide) ?_
  refine lv_iload_n hx hb dX5_held_4 rfl (lv_at hl 0 rfl) ?_
  refine x_mmin hM hl.1 xmm_X5_76 h (Nat.le_of_ble_eq_true rfl) (Nat.le_of_ble_eq_true rfl) dX5_held_5 (fun v_1 h => ?_)
  refine x_mmax hM hl.1 xmm_X5_82 h (Nat.le_of_ble_eq_true rfl) (Nat.le_of_ble_eq_true rfl) dX5_held_8 (fun v_2 h => ?_)
  exact x_ri hM hG hr hlk rfl (k0 _ (Option.some.inj h).symm) dX5_held_11
set_option maxHeartbeats 4000000 in
set_option maxRecDepth 100000 in
theorem c_X5_held {l : Launch} {D : va_G} {cy : Nat → ClassId} {a z : Nat → Nat} (hI : xI xtb a) {S : xSt} {x0 : Int32} {S' : xSt} {v' : Int32} (hf : f_X5_held S x0 = some (S', v')) (sz : Nat) : Met l yX5_held (Cond.code yX5_held cX5_held 1 (some .int) :: xTB) ({ frames := 1, cells := 0, slots := 0, locals := 26 } : Room) (va_Pc [.int x0] (xPre D cy xtb a z S sz)) (xQi D cy xtb a S' v' sz) 0 0 (xA xtb a sz) := by
  refine Met.ofW (cc := cX5_held) (maxL := 1) (ret := (some .int)) (by decide) rfl ?_
  intro p e s m args below meth c s₁ B hml hv
  obtain ⟨rfl, hsz, hP, hK, hE⟩ := hv
  subst hsz
  have hl := lv_entry ([.int x0]) (n := 1) (Nat.le_of_ble_eq_true rfl)
  rw [lg_entry_eq]
  generalize (lg_sl ([.int x0]) ++ List.replicate (1 - (lg_sl ([.int x0])).length) Slot.unset).toArray = ls at hl ⊢
  have hl : lv_has ls 1 [(0, .int x0)] := hl
  exact w_X5_held_0 ⟨B.exec, B.bytes, hml, findClass_of_methodNamed B.named, fun w hw => atoms_spec (ws := Cond.code yX5_held cX5_held 1 (some .int) :: xTB) B.pre w (List.mem_cons_of_mem _ hw), hK, hI, hE⟩ B.returns B.notSynchronized hf (fun t0 e => e.symm) ⟨hP, va_S.rf⟩ (lv_sub hl [0] rfl)
set_option maxHeartbeats 4000000 in
set_option maxRecDepth 100000 in
theorem w_X5_run_426 {x2 : Int32} {x3 : Int32} {x4 : Int32} (hM : xM p c cX5_run m s args RX5 9 D cy xtb a z) (hr : meth.sig.returnType = (some .int)) (hlk : meth.locks = false) {S' : xSt} {v' : Int32} {S : xSt} {q : ((xSt × Int32 × Int32) ⊕ (xSt × Int32))} (h : f_X5_run_426 x2 x3 x4 S = some q) (k0 : ∀ t0 : xSt × Int32, q = (.inr t0) → t0 = (S', v')) (k1 : ∀ (S : xSt) (x3 : Int32) (x4 : Int32), q = (.inl (S, x3, x4)) → ∀ (H : Heap) (locs : List Loc) (ls : Array Slot), xG D cy xtb a S s H locs → lv_has ls 9 [(0, .ref (a 8)), (2, .int x2), (3, .int x3), (4, .int x4)] → W p l e ({ frames := 0, cells := 0, slots := 0, locals := 0 } : Room) s m args below meth c H locs 0 0 (MQ below (xQi D cy xtb a S' v' s.heap.size) args s 0 0 (xA xtb a s.heap.size)) (F0 m 5 ls [])) {H : Heap} {locs : List Loc} (hG : xG D cy xtb a S s H locs) {ls : Array Slot} (hl : lv_has ls 9 [(0, .ref (a 8)), (2, .int x2), (3, .int x3), (4, .int x4)]) : W p l e ({ frames := 0, cells := 0, slots := 0, locals := 0 } : Room) s m args below meth c H locs 0 0 (MQ below (xQi D cy xtb a S' v' s.heap.size) args s 0 0 (xA xtb a s.heap.size)) (F0 m 426 ls []) := by
  have hx := hM.1
  have hb := hM.2.1
  refine x_iinc hM (fun v => [(4, .int v), (0, .ref (a 8)), (2, .int x2), (3, .int x3)]) h dX5_run_426 hl (k := 3) rfl (by decide) (by decide) (fun _ => rfl) (fun v_1 ls h hl => ?_)
  refine lv_goto (tgt := 5) hx hb dX5_run_429 (by decide) ?_
  exact k1 _ _ _ (Option.some.inj h).symm _ _ _ hG (lv_sub hl [1, 2, 3, 0] rfl)
set_option maxHeartbeats 4000000 in
set_option maxRecDepth 100000 in
theorem w_X5_run_95 {x2 : Int32} {x3 : Int32} {x4 : Int32} {y1 : Int32} {y2 : Int32} (hM : xM p c cX5_run m s args RX5 9 D cy xtb a z) (hr : meth.sig.returnType = (some .int)) (hlk : meth.locks = false) {S' : xSt} {v' : Int32} {S : xSt} {q : ((xSt × Int32 × Int32) ⊕ (xSt × Int32))} (h : f_X5_run_95 x2 x3 x4 y1 y2 S = some q) (k0 : ∀ t0 : xSt × Int32, q = (.inr t0) → t0 = (S', v')) (k1 : ∀ (S : xSt) (x3 : Int32) (x4 : Int32), q = (.inl (S, x3, x4)) → ∀ (H : Heap) (locs : List Loc) (ls : Array Slot), xG D cy xtb a S s H locs → lv_has ls 9 [(0, .ref (a 8)), (2, .int x2), (3, .int x3), (4, .int x4)] → W p l e ({ frames := 0, cells := 0, slots := 0, locals := 0 } : Room) s m args below meth c H locs 0 0 (MQ below (xQi D cy xtb a S' v' s.heap.size) args s 0 0 (xA xtb a s.heap.size)) (F0 m 5 ls [])) {H : Heap} {locs : List Loc} (hG : xG D cy xtb a S s H locs) {ls : Array Slot} (hl : lv_has ls 9 [(0, .ref (a 8)), (2, .int x2), (3, .int x3), (4, .int x4)]) : W p l e ({ frames := 0, cells := 0, slots := 0, locals := 0 } : Room) s m args below meth c H locs 0 0 (MQ below (xQi D cy xtb a S' v' s.heap.size) args s 0 0 (xA xtb a s.heap.size)) (F0 m 95 ls [.int y2, .int y1, .ref (a 14)]) := by
  have hx := hM.1
  have hb := hM.2.1
  refine x_iast hM hG xct_14 h dX5_run_95 (fun S_1 H locs h hG => ?_)
  refine lv_goto (tgt := 426) hx hb dX5_run_96 (by decide) ?_
  exact w_X5_run_426 hM hr hlk h (fun t0 e => k0 t0 e) (fun S x3 x4 e => k1 S x3 x4 e) hG (lv_sub hl [0, 1, 2, 3] rfl)
set_option maxHeartbeats 4000000 in
set_option maxRecDepth 100000 in
theorem w_X5_run_52 {x2 : Int32} {x3 : Int32} {x4 : Int32} {x5 : Int32} (hM : xM p c cX5_run m s args RX5 9 D cy xtb a z) (hr : meth.sig.returnType = (some .int)) (hlk : meth.locks = false) {S' : xSt} {v' : Int32} {S : xSt} {q : ((xSt × Int32 × Int32) ⊕ (xSt × Int32))} (h : f_X5_run_52 x2 x3 x4 x5 S = some q) (k0 : ∀ t0 : xSt × Int32, q = (.inr t0) → t0 = (S', v')) (k1 : ∀ (S : xSt) (x3 : Int32) (x4 : Int32), q = (.inl (S, x3, x4)) → ∀ (H : Heap) (locs : List Loc) (ls : Array Slot), xG D cy xtb a S s H locs → lv_has ls 9 [(0, .ref (a 8)), (2, .int x2), (3, .int x3), (4, .int x4)] → W p l e ({ frames := 0, cells := 0, slots := 0, locals := 0 } : Room) s m args below meth c H locs 0 0 (MQ below (xQi D cy xtb a S' v' s.heap.size) args s 0 0 (xA xtb a s.heap.size)) (F0 m 5 ls [])) {H : Heap} {locs : List Loc} (hG : xG D cy xtb a S s H locs) {ls : Array Slot} (hl : lv_has ls 9 [(0, .ref (a 8)), (2, .int x2), (3, .int x3), (4, .int x4), (5, .int x5)]) : W p l e ({ frames := 0, cells := 0, slots := 0, locals := 0 } : Room) s m args below meth c H locs 0 0 (MQ below (xQi D cy xtb a S' v' s.heap.size) args s 0 0 (xA xtb a s.heap.size)) (F0 m 52 ls []) := by
  have hx := hM.1
  have hb := hM.2.1
  refine x_iinc hM (fun v => [(3, .int v), (0, .ref (a 8)), (2, .int x2), (4, .int x4), (5, .int x5)]) h dX5_run_52 hl (k := 2) rfl (by decide) (by decide) (fun _ => rfl) (fun v_1 ls h hl => ?_)
  refine lv_aload_n hx hb dX5_run_55 rfl (lv_at hl 1 rfl) ?_
  refine x_gr (r := 14) hM hG xfl_X5_29 xct_8 (by decide) rfl dX5_run_56 ?_
  refine lv_iload_n hx hb dX5_run_59 rfl (lv_at hl 0 rfl) ?_
  refine lv_bipush (v := (63 : Int32)) hx hb dX5_run_60 (by decide) ?_
  refine x_iand hM h dX5_run_62 (fun v_2 h => ?_)
  refine lv_iload hx hb dX5_run_63 (lv_at hl 4 rfl) ?_
  refine lv_bipush (v := (35 : Int32)) hx hb dX5_run_65 (by decide) ?_
  refine x_icmp_ne (tgt := 80) hM h dX5_run_67 (by decide) (fun c_3 h => ?_) (fun c_3 h => ?_)
  · refine lv_aload_n hx hb dX5_run_80 rfl (lv_at hl 1 rfl) ?_
    refine x_gr (r := 13) hM hG xfl_X5_26 xct_8 (by decide) rfl dX5_run_81 ?_
    refine lv_aload_n hx hb dX5_run_84 rfl (lv_at hl 1 rfl) ?_
    refine x_gr (r := 10) hM hG xfl_X5_17 xct_8 (by decide) rfl dX5_run_85 ?_
    refine lv_iload hx hb dX5_run_88 (lv_at hl 3 rfl) ?_
    refine x_iald hM hG xct_10 h dX5_run_90 (fun v_4 h => ?_)
    refine lv_bipush (v := (7 : Int32)) hx hb dX5_run_91 (by decide) ?_
    refine x_iand hM h dX5_run_93 (fun v_5 h => ?_)
    refine x_iald hM hG xct_13 h dX5_run_94 (fun v_6 h => ?_)
    exact w_X5_run_95 hM hr hlk h (fun t0 e => k0 t0 e) (fun S x3 x4 e => k1 S x3 x4 e) hG (lv_sub hl [1, 2, 0, 3] rfl)
  · refine lv_aload_n hx hb dX5_run_70 rfl (lv_at hl 1 rfl) ?_
    refine x_gr (r := 10) hM hG xfl_X5_17 xct_8 (by decide) rfl dX5_run_71 ?_
    refine lv_iload hx hb dX5_run_74 (lv_at hl 3 rfl) ?_
    refine x_iald hM hG xct_10 h dX5_run_76 (fun v_7 h => ?_)
    refine lv_goto (tgt := 95) hx hb dX5_run_77 (by decide) ?_
    exact w_X5_run_95 hM hr hlk h (fun t0 e => k0 t0 e) (fun S x3 x4 e => k1 S x3 x4 e) hG (lv_sub hl [1, 2, 0, 3] rfl)
set_option maxHeartbeats 4000000 in
set_option maxRecDepth 100000 in
theorem w_X5_run_144 {x2 : Int32} {x3 : Int32} {x4 : Int32} {y1 : Int32} {y2 : Int32} (hM : xM p c cX5_run m s args RX5 9 D cy xtb a z) (hr : meth.sig.returnType = (some .int)) (hlk : meth.locks = false) {S' : xSt} {v' : Int32} {S : xSt} {q : ((xSt × Int32 × Int32) ⊕ (xSt × Int32))} (h : f_X5_run_144 x2 x3 x4 y1 y2 S = some q) (k0 : ∀ t0 : xSt × Int32, q = (.inr t0) → t0 = (S', v')) (k1 : ∀ (S : xSt) (x3 : Int32) (x4 : Int32), q = (.inl (S, x3, x4)) → ∀ (H : Heap) (locs : List Loc) (ls : Array Slot), xG D cy xtb a S s H locs → lv_has ls 9 [(0, .ref (a 8)), (2, .int x2), (3, .int x3), (4, .int x4)] → W p l e ({ frames := 0, cells := 0, slots := 0, locals := 0 } : Room) s m args below meth c H locs 0 0 (MQ below (xQi D cy xtb a S' v' s.heap.size) args s 0 0 (xA xtb a s.heap.size)) (F0 m 5 ls [])) {H : Heap} {locs : List Loc} (hG : xG D cy xtb a S s H locs) {ls : Array Slot} (hl : lv_has ls 9 [(0, .ref (a 8)), (2, .int x2), (3, .int x3), (4, .int x4)]) : W p l e ({ frames := 0, cells := 0, slots := 0, locals := 0 } : Room) s m args below meth c H locs 0 0 (MQ below (xQi D cy xtb a S' v' s.heap.size) args s 0 0 (xA xtb a s.heap.size)) (F0 m 144 ls [.int y2, .int y1, .ref (a 14)]) := by
  have hx := hM.1
  have hb := hM.2.1
  refine x_iast hM hG xct_14 h dX5_run_144 (fun S_1 H locs h hG => ?_)
  refine lv_goto (tgt := 426) hx hb dX5_run_145 (by decide) ?_
  exact w_X5_run_426 hM hr hlk h (fun t0 e => k0 t0 e) (fun S x3 x4 e => k1 S x3 x4 e) hG (lv_sub hl [0, 1, 2, 3] rfl)
set_option maxHeartbeats 4000000 in
set_option maxRecDepth 100000 in
theorem w_X5_run_113 {x2 : Int32} {x3 : Int32} {x4 : Int32} {x5 : Int32} {x6 : Int32} (hM : xM p c cX5_run m s args RX5 9 D cy xtb a z) (hr : meth.sig.returnType = (some .int)) (hlk : meth.locks = false) {S' : xSt} {v' : Int32} {S : xSt} {q : ((xSt × Int32 × Int32) ⊕ (xSt × Int32))} (h : f_X5_run_113 x2 x3 x4 x5 x6 S = some q) (k0 : ∀ t0 : xSt × Int32, q = (.inr t0) → t0 = (S', v')) (k1 : ∀ (S : xSt) (x3 : Int32) (x4 : Int32), q = (.inl (S, x3, x4)) → ∀ (H : Heap) (locs : List Loc) (ls : Array Slot), xG D cy xtb a S s H locs → lv_has ls 9 [(0, .ref (a 8)), (2, .int x2), (3, .int x3), (4, .int x4)] → W p l e ({ frames := 0, cells := 0, slots := 0, locals := 0 } : Room) s m args below meth c H locs 0 0 (MQ below (xQi D cy xtb a S' v' s.heap.size) args s 0 0 (xA xtb a s.heap.size)) (F0 m 5 ls [])) {H : Heap} {locs : List Loc} (hG : xG D cy xtb a S s H locs) {ls : Array Slot} (hl : lv_has ls 9 [(0, .ref (a 8)), (2, .int x2), (3, .int x3), (4, .int x4), (5, .int x5), (6, .int x6)]) : W p l e ({ frames := 0, cells := 0, slots := 0, locals := 0 } : Room) s m args below meth c H locs 0 0 (MQ below (xQi D cy xtb a S' v' s.heap.size) args s 0 0 (xA xtb a s.heap.size)) (F0 m 113 ls []) := by
  have hx := hM.1
  have hb := hM.2.1
  refine lv_aload_n hx hb dX5_run_113 rfl (lv_at hl 0 rfl) ?_
  refine x_gr (r := 14) hM hG xfl_X5_29 xct_8 (by decide) rfl dX5_run_114 ?_
  refine lv_iload_n hx hb dX5_run_117 rfl (lv_at hl 2 rfl) ?_
  refine lv_bipush (v := (63 : Int32)) hx hb dX5_run_118 (by decide) ?_
  refine x_iand hM h dX5_run_120 (fun v_1 h => ?_)
  refine lv_iload hx hb dX5_run_121 (lv_at hl 4 rfl) ?_
  refine lv_bipush (v := (126 : Int32)) hx hb dX5_run_123 (by decide) ?_
  refine x_icmp_ne (tgt := 134) hM h dX5_run_125 (by decide) (fun c_2 h => ?_) (fun c_2 h => ?_)
  · refine lv_iload hx hb dX5_run_134 (lv_at hl 5 rfl) ?_
    refine x_if_ne (tgt := 143) hM h dX5_run_136 (by decide) (fun c_3 h => ?_) (fun c_3 h => ?_)
    · refine lv_iconst (v := (0 : Int32)) hx hb dX5_run_143 (by decide) ?_
      exact w_X5_run_144 hM hr hlk h (fun t0 e => k0 t0 e) (fun S x3 x4 e => k1 S x3 x4 e) hG (lv_sub hl [0, 1, 2, 3] rfl)
    · refine lv_iconst (v := (1 : Int32)) hx hb dX5_run_139 (by decide) ?_
      refine lv_goto (tgt := 144) hx hb dX5_run_140 (by decide) ?_
      exact w_X5_run_144 hM hr hlk h (fun t0 e => k0 t0 e) (fun S x3 x4 e => k1 S x3 x4 e) hG (lv_sub hl [0, 1, 2, 3] rfl)
  · refine lv_iload hx hb dX5_run_128 (lv_at hl 5 rfl) ?_
    refine x_ineg hM h dX5_run_130 (fun v_4 h => ?_)
    refine lv_goto (tgt := 144) hx hb dX5_run_131 (by decide) ?_
    exact w_X5_run_144 hM hr hlk h (fun t0 e => k0 t0 e) (fun S x3 x4 e => k1 S x3 x4 e) hG (lv_sub hl [0, 1, 2, 3] rfl)
set_option maxHeartbeats 4000000 in
set_option maxRecDepth 100000 in
theorem w_X5_run_415 {x2 : Int32} {x3 : Int32} {x4 : Int32} {x8 : Int32} (hM : xM p c cX5_run m s args RX5 9 D cy xtb a z) (hr : meth.sig.returnType = (some .int)) (hlk : meth.locks = false) {S' : xSt} {v' : Int32} {S : xSt} {q : ((xSt × Int32 × Int32) ⊕ (xSt × Int32))} (h : f_X5_run_415 x2 x3 x4 x8 S = some q) (k0 : ∀ t0 : xSt × Int32, q = (.inr t0) → t0 = (S', v')) (k1 : ∀ (S : xSt) (x3 : Int32) (x4 : Int32), q = (.inl (S, x3, x4)) → ∀ (H : Heap) (locs : List Loc) (ls : Array Slot), xG D cy xtb a S s H locs → lv_has ls 9 [(0, .ref (a 8)), (2, .int x2), (3, .int x3), (4, .int x4)] → W p l e ({ frames := 0, cells := 0, slots := 0, locals := 0 } : Room) s m args below meth c H locs 0 0 (MQ below (xQi D cy xtb a S' v' s.heap.size) args s 0 0 (xA xtb a s.heap.size)) (F0 m 5 ls [])) {H : Heap} {locs : List Loc} (hG : xG D cy xtb a S s H locs) {ls : Array Slot} (hl : lv_has ls 9 [(0, .ref (a 8)), (2, .int x2), (3, .int x3), (4, .int x4), (8, .int x8)]) : W p l e ({ frames := 0, cells := 0, slots := 0, locals := 0 } : Room) s m args below meth c H locs 0 0 (MQ below (xQi D cy xtb a S' v' s.heap.size) args s 0 0 (xA xtb a s.heap.size)) (F0 m 415 ls []) := by
  have hx := hM.1
  have hb := hM.2.1
  refine lv_aload_n hx hb dX5_run_415 rfl (lv_at hl 0 rfl) ?_
  refine x_gr (r := 14) hM hG xfl_X5_29 xct_8 (by decide) rfl dX5_run_416 ?_
  refine lv_iload_n hx hb dX5_run_419 rfl (lv_at hl 2 rfl) ?_
  refine lv_bipush (v := (63 : Int32)) hx hb dX5_run_420 (by decide) ?_
  refine x_iand hM h dX5_run_422 (fun v_1 h => ?_)
  refine lv_iload hx hb dX5_run_423 (lv_at hl 4 rfl) ?_
  refine x_iast hM hG xct_14 h dX5_run_425 (fun S_2 H locs h hG => ?_)
  exact w_X5_run_426 hM hr hlk h (fun t0 e => k0 t0 e) (fun S x3 x4 e => k1 S x3 x4 e) hG (lv_sub hl [0, 1, 2, 3] rfl)
set_option maxHeartbeats 4000000 in
set_option maxRecDepth 100000 in
theorem w_X5_run_271 {x2 : Int32} {x3 : Int32} {x4 : Int32} {y0 : Int32} (hM : xM p c cX5_run m s args RX5 9 D cy xtb a z) (hr : meth.sig.returnType = (some .int)) (hlk : meth.locks = false) {S' : xSt} {v' : Int32} {S : xSt} {q : ((xSt × Int32 × Int32) ⊕ (xSt × Int32))} (h : f_X5_run_271 x2 x3 x4 y0 S = some q) (k0 : ∀ t0 : xSt × Int32, q = (.inr t0) → t0 = (S', v')) (k1 : ∀ (S : xSt) (x3 : Int32) (x4 : Int32), q = (.inl (S, x3, x4)) → ∀ (H : Heap) (locs : List Loc) (ls : Array Slot), xG D cy xtb a S s H locs → lv_has ls 9 [(0, .ref (a 8)), (2, .int x2), (3, .int x3), (4, .int x4)] → W p l e ({ frames := 0, cells := 0, slots := 0, locals := 0 } : Room) s m args below meth c H locs 0 0 (MQ below (xQi D cy xtb a S' v' s.heap.size) args s 0 0 (xA xtb a s.heap.size)) (F0 m 5 ls [])) {H : Heap} {locs : List Loc} (hG : xG D cy xtb a S s H locs) {ls : Array Slot} (hl : lv_has ls 9 [(0, .ref (a 8)), (2, .int x2), (3, .int x3), (4, .int x4)]) : W p l e ({ frames := 0, cells := 0, slots := 0, locals := 0 } : Room) s m args below meth c H locs 0 0 (MQ below (xQi D cy xtb a S' v' s.heap.size) args s 0 0 (xA xtb a s.heap.size)) (F0 m 271 ls [.int y0]) := by
  have hx := hM.1
  have hb := hM.2.1
  refine lv_istore (lv' := [(8, .int y0), (0, .ref (a 8)), (2, .int x2), (3, .int x3), (4, .int x4)]) hx hb dX5_run_271 hl (by decide) rfl (fun ls hl => ?_)
  refine lv_goto (tgt := 415) hx hb dX5_run_273 (by decide) ?_
  exact w_X5_run_415 hM hr hlk h (fun t0 e => k0 t0 e) (fun S x3 x4 e => k1 S x3 x4 e) hG (lv_sub hl [1, 2, 3, 4, 0] rfl)
set_option maxHeartbeats 4000000 in
set_option maxRecDepth 100000 in
theorem w_X5_run_266 {x2 : Int32} {x3 : Int32} {x4 : Int32} (hM : xM p c cX5_run m s args RX5 9 D cy xtb a z) (hr : meth.sig.returnType = (some .int)) (hlk : meth.locks = false) {S' : xSt} {v' : Int32} {S : xSt} {q : ((xSt × Int32 × Int32) ⊕ (xSt × Int32))} (h : f_X5_run_266 x2 x3 x4 S = some q) (k0 : ∀ t0 : xSt × Int32, q = (.inr t0) → t0 = (S', v')) (k1 : ∀ (S : xSt) (x3 : Int32) (x4 : Int32), q = (.inl (S, x3, x4)) → ∀ (H : Heap) (locs : List Loc) (ls : Array Slot), xG D cy xtb a S s H locs → lv_has ls 9 [(0, .ref (a 8)), (2, .int x2), (3, .int x3), (4, .int x4)] → W p l e ({ frames := 0, cells := 0, slots := 0, locals := 0 } : Room) s m args below meth c H locs 0 0 (MQ below (xQi D cy xtb a S' v' s.heap.size) args s 0 0 (xA xtb a s.heap.size)) (F0 m 5 ls [])) {H : Heap} {locs : List Loc} (hG : xG D cy xtb a S s H locs) {ls : Array Slot} (hl : lv_has ls 9 [(0, .ref (a 8)), (2, .int x2), (3, .int x3), (4, .int x4)]) : W p l e ({ frames := 0, cells := 0, slots := 0, locals := 0 } : Room) s m args below meth c H locs 0 0 (MQ below (xQi D cy xtb a S' v' s.heap.size) args s 0 0 (xA xtb a s.heap.size)) (F0 m 266 ls []) := by
  have hx := hM.1
  have hb := hM.2.1
  refine lv_iconst (v := (1 : Int32)) hx hb dX5_run_266 (by decide) ?_
  refine lv_goto (tgt := 271) hx hb dX5_run_267 (by decide) ?_
  exact w_X5_run_271 hM hr hlk h (fun t0 e => k0 t0 e) (fun S x3 x4 e => k1 S x3 x4 e) hG (lv_sub hl [0, 1, 2, 3] rfl)
set_option maxHeartbeats 4000000 in
set_option maxRecDepth 100000 in
theorem w_X5_run_291 {x2 : Int32} {x3 : Int32} {x4 : Int32} {y0 : Int32} (hM : xM p c cX5_run m s args RX5 9 D cy xtb a z) (hr : meth.sig.returnType = (some .int)) (hlk : meth.locks = false) {S' : xSt} {v' : Int32} {S : xSt} {q : ((xSt × Int32 × Int32) ⊕ (xSt × Int32))} (h : f_X5_run_291 x2 x3 x4 y0 S = some q) (k0 : ∀ t0 : xSt × Int32, q = (.inr t0) → t0 = (S', v')) (k1 : ∀ (S : xSt) (x3 : Int32) (x4 : Int32), q = (.inl (S, x3, x4)) → ∀ (H : Heap) (locs : List Loc) (ls : Array Slot), xG D cy xtb a S s H locs → lv_has ls 9 [(0, .ref (a 8)), (2, .int x2), (3, .int x3), (4, .int x4)] → W p l e ({ frames := 0, cells := 0, slots := 0, locals := 0 } : Room) s m args below meth c H locs 0 0 (MQ below (xQi D cy xtb a S' v' s.heap.size) args s 0 0 (xA xtb a s.heap.size)) (F0 m 5 ls [])) {H : Heap} {locs : List Loc} (hG : xG D cy xtb a S s H locs) {ls : Array Slot} (hl : lv_has ls 9 [(0, .ref (a 8)), (2, .int x2), (3, .int x3), (4, .int x4)]) : W p l e ({ frames := 0, cells := 0, slots := 0, locals := 0 } : Room) s m args below meth c H locs 0 0 (MQ below (xQi D cy xtb a S' v' s.heap.size) args s 0 0 (xA xtb a s.heap.size)) (F0 m 291 ls [.int y0]) := by
  have hx := hM.1
  have hb := hM.2.1
  refine lv_istore (lv' := [(8, .int y0), (0, .ref (a 8)), (2, .int x2), (3, .int x3), (4, .int x4)]) hx hb dX5_run_291 hl (by decide) rfl (fun ls hl => ?_)
  refine lv_goto (tgt := 415) hx hb dX5_run_293 (by decide) ?_
  exact w_X5_run_415 hM hr hlk h (fun t0 e => k0 t0 e) (fun S x3 x4 e => k1 S x3 x4 e) hG (lv_sub hl [1, 2, 3, 4, 0] rfl)
set_option maxHeartbeats 4000000 in
set_option maxRecDepth 100000 in
theorem w_X5_run_290 {x2 : Int32} {x3 : Int32} {x4 : Int32} (hM : xM p c cX5_run m s args RX5 9 D cy xtb a z) (hr : meth.sig.returnType = (some .int)) (hlk : meth.locks = false) {S' : xSt} {v' : Int32} {S : xSt} {q : ((xSt × Int32 × Int32) ⊕ (xSt × Int32))} (h : f_X5_run_290 x2 x3 x4 S = some q) (k0 : ∀ t0 : xSt × Int32, q = (.inr t0) → t0 = (S', v')) (k1 : ∀ (S : xSt) (x3 : Int32) (x4 : Int32), q = (.inl (S, x3, x4)) → ∀ (H : Heap) (locs : List Loc) (ls : Array Slot), xG D cy xtb a S s H locs → lv_has ls 9 [(0, .ref (a 8)), (2, .int x2), (3, .int x3), (4, .int x4)] → W p l e ({ frames := 0, cells := 0, slots := 0, locals := 0 } : Room) s m args below meth c H locs 0 0 (MQ below (xQi D cy xtb a S' v' s.heap.size) args s 0 0 (xA xtb a s.heap.size)) (F0 m 5 ls [])) {H : Heap} {locs : List Loc} (hG : xG D cy xtb a S s H locs) {ls : Array Slot} (hl : lv_has ls 9 [(0, .ref (a 8)), (2, .int x2), (3, .int x3), (4, .int x4)]) : W p l e ({ frames := 0, cells := 0, slots := 0, locals := 0 } : Room) s m args below meth c H locs 0 0 (MQ below (xQi D cy xtb a S' v' s.heap.size) args s 0 0 (xA xtb a s.heap.size)) (F0 m 290 ls []) := by
  have hx := hM.1
  have hb := hM.2.1
  refine lv_iconst (v := (0 : Int32)) hx hb dX5_run_290 (by decide) ?_
  exact w_X5_run_291 hM hr hlk h (fun t0 e => k0 t0 e) (fun S x3 x4 e => k1 S x3 x4 e) hG (lv_sub hl [0, 1, 2, 3] rfl)
set_option maxHeartbeats 4000000 in
set_option maxRecDepth 100000 in
theorem w_X5_run_308 {x2 : Int32} {x3 : Int32} {x4 : Int32} {y0 : Int32} (hM : xM p c cX5_run m s args RX5 9 D cy xtb a z) (hr : meth.sig.returnType = (some .int)) (hlk : meth.locks = false) {S' : xSt} {v' : Int32} {S : xSt} {q : ((xSt × Int32 × Int32) ⊕ (xSt × Int32))} (h : f_X5_run_308 x2 x3 x4 y0 S = some q) (k0 : ∀ t0 : xSt × Int32, q = (.inr t0) → t0 = (S', v')) (k1 : ∀ (S : xSt) (x3 : Int32) (x4 : Int32), q = (.inl (S, x3, x4)) → ∀ (H : Heap) (locs : List Loc) (ls : Array Slot), xG D cy xtb a S s H locs → lv_has ls 9 [(0, .ref (a 8)), (2, .int x2), (3, .int x3), (4, .int x4)] → W p l e ({ frames := 0, cells := 0, slots := 0, locals := 0 } : Room) s m args below meth c H locs 0 0 (MQ below (xQi D cy xtb a S' v' s.heap.size) args s 0 0 (xA xtb a s.heap.size)) (F0 m 5 ls [])) {H : Heap} {locs : List Loc} (hG : xG D cy xtb a S s H locs) {ls : Array Slot} (hl : lv_has ls 9 [(0, .ref (a 8)), (2, .int x2), (3, .int x3), (4, .int x4)]) : W p l e ({ frames := 0, cells := 0, slots := 0, locals := 0 } : Room) s m args below meth c H locs 0 0 (MQ below (xQi D cy xtb a S' v' s.heap.size) args s 0 0 (xA xtb a s.heap.size)) (F0 m 308 ls [.int y0]) := by
  have hx := hM.1
  have hb := hM.2.1
  refine lv_istore (lv' := [(8, .int y0), (0, .ref (a 8)), (2, .int x2), (3, .int x3), (4, .int x4)]) hx hb dX5_run_308 hl (by decide) rfl (fun ls hl => ?_)
  refine lv_goto (tgt := 415) hx hb dX5_run_310 (by decide) ?_
  exact w_X5_run_415 hM hr hlk h (fun t0 e => k0 t0 e) (fun S x3 x4 e => k1 S x3 x4 e) hG (lv_sub hl [1, 2, 3, 4, 0] rfl)
set_option maxHeartbeats 4000000 in
set_option maxRecDepth 100000 in
theorem w_X5_run_325 {x2 : Int32} {x3 : Int32} {x4 : Int32} {y0 : Int32} (hM : xM p c cX5_run m s args RX5 9 D cy xtb a z) (hr : meth.sig.returnType = (some .int)) (hlk : meth.locks = false) {S' : xSt} {v' : Int32} {S : xSt} {q : ((xSt × Int32 × Int32) ⊕ (xSt × Int32))} (h : f_X5_run_325 x2 x3 x4 y0 S = some q) (k0 : ∀ t0 : xSt × Int32, q = (.inr t0) → t0 = (S', v')) (k1 : ∀ (S : xSt) (x3 : Int32) (x4 : Int32), q = (.inl (S, x3, x4)) → ∀ (H : Heap) (locs : List Loc) (ls : Array Slot), xG D cy xtb a S s H locs → lv_has ls 9 [(0, .ref (a 8)), (2, .int x2), (3, .int x3), (4, .int x4)] → W p l e ({ frames := 0, cells := 0, slots := 0, locals := 0 } : Room) s m args below meth c H locs 0 0 (MQ below (xQi D cy xtb a S' v' s.heap.size) args s 0 0 (xA xtb a s.heap.size)) (F0 m 5 ls [])) {H : Heap} {locs : List Loc} (hG : xG D cy xtb a S s H locs) {ls : Array Slot} (hl : lv_has ls 9 [(0, .ref (a 8)), (2, .int x2), (3, .int x3), (4, .int x4)]) : W p l e ({ frames := 0, cells := 0, slots := 0, locals := 0 } : Room) s m args below meth c H locs 0 0 (MQ below (xQi D cy xtb a S' v' s.heap.size) args s 0 0 (xA xtb a s.heap.size)) (F0 m 325 ls [.int y0]) := by
  have hx := hM.1
  have hb := hM.2.1
  refine lv_istore (lv' := [(8, .int y0), (0, .ref (a 8)), (2, .int x2), (3, .int x3), (4, .int x4)]) hx hb dX5_run_325 hl (by decide) rfl (fun ls hl => ?_)
  refine lv_goto (tgt := 415) hx hb dX5_run_327 (by decide) ?_
  exact w_X5_run_415 hM hr hlk h (fun t0 e => k0 t0 e) (fun S x3 x4 e => k1 S x3 x4 e) hG (lv_sub hl [1, 2, 3, 4, 0] rfl)
set_option maxHeartbeats 4000000 in
set_option maxRecDepth 100000 in
theorem w_X5_run_342 {x2 : Int32} {x3 : Int32} {x4 : Int32} {y0 : Int32} (hM : xM p c cX5_run m s args RX5 9 D cy xtb a z) (hr : meth.sig.returnType = (some .int)) (hlk : meth.locks = false) {S' : xSt} {v' : Int32} {S : xSt} {q : ((xSt × Int32 × Int32) ⊕ (xSt × Int32))} (h : f_X5_run_342 x2 x3 x4 y0 S = some q) (k0 : ∀ t0 : xSt × Int32, q = (.inr t0) → t0 = (S', v')) (k1 : ∀ (S : xSt) (x3 : Int32) (x4 : Int32), q = (.inl (S, x3, x4)) → ∀ (H : Heap) (locs : List Loc) (ls : Array Slot), xG D cy xtb a S s H locs → lv_has ls 9 [(0, .ref (a 8)), (2, .int x2), (3, .int x3), (4, .int x4)] → W p l e ({ frames := 0, cells := 0, slots := 0, locals := 0 } : Room) s m args below meth c H locs 0 0 (MQ below (xQi D cy xtb a S' v' s.heap.size) args s 0 0 (xA xtb a s.heap.size)) (F0 m 5 ls [])) {H : Heap} {locs : List Loc} (hG : xG D cy xtb a S s H locs) {ls : Array Slot} (hl : lv_has ls 9 [(0, .ref (a 8)), (2, .int x2), (3, .int x3), (4, .int x4)]) : W p l e ({ frames := 0, cells := 0, slots := 0, locals := 0 } : Room) s m args below meth c H locs 0 0 (MQ below (xQi D cy xtb a S' v' s.heap.size) args s 0 0 (xA xtb a s.heap.size)) (F0 m 342 ls [.int y0]) := by
  have hx := hM.1
  have hb := hM.2.1
  refine lv_istore (lv' := [(8, .int y0), (0, .ref (a 8)), (2, .int x2), (3, .int x3), (4, .int x4)]) hx hb dX5_run_342 hl (by decide) rfl (fun ls hl => ?_)
  refine lv_goto (tgt := 415) hx hb dX5_run_344 (by decide) ?_
  exact w_X5_run_415 hM hr hlk h (fun t0 e => k0 t0 e) (fun S x3 x4 e => k1 S x3 x4 e) hG (lv_sub hl [1, 2, 3, 4, 0] rfl)
set_option maxHeartbeats 4000000 in
set_option maxRecDepth 100000 in
theorem w_X5_run_391 {x2 : Int32} {x3 : Int32} {x4 : Int32} {y0 : Int32} (hM : xM p c cX5_run m s args RX5 9 D cy xtb a z) (hr : meth.sig.returnType = (some .int)) (hlk : meth.locks = false) {S' : xSt} {v' : Int32} {S : xSt} {q : ((xSt × Int32 × Int32) ⊕ (xSt × Int32))} (h : f_X5_run_391 x2 x3 x4 y0 S = some q) (k0 : ∀ t0 : xSt × Int32, q = (.inr t0) → t0 = (S', v')) (k1 : ∀ (S : xSt) (x3 : Int32) (x4 : Int32), q = (.inl (S, x3, x4)) → ∀ (H : Heap) (locs : List Loc) (ls : Array Slot), xG D cy xtb a S s H locs → lv_has ls 9 [(0, .ref (a 8)), (2, .int x2), (3, .int x3), (4, .int x4)] → W p l e ({ frames := 0, cells := 0, slots := 0, locals := 0 } : Room) s m args below meth c H locs 0 0 (MQ below (xQi D cy xtb a S' v' s.heap.size) args s 0 0 (xA xtb a s.heap.size)) (F0 m 5 ls [])) {H : Heap} {locs : List Loc} (hG : xG D cy xtb a S s H locs) {ls : Array Slot} (hl : lv_has ls 9 [(0, .ref (a 8)), (2, .int x2), (3, .int x3), (4, .int x4)]) : W p l e ({ frames := 0, cells := 0, slots := 0, locals := 0 } : Room) s m args below meth c H locs 0 0 (MQ below (xQi D cy xtb a S' v' s.heap.size) args s 0 0 (xA xtb a s.heap.size)) (F0 m 391 ls [.int y0]) := by
  have hx := hM.1
  have hb := hM.2.1
  refine lv_istore (lv' := [(8, .int y0), (0, .ref (a 8)), (2, .int x2), (3, .int x3), (4, .int x4)]) hx hb dX5_run_391 hl (by decide) rfl (fun ls hl => ?_)
  refine lv_goto (tgt := 415) hx hb dX5_run_393 (by decide) ?_
  exact w_X5_run_415 hM hr hlk h (fun t0 e => k0 t0 e) (fun S x3 x4 e => k1 S x3 x4 e) hG (lv_sub hl [1, 2, 3, 4, 0] rfl)
set_option maxHeartbeats 4000000 in
set_option maxRecDepth 100000 in
theorem w_X5_run_410 {x2 : Int32} {x3 : Int32} {x4 : Int32} {y0 : Int32} (hM : xM p c cX5_run m s args RX5 9 D cy xtb a z) (hr : meth.sig.returnType = (some .int)) (hlk : meth.locks = false) {S' : xSt} {v' : Int32} {S : xSt} {q : ((xSt × Int32 × Int32) ⊕ (xSt × Int32))} (h : f_X5_run_410 x2 x3 x4 y0 S = some q) (k0 : ∀ t0 : xSt × Int32, q = (.inr t0) → t0 = (S', v')) (k1 : ∀ (S : xSt) (x3 : Int32) (x4 : Int32), q = (.inl (S, x3, x4)) → ∀ (H : Heap) (locs : List Loc) (ls : Array Slot), xG D cy xtb a S s H locs → lv_has ls 9 [(0, .ref (a 8)), (2, .int x2), (3, .int x3), (4, .int x4)] → W p l e ({ frames := 0, cells := 0, slots := 0, locals := 0 } : Room) s m args below meth c H locs 0 0 (MQ below (xQi D cy xtb a S' v' s.heap.size) args s 0 0 (xA xtb a s.heap.size)) (F0 m 5 ls [])) {H : Heap} {locs : List Loc} (hG : xG D cy xtb a S s H locs) {ls : Array Slot} (hl : lv_has ls 9 [(0, .ref (a 8)), (2, .int x2), (3, .int x3), (4, .int x4)]) : W p l e ({ frames := 0, cells := 0, slots := 0, locals := 0 } : Room) s m args below meth c H locs 0 0 (MQ below (xQi D cy xtb a S' v' s.heap.size) args s 0 0 (xA xtb a s.heap.size)) (F0 m 410 ls [.int y0]) := by
  have hx := hM.1
  have hb := hM.2.1
  refine lv_istore (lv' := [(8, .int y0), (0, .ref (a 8)), (2, .int x2), (3, .int x3), (4, .int x4)]) hx hb dX5_run_410 hl (by decide) rfl (fun ls hl => ?_)
  refine lv_goto (tgt := 415) hx hb dX5_run_412 (by decide) ?_
  exact w_X5_run_415 hM hr hlk h (fun t0 e => k0 t0 e) (fun S x3 x4 e => k1 S x3 x4 e) hG (lv_sub hl [1, 2, 3, 4, 0] rfl)
set_option maxHeartbeats 4000000 in
set_option maxRecDepth 100000 in
theorem w_X5_run_432 (hM : xM p c cX5_run m s args RX5 9 D cy xtb a z) (hr : meth.sig.returnType = (some .int)) (hlk : meth.locks = false) {S' : xSt} {v' : Int32} {S : xSt} {q : (xSt × Int32)} (h : f_X5_run_432 S = some q) (k0 : ∀ t0 : xSt × Int32, q = t0 → t0 = (S', v')) {H : Heap} {locs : List Loc} (hG : xG D cy xtb a S s H locs) {ls : Array Slot} (hl : lv_has ls 9 [(0, .ref (a 8))]) : W p l e ({ frames := 0, cells := 0, slots := 0, locals := 0 } : Room) s m args below meth c H locs 0 0 (MQ below (xQi D cy xtb a S' v' s.heap.size) args s 0 0 (xA xtb a s.heap.size)) (F0 m 432 ls []) := by
  have hx := hM.1
  have hb := hM.2.1
  refine lv_aload_n hx hb dX5_run_432 rfl (lv_at hl 0 rfl) ?_
  refine x_gr (r := 14) hM hG xfl_X5_29 xct_8 (by decide) rfl dX5_run_433 ?_
  refine lv_iconst (v := (0 : Int32)) hx hb dX5_run_436 (by decide) ?_
  refine x_iald hM hG xct_14 h dX5_run_437 (fun v_1 h => ?_)
  exact x_ri hM hG hr hlk rfl (k0 _ (Option.some.inj h).symm) dX5_run_438
set_option maxHeartbeats 4000000 in
set_option maxRecDepth 100000 in
theorem w_X5_run_5 {x2 : Int32} {x3 : Int32} {x4 : Int32} (hM : xM p c cX5_run m s args RX5 9 D cy xtb a z) (hr : meth.sig.returnType = (some .int)) (hlk : meth.locks = false) {S' : xSt} {v' : Int32} {S : xSt} {q : ((xSt × Int32 × Int32) ⊕ (xSt × Int32))} (h : f_X5_run_5 x2 S x3 x4 = some q) (k0 : ∀ t0 : xSt × Int32, q = (.inr t0) → t0 = (S', v')) (k1 : ∀ (S : xSt) (x3 : Int32) (x4 : Int32), q = (.inl (S, x3, x4)) → ∀ (H : Heap) (locs : List Loc) (ls : Array Slot), xG D cy xtb a S s H locs → lv_has ls 9 [(0, .ref (a 8)), (2, .int x2), (3, .int x3), (4, .int x4)] → W p l e ({ frames := 0, cells := 0, slots := 0, locals := 0 } : Room) s m args below meth c H locs 0 0 (MQ below (xQi D cy xtb a S' v' s.heap.size) args s 0 0 (xA xtb a s.heap.size)) (F0 m 5 ls [])) {H : Heap} {locs : List Loc} (hG : xG D cy xtb a S s H locs) {ls : Array Slot} (hl : lv_has ls 9 [(0, .ref (a 8)), (2, .int x2), (3, .int x3), (4, .int x4)]) : W p l e ({ frames := 0, cells := 0, slots := 0, locals := 0 } : Room) s m args below meth c H locs 0 0 (MQ below (xQi D cy xtb a S' v' s.heap.size) args s 0 0 (xA xtb a s.heap.size)) (F0 m 5 ls []) := by
  have hx := hM.1
  have hb := hM.2.1
  refine lv_iload hx hb dX5_run_5 (lv_at hl 3 rfl) ?_
  refine lv_iload_n hx hb dX5_run_7 rfl (lv_at hl 1 rfl) ?_
  refine x_icmp_ge (tgt := 432) hM h dX5_run_8 (by decide) (fun c_1 h => ?_) (fun c_1 h => ?_)
  · obtain ⟨q1, h, e1⟩ := xmr_at h
    exact w_X5_run_432 hM hr hlk h (fun t0 e => k0 t0 (by rw [e1, e])) hG (lv_sub hl [0] rfl)
  · refine lv_iload hx hb dX5_run_11 (lv_at hl 3 rfl) ?_
    refine lv_bipush (v := (120 : Int32)) hx hb dX5_run_13 (by decide) ?_
    refine x_icmp_ge (tgt := 432) hM h dX5_run_15 (by decide) (fun c_2 h => ?_) (fun c_2 h => ?_)
    · obtain ⟨q1, h, e1⟩ := xmr_at h
      exact w_X5_run_432 hM hr hlk h (fun t0 e => k0 t0 (by rw [e1, e])) hG (lv_sub hl [0] rfl)
    · refine lv_aload_n hx hb dX5_run_18 rfl (lv_at hl 0 rfl) ?_
      refine x_gr (r := 9) hM hG xfl_X5_11 xct_8 (by decide) rfl dX5_run_19 ?_
      refine lv_iload hx hb dX5_run_22 (lv_at hl 3 rfl) ?_
      refine x_iald hM hG xct_9 h dX5_run_24 (fun v_3 h => ?_)
      refine lv_istore (lv' := [(5, .int v_3), (0, .ref (a 8)), (2, .int x2), (3, .int x3), (4, .int x4)]) hx hb dX5_run_25 hl (by decide) rfl (fun ls hl => ?_)
      refine lv_aload_n hx hb dX5_run_27 rfl (lv_at hl 1 rfl) ?_
      refine x_gr (r := 14) hM hG xfl_X5_29 xct_8 (by decide) rfl dX5_run_28 ?_
      refine lv_iload_n hx hb dX5_run_31 rfl (lv_at hl 3 rfl) ?_
      refine lv_bipush (v := (63 : Int32)) hx hb dX5_run_32 (by decide) ?_
      refine x_iand hM h dX5_run_34 (fun v_4 h => ?_)
      refine x_iald hM hG xct_14 h dX5_run_35 (fun v_5 h => ?_)
      refine lv_istore (lv' := [(6, .int v_5), (5, .int v_3), (0, .ref (a 8)), (2, .int x2), (3, .int x3), (4, .int x4)]) hx hb dX5_run_36 hl (by decide) rfl (fun ls hl => ?_)
      refine lv_iload hx hb dX5_run_38 (lv_at hl 1 rfl) ?_
      refine lv_bipush (v := (35 : Int32)) hx hb dX5_run_40 (by decide) ?_
      refine x_icmp_eq (tgt := 52) hM h dX5_run_42 (by decide) (fun c_6 h => ?_) (fun c_6 h => ?_)
      · exact w_X5_run_52 hM hr hlk h (fun t0 e => k0 t0 e) (fun S x3 x4 e => k1 S x3 x4 e) hG (lv_sub hl [2, 3, 4, 5, 1] rfl)
      · refine lv_iload hx hb dX5_run_45 (lv_at hl 1 rfl) ?_
        refine lv_bipush (v := (64 : Int32)) hx hb dX5_run_47 (by decide) ?_
        refine x_icmp_ne (tgt := 99) hM h dX5_run_49 (by decide) (fun c_7 h => ?_) (fun c_7 h => ?_)
        · refine lv_iload hx hb dX5_run_99 (lv_at hl 1 rfl) ?_
          refine lv_bipush (v := (126 : Int32)) hx hb dX5_run_101 (by decide) ?_
          refine x_icmp_eq (tgt := 113) hM h dX5_run_103 (by decide) (fun c_8 h => ?_) (fun c_8 h => ?_)
          · exact w_X5_run_113 hM hr hlk h (fun t0 e => k0 t0 e) (fun S x3 x4 e => k1 S x3 x4 e) hG (lv_sub hl [2, 3, 4, 5, 1, 0] rfl)
          · refine lv_iload hx hb dX5_run_106 (lv_at hl 1 rfl) ?_
            refine lv_bipush (v := (33 : Int32)) hx hb dX5_run_108 (by decide) ?_
            refine x_icmp_ne (tgt := 148) hM h dX5_run_110 (by decide) (fun c_9 h => ?_) (fun c_9 h => ?_)
            · refine x_iinc hM (fun v => [(3, .int v), (6, .int v_5), (5, .int v_3), (0, .ref (a 8)), (2, .int x2), (4, .int x4)]) h dX5_run_148 hl (k := 4) rfl (by decide) (by decide) (fun _ => rfl) (fun v_10 ls h hl => ?_)
              refine lv_aload_n hx hb dX5_run_151 rfl (lv_at hl 3 rfl) ?_
              refine x_gr (r := 14) hM hG xfl_X5_29 xct_8 (by decide) rfl dX5_run_152 ?_
              refine lv_iload_n hx hb dX5_run_155 rfl (lv_at hl 0 rfl) ?_
              refine lv_bipush (v := (63 : Int32)) hx hb dX5_run_156 (by decide) ?_
              refine x_iand hM h dX5_run_158 (fun v_11 h => ?_)
              refine x_iald hM hG xct_14 h dX5_run_159 (fun v_12 h => ?_)
              refine lv_istore (lv' := [(7, .int v_12), (3, .int v_10), (6, .int v_5), (5, .int v_3), (0, .ref (a 8)), (2, .int x2), (4, .int x4)]) hx hb dX5_run_160 hl (by decide) rfl (fun ls hl => ?_)
              refine lv_iconst (v := (0 : Int32)) hx hb dX5_run_162 (by decide) ?_
              refine lv_istore (lv' := [(8, .int (0 : Int32)), (7, .int v_12), (3, .int v_10), (6, .int v_5), (5, .int v_3), (0, .ref (a 8)), (2, .int x2), (4, .int x4)]) hx hb dX5_run_163 hl (by decide) rfl (fun ls hl => ?_)
              refine lv_iload hx hb dX5_run_165 (lv_at hl 4 rfl) ?_
              by_cases c_13 : v_3 = (37 : Int32)
              · have h := (if_pos c_13).symm.trans h
                refine lv_lookup (off := 229) (tgt := 396) hx hb dX5_run_167 (by decide) (by rw [c_13]; rfl) (by decide) ?_
                refine lv_iload hx hb dX5_run_396 (lv_at hl 3 rfl) ?_
                refine x_if_ne (tgt := 405) hM h dX5_run_398 (by decide) (fun c_14 h => ?_) (fun c_14 h => ?_)
                · refine lv_iload hx hb dX5_run_405 (lv_at hl 1 rfl) ?_
                  refine lv_iload hx hb dX5_run_407 (lv_at hl 3 rfl) ?_
                  refine x_irem hM h dX5_run_409 (fun v_15 h => ?_)
                  exact w_X5_run_410 hM hr hlk h (fun t0 e => k0 t0 e) (fun S x3 x4 e => k1 S x3 x4 e) hG (lv_sub hl [5, 6, 2, 7] rfl)
                · refine lv_iconst (v := (0 : Int32)) hx hb dX5_run_401 (by decide) ?_
                  refine lv_goto (tgt := 410) hx hb dX5_run_402 (by decide) ?_
                  exact w_X5_run_410 hM hr hlk h (fun t0 e => k0 t0 e) (fun S x3 x4 e => k1 S x3 x4 e) hG (lv_sub hl [5, 6, 2, 7] rfl)
              · have h := (if_neg c_13).symm.trans h
                by_cases c_16 : v_3 = (38 : Int32)
                · have h := (if_pos c_16).symm.trans h
                  refine lv_lookup (off := 109) (tgt := 276) hx hb dX5_run_167 (by decide) (by rw [c_16]; rfl) (by decide) ?_
                  refine lv_iload hx hb dX5_run_276 (lv_at hl 1 rfl) ?_
                  refine x_if_eq (tgt := 290) hM h dX5_run_278 (by decide) (fun c_17 h => ?_) (fun c_17 h => ?_)
                  · exact w_X5_run_290 hM hr hlk h (fun t0 e => k0 t0 e) (fun S x3 x4 e => k1 S x3 x4 e) hG (lv_sub hl [5, 6, 2, 7] rfl)
                  · refine lv_iload hx hb dX5_run_281 (lv_at hl 3 rfl) ?_
                    refine x_if_eq (tgt := 290) hM h dX5_run_283 (by decide) (fun c_18 h => ?_) (fun c_18 h => ?_)
                    · exact w_X5_run_290 hM hr hlk h (fun t0 e => k0 t0 e) (fun S x3 x4 e => k1 S x3 x4 e) hG (lv_sub hl [5, 6, 2, 7] rfl)
                    · refine lv_iconst (v := (1 : Int32)) hx hb dX5_run_286 (by decide) ?_
                      refine lv_goto (tgt := 291) hx hb dX5_run_287 (by decide) ?_
                      exact w_X5_run_291 hM hr hlk h (fun t0 e => k0 t0 e) (fun S x3 x4 e => k1 S x3 x4 e) hG (lv_sub hl [5, 6, 2, 7] rfl)
                · have h := (if_neg c_16).symm.trans h
                  by_cases c_19 : v_3 = (42 : Int32)
                  · have h := (if_pos c_19).symm.trans h
                    refine lv_lookup (off := 200) (tgt := 367) hx hb dX5_run_167 (by decide) (by rw [c_19]; rfl) (by decide) ?_
                    refine lv_iload hx hb dX5_run_367 (lv_at hl 1 rfl) ?_
                    refine lv_iload hx hb dX5_run_369 (lv_at hl 3 rfl) ?_
                    refine x_imul hM h dX5_run_371 (fun v_20 h => ?_)
                    refine lv_istore (lv' := [(8, .int v_20), (7, .int v_12), (3, .int v_10), (6, .int v_5), (5, .int v_3), (0, .ref (a 8)), (2, .int x2), (4, .int x4)]) hx hb dX5_run_372 hl (by decide) rfl (fun ls hl => ?_)
                    refine lv_goto (tgt := 415) hx hb dX5_run_374 (by decide) ?_
                    exact w_X5_run_415 hM hr hlk h (fun t0 e => k0 t0 e) (fun S x3 x4 e => k1 S x3 x4 e) hG (lv_sub hl [5, 6, 2, 7, 0] rfl)
                  · have h := (if_neg c_19).symm.trans h
                    by_cases c_21 : v_3 = (43 : Int32)
                    · have h := (if_pos c_21).symm.trans h
                      refine lv_lookup (off := 180) (tgt := 347) hx hb dX5_run_167 (by decide) (by rw [c_21]; rfl) (by decide) ?_
                      refine lv_iload hx hb dX5_run_347 (lv_at hl 1 rfl) ?_
                      refine lv_iload hx hb dX5_run_349 (lv_at hl 3 rfl) ?_
                      refine x_iadd hM h dX5_run_351 (fun v_22 h => ?_)
                      refine lv_istore (lv' := [(8, .int v_22), (7, .int v_12), (3, .int v_10), (6, .int v_5), (5, .int v_3), (0, .ref (a 8)), (2, .int x2), (4, .int x4)]) hx hb dX5_run_352 hl (by decide) rfl (fun ls hl => ?_)
                      refine lv_goto (tgt := 415) hx hb dX5_run_354 (by decide) ?_
                      exact w_X5_run_415 hM hr hlk h (fun t0 e => k0 t0 e) (fun S x3 x4 e => k1 S x3 x4 e) hG (lv_sub hl [5, 6, 2, 7, 0] rfl)
                    · have h := (if_neg c_21).symm.trans h
                      by_cases c_23 : v_3 = (45 : Int32)
                      · have h := (if_pos c_23).symm.trans h
                        refine lv_lookup (off := 190) (tgt := 357) hx hb dX5_run_167 (by decide) (by rw [c_23]; rfl) (by decide) ?_
                        refine lv_iload hx hb dX5_run_357 (lv_at hl 1 rfl) ?_
                        refine lv_iload hx hb dX5_run_359 (lv_at hl 3 rfl) ?_
                        refine x_isub hM h dX5_run_361 (fun v_24 h => ?_)
                        refine lv_istore (lv' := [(8, .int v_24), (7, .int v_12), (3, .int v_10), (6, .int v_5), (5, .int v_3), (0, .ref (a 8)), (2, .int x2), (4, .int x4)]) hx hb dX5_run_362 hl (by decide) rfl (fun ls hl => ?_)
                        refine lv_goto (tgt := 415) hx hb dX5_run_364 (by decide) ?_
                        exact w_X5_run_415 hM hr hlk h (fun t0 e => k0 t0 e) (fun S x3 x4 e => k1 S x3 x4 e) hG (lv_sub hl [5, 6, 2, 7, 0] rfl)
                      · have h := (if_neg c_23).symm.trans h
                        by_cases c_25 : v_3 = (47 : Int32)
                        · have h := (if_pos c_25).symm.trans h
                          refine lv_lookup (off := 210) (tgt := 377) hx hb dX5_run_167 (by decide) (by rw [c_25]; rfl) (by decide) ?_
                          refine lv_iload hx hb dX5_run_377 (lv_at hl 3 rfl) ?_
                          refine x_if_ne (tgt := 386) hM h dX5_run_379 (by decide) (fun c_26 h => ?_) (fun c_26 h => ?_)
                          · refine lv_iload hx hb dX5_run_386 (lv_at hl 1 rfl) ?_
                            refine lv_iload hx hb dX5_run_388 (lv_at hl 3 rfl) ?_
                            refine x_idiv hM h dX5_run_390 (fun v_27 h => ?_)
                            exact w_X5_run_391 hM hr hlk h (fun t0 e => k0 t0 e) (fun S x3 x4 e => k1 S x3 x4 e) hG (lv_sub hl [5, 6, 2, 7] rfl)
                          · refine lv_iconst (v := (0 : Int32)) hx hb dX5_run_382 (by decide) ?_
                            refine lv_goto (tgt := 391) hx hb dX5_run_383 (by decide) ?_
                            exact w_X5_run_391 hM hr hlk h (fun t0 e => k0 t0 e) (fun S x3 x4 e => k1 S x3 x4 e) hG (lv_sub hl [5, 6, 2, 7] rfl)
                        · have h := (if_neg c_25).symm.trans h
                          by_cases c_28 : v_3 = (60 : Int32)
                          · have h := (if_pos c_28).symm.trans h
                            refine lv_lookup (off := 129) (tgt := 296) hx hb dX5_run_167 (by decide) (by rw [c_28]; rfl) (by decide) ?_
                            refine lv_iload hx hb dX5_run_296 (lv_at hl 1 rfl) ?_
                            refine lv_iload hx hb dX5_run_298 (lv_at hl 3 rfl) ?_
                            refine x_icmp_ge (tgt := 307) hM h dX5_run_300 (by decide) (fun c_29 h => ?_) (fun c_29 h => ?_)
                            · refine lv_iconst (v := (0 : Int32)) hx hb dX5_run_307 (by decide) ?_
                              exact w_X5_run_308 hM hr hlk h (fun t0 e => k0 t0 e) (fun S x3 x4 e => k1 S x3 x4 e) hG (lv_sub hl [5, 6, 2, 7] rfl)
                            · refine lv_iconst (v := (1 : Int32)) hx hb dX5_run_303 (by decide) ?_
                              refine lv_goto (tgt := 308) hx hb dX5_run_304 (by decide) ?_
                              exact w_X5_run_308 hM hr hlk h (fun t0 e => k0 t0 e) (fun S x3 x4 e => k1 S x3 x4 e) hG (lv_sub hl [5, 6, 2, 7] rfl)
                          · have h := (if_neg c_28).symm.trans h
                            by_cases c_30 : v_3 = (61 : Int32)
                            · have h := (if_pos c_30).symm.trans h
                              refine lv_lookup (off := 146) (tgt := 313) hx hb dX5_run_167 (by decide) (by rw [c_30]; rfl) (by decide) ?_
                              refine lv_iload hx hb dX5_run_313 (lv_at hl 1 rfl) ?_
                              refine lv_iload hx hb dX5_run_315 (lv_at hl 3 rfl) ?_
                              refine x_icmp_ne (tgt := 324) hM h dX5_run_317 (by decide) (fun c_31 h => ?_) (fun c_31 h => ?_)
                              · refine lv_iconst (v := (0 : Int32)) hx hb dX5_run_324 (by decide) ?_
                                exact w_X5_run_325 hM hr hlk h (fun t0 e => k0 t0 e) (fun S x3 x4 e => k1 S x3 x4 e) hG (lv_sub hl [5, 6, 2, 7] rfl)
                              · refine lv_iconst (v := (1 : Int32)) hx hb dX5_run_320 (by decide) ?_
                                refine lv_goto (tgt := 325) hx hb dX5_run_321 (by decide) ?_
                                exact w_X5_run_325 hM hr hlk h (fun t0 e => k0 t0 e) (fun S x3 x4 e => k1 S x3 x4 e) hG (lv_sub hl [5, 6, 2, 7] rfl)
                            · have h := (if_neg c_30).symm.trans h
                              by_cases c_32 : v_3 = (62 : Int32)
                              · have h := (if_pos c_32).symm.trans h
                                refine lv_lookup (off := 163) (tgt := 330) hx hb dX5_run_167 (by decide) (by rw [c_32]; rfl) (by decide) ?_
                                refine lv_iload hx hb dX5_run_330 (lv_at hl 1 rfl) ?_
                                refine lv_iload hx hb dX5_run_332 (lv_at hl 3 rfl) ?_
                                refine x_icmp_le (tgt := 341) hM h dX5_run_334 (by decide) (fun c_33 h => ?_) (fun c_33 h => ?_)
                                · refine lv_iconst (v := (0 : Int32)) hx hb dX5_run_341 (by decide) ?_
                                  exact w_X5_run_342 hM hr hlk h (fun t0 e => k0 t0 e) (fun S x3 x4 e => k1 S x3 x4 e) hG (lv_sub hl [5, 6, 2, 7] rfl)
                                · refine lv_iconst (v := (1 : Int32)) hx hb dX5_run_337 (by decide) ?_
                                  refine lv_goto (tgt := 342) hx hb dX5_run_338 (by decide) ?_
                                  exact w_X5_run_342 hM hr hlk h (fun t0 e => k0 t0 e) (fun S x3 x4 e => k1 S x3 x4 e) hG (lv_sub hl [5, 6, 2, 7] rfl)
                              · have h := (if_neg c_32).symm.trans h
                                by_cases c_34 : v_3 = (124 : Int32)
                                · have h := (if_pos c_34).symm.trans h
                                  refine lv_lookup (off := 89) (tgt := 256) hx hb dX5_run_167 (by decide) (by rw [c_34]; rfl) (by decide) ?_
                                  refine lv_iload hx hb dX5_run_256 (lv_at hl 1 rfl) ?_
                                  refine x_if_ne (tgt := 266) hM h dX5_run_258 (by decide) (fun c_35 h => ?_) (fun c_35 h => ?_)
                                  · exact w_X5_run_266 hM hr hlk h (fun t0 e => k0 t0 e) (fun S x3 x4 e => k1 S x3 x4 e) hG (lv_sub hl [5, 6, 2, 7] rfl)
                                  · refine lv_iload hx hb dX5_run_261 (lv_at hl 3 rfl) ?_
                                    refine x_if_eq (tgt := 270) hM h dX5_run_263 (by decide) (fun c_36 h => ?_) (fun c_36 h => ?_)
                                    · refine lv_iconst (v := (0 : Int32)) hx hb dX5_run_270 (by decide) ?_
                                      exact w_X5_run_271 hM hr hlk h (fun t0 e => k0 t0 e) (fun S x3 x4 e => k1 S x3 x4 e) hG (lv_sub hl [5, 6, 2, 7] rfl)
                                    · exact w_X5_run_266 hM hr hlk h (fun t0 e => k0 t0 e) (fun S x3 x4 e => k1 S x3 x4 e) hG (lv_sub hl [5, 6, 2, 7] rfl)
                                · have h := (if_neg c_34).symm.trans h
                                  refine lv_lookup (off := 248) (tgt := 415) hx hb dX5_run_167 (by decide) (by refine (lv_osw c_13 (by decide)).trans ?_; refine (lv_osw c_16 (by decide)).trans ?_; refine (lv_osw c_19 (by decide)).trans ?_; refine (lv_osw c_21 (by decide)).trans ?_; refine (lv_osw c_23 (by decide)).trans ?_; refine (lv_osw c_25 (by decide)).trans ?_; refine (lv_osw c_28 (by decide)).trans ?_; refine (lv_osw c_30 (by decide)).trans ?_; refine (lv_osw c_32 (by decide)).trans ?_; refine (lv_osw c_34 (by decide)).trans ?_; rfl) (by decide) ?_
                                  exact w_X5_run_415 hM hr hlk h (fun t0 e => k0 t0 e) (fun S x3 x4 e => k1 S x3 x4 e) hG (lv_sub hl [5, 6, 2, 7, 0] rfl)
            · exact w_X5_run_113 hM hr hlk h (fun t0 e => k0 t0 e) (fun S x3 x4 e => k1 S x3 x4 e) hG (lv_sub hl [2, 3, 4, 5, 1, 0] rfl)
        · exact w_X5_run_52 hM hr hlk h (fun t0 e => k0 t0 e) (fun S x3 x4 e => k1 S x3 x4 e) hG (lv_sub hl [2, 3, 4, 5, 1] rfl)
theorem wl_X5_run_5 {x2 : Int32} (hM : xM p c cX5_run m s args RX5 9 D cy xtb a z) (hr : meth.sig.returnType = (some .int)) (hlk : meth.locks = false) {S' : xSt} {v' : Int32} {q : (xSt × Int32)} (k0 : ∀ t0 : xSt × Int32, q = t0 → t0 = (S', v')) (n : Nat) : ∀ (S : xSt) (x3 : Int32) (x4 : Int32) (H : Heap) (locs : List Loc) (ls : Array Slot), xlp (fun q : (xSt × Int32 × Int32) => f_X5_run_5 x2 q.1 q.2.1 q.2.2) n (S, x3, x4) = some q → xG D cy xtb a S s H locs → lv_has ls 9 [(0, .ref (a 8)), (2, .int x2), (3, .int x3), (4, .int x4)] → W p l e ({ frames := 0, cells := 0, slots := 0, locals := 0 } : Room) s m args below meth c H locs 0 0 (MQ below (xQi D cy xtb a S' v' s.heap.size) args s 0 0 (xA xtb a s.heap.size)) (F0 m 5 ls []) := by
  induction n with
  | zero => intro S x3 x4 H locs ls h; exact (xlp_0 h).elim
  | succ n ih =>
    intro S x3 x4 H locs ls h hG hl
    obtain ⟨q1, hq, hc, he⟩ := xlp_at h
    exact w_X5_run_5 hM hr hlk (q := q1) hq (fun t0 e => k0 t0 (he _ e).symm) (fun S x3 x4 e H locs ls hG hl => ih S x3 x4 H locs ls (hc _ e) hG hl) hG hl
set_option maxHeartbeats 4000000 in
set_option maxRecDepth 100000 in
theorem w_X5_run_0 {x1 : Int32} {x2 : Int32} (hM : xM p c cX5_run m s args RX5 9 D cy xtb a z) (hr : meth.sig.returnType = (some .int)) (hlk : meth.locks = false) {S' : xSt} {v' : Int32} {S : xSt} {q : (xSt × Int32)} (h : f_X5_run_0 x1 x2 S = some q) (k0 : ∀ t0 : xSt × Int32, q = t0 → t0 = (S', v')) {H : Heap} {locs : List Loc} (hG : xG D cy xtb a S s H locs) {ls : Array Slot} (hl : lv_has ls 9 [(0, .ref (a 8)), (1, .int x1), (2, .int x2)]) : W p l e ({ frames := 0, cells := 0, slots := 0, locals := 0 } : Room) s m args below meth c H locs 0 0 (MQ below (xQi D cy xtb a S' v' s.heap.size) args s 0 0 (xA xtb a s.heap.size)) (F0 m 0 ls []) := by
  have hx := hM.1
  have hb := hM.2.1
  refine lv_iconst (v := (-1 : Int32)) hx hb dX5_run_0 (by decide) ?_
  refine lv_istore_n (lv' := [(3, .int (-1 : Int32)), (0, .ref (a 8)), (1, .int x1), (2, .int x2)]) hx hb dX5_run_1 rfl hl (by decide) rfl (fun ls hl => ?_)
  refine lv_iload_n hx hb dX5_run_2 rfl (lv_at hl 2 rfl) ?_
  refine lv_istore (lv' := [(4, .int x1), (3, .int (-1 : Int32)), (0, .ref (a 8)), (1, .int x1), (2, .int x2)]) hx hb dX5_run_3 hl (by decide) rfl (fun ls hl => ?_)
  exact wl_X5_run_5 hM hr hlk (fun t0 e => k0 t0 e) 5000 _ _ _ _ _ _ h hG (lv_sub hl [2, 4, 1, 0] rfl)
set_option maxHeartbeats 4000000 in
set_option maxRecDepth 100000 in
theorem c_X5_run {l : Launch} {D : va_G} {cy : Nat → ClassId} {a z : Nat → Nat} (hI : xI xtb a) {S : xSt} {x1 : Int32} {x2 : Int32} {S' : xSt} {v' : Int32} (hf : f_X5_run S x1 x2 = some (S', v')) (sz : Nat) : Met l yX5_run (Cond.code yX5_run cX5_run 9 (some .int) :: xTB) ({ frames := 0, cells := 0, slots := 0, locals := 0 } : Room) (va_Pc [.ref (a 8), .int x1, .int x2] (xPre D cy xtb a z S sz)) (xQi D cy xtb a S' v' sz) 0 0 (xA xtb a sz) := by
  refine Met.ofW (cc := cX5_run) (maxL := 9) (ret := (some .int)) (by decide) rfl ?_
  intro p e s m args below meth c s₁ B hml hv
  obtain ⟨rfl, hsz, hP, hK, hE⟩ := hv
  subst hsz
  have hl := lv_entry ([.ref (a 8), .int x1, .int x2]) (n := 9) (Nat.le_of_ble_eq_true rfl)
  rw [lg_entry_eq]
  generalize (lg_sl ([.ref (a 8), .int x1, .int x2]) ++ List.replicate (9 - (lg_sl ([.ref (a 8), .int x1, .int x2])).length) Slot.unset).toArray = ls at hl ⊢
  have hl : lv_has ls 9 [(0, .ref (a 8)), (1, .int x1), (2, .int x2)] := hl
  exact w_X5_run_0 ⟨B.exec, B.bytes, hml, findClass_of_methodNamed B.named, fun w hw => atoms_spec (ws := Cond.code yX5_run cX5_run 9 (some .int) :: xTB) B.pre w (List.mem_cons_of_mem _ hw), hK, hI, hE⟩ B.returns B.notSynchronized hf (fun t0 e => e.symm) ⟨hP, va_S.rf⟩ (lv_sub hl [0, 1, 2] rfl)
set_option maxHeartbeats 4000000 in
set_option maxRecDepth 100000 in
theorem w_X5_worked_33 {x2 : Int32} {x3 : Int32} (hM : xM p c cX5_worked m s args RX5 4 D cy xtb a z) (hr : meth.sig.returnType = (some .int)) (hlk : meth.locks = false) {S' : xSt} {v' : Int32} {S : xSt} {q : (xSt × Int32)} (h : f_X5_worked_33 x2 x3 S = some q) (k0 : ∀ t0 : xSt × Int32, q = t0 → t0 = (S', v')) {H : Heap} {locs : List Loc} (hG : xG D cy xtb a S s H locs) {ls : Array Slot} (hl : lv_has ls 4 [(0, .ref (a 8)), (2, .int x2), (3, .int x3)]) : W p l e ({ frames := 1, cells := 0, slots := 0, locals := 28 } : Room) s m args below meth c H locs 0 0 (MQ below (xQi D cy xtb a S' v' s.heap.size) args s 0 0 (xA xtb a s.heap.size)) (F0 m 33 ls []) := by
  have hx := hM.1
  have hb := hM.2.1
  refine lv_aload_n hx hb dX5_worked_33 rfl (lv_at hl 0 rfl) ?_
  refine lv_iload_n hx hb dX5_worked_34 rfl (lv_at hl 2 rfl) ?_
  refine lv_aload_n hx hb dX5_worked_35 rfl (lv_at hl 0 rfl) ?_
  refine x_gr (r := 12) hM hG xfl_X5_23 xct_8 (by decide) rfl dX5_worked_36 ?_
  refine lv_iload_n hx hb dX5_worked_39 rfl (lv_at hl 1 rfl) ?_
  refine x_iald hM hG xct_12 h dX5_worked_40 (fun v_1 h => ?_)
  refine x_cVi (As := [.int x3, .int v_1]) (rest := []) hM hG xml_X5_85 xwi_X5_run xws_X5_run xct_8 (by decide) rfl h (fun S' v e => c_X5_run hM.2.2.2.2.2.2.1 e _) ⟨Nat.le_of_ble_eq_true rfl, Nat.le_of_ble_eq_true rfl⟩ rfl hl.1 rfl (Nat.le_of_ble_eq_true rfl) dX5_worked_41 (fun S_2 v_3 H locs h hG => ?_)
  exact x_ri hM hG hr hlk rfl (k0 _ (Option.some.inj h).symm) dX5_worked_44
set_option maxHeartbeats 4000000 in
set_option maxRecDepth 100000 in
theorem w_X5_worked_4 {x1 : Int32} {x2 : Int32} (hM : xM p c cX5_worked m s args RX5 4 D cy xtb a z) (hr : meth.sig.returnType = (some .int)) (hlk : meth.locks = false) {S' : xSt} {v' : Int32} {S : xSt} {q : ((xSt × Int32 × Int32) ⊕ (xSt × Int32))} (h : f_X5_worked_4 S x1 x2 = some q) (k0 : ∀ t0 : xSt × Int32, q = (.inr t0) → t0 = (S', v')) (k1 : ∀ (S : xSt) (x1 : Int32) (x2 : Int32), q = (.inl (S, x1, x2)) → ∀ (H : Heap) (locs : List Loc) (ls : Array Slot), xG D cy xtb a S s H locs → lv_has ls 4 [(0, .ref (a 8)), (1, .int x1), (2, .int x2)] → W p l e ({ frames := 1, cells := 0, slots := 0, locals := 28 } : Room) s m args below meth c H locs 0 0 (MQ below (xQi D cy xtb a S' v' s.heap.size) args s 0 0 (xA xtb a s.heap.size)) (F0 m 4 ls [])) {H : Heap} {locs : List Loc} (hG : xG D cy xtb a S s H locs) {ls : Array Slot} (hl : lv_has ls 4 [(0, .ref (a 8)), (1, .int x1), (2, .int x2)]) : W p l e ({ frames := 1, cells := 0, slots := 0, locals := 28 } : Room) s m args below meth c H locs 0 0 (MQ below (xQi D cy xtb a S' v' s.heap.size) args s 0 0 (xA xtb a s.heap.size)) (F0 m 4 ls []) := by
  have hx := hM.1
  have hb := hM.2.1
  refine lv_iload_n hx hb dX5_worked_4 rfl (lv_at hl 2 rfl) ?_
  refine lv_aload_n hx hb dX5_worked_5 rfl (lv_at hl 0 rfl) ?_
  refine x_gi hM hG xfl_X5_39 xct_8 (by decide) rfl h dX5_worked_6 (fun v_1 h => ?_)
  refine x_icmp_ge (tgt := 58) hM h dX5_worked_9 (by decide) (fun c_2 h => ?_) (fun c_2 h => ?_)
  · refine lv_iconst (v := (0 : Int32)) hx hb dX5_worked_58 (by decide) ?_
    exact x_ri hM hG hr hlk rfl (k0 _ (Option.some.inj h).symm) dX5_worked_59
  · refine lv_aload_n hx hb dX5_worked_12 rfl (lv_at hl 0 rfl) ?_
    refine x_gr (r := 11) hM hG xfl_X5_20 xct_8 (by decide) rfl dX5_worked_13 ?_
    refine lv_iload_n hx hb dX5_worked_16 rfl (lv_at hl 2 rfl) ?_
    refine x_iald hM hG xct_11 h dX5_worked_17 (fun v_3 h => ?_)
    refine lv_istore_n (lv' := [(3, .int v_3), (0, .ref (a 8)), (1, .int x1), (2, .int x2)]) hx hb dX5_worked_18 rfl hl (by decide) rfl (fun ls hl => ?_)
    refine lv_iload_n hx hb dX5_worked_19 rfl (lv_at hl 0 rfl) ?_
    refine lv_iload_n hx hb dX5_worked_20 rfl (lv_at hl 2 rfl) ?_
    refine x_icmp_eq (tgt := 33) hM h dX5_worked_21 (by decide) (fun c_4 h => ?_) (fun c_4 h => ?_)
    · obtain ⟨q1, h, e1⟩ := xmr_at h
      exact w_X5_worked_33 hM hr hlk h (fun t0 e => k0 t0 (by rw [e1, e])) hG (lv_sub hl [1, 3, 0] rfl)
    · refine lv_aload_n hx hb dX5_worked_24 rfl (lv_at hl 1 rfl) ?_
      refine lv_iload_n hx hb dX5_worked_25 rfl (lv_at hl 2 rfl) ?_
      refine lv_iload_n hx hb dX5_worked_26 rfl (lv_at hl 0 rfl) ?_
      refine x_cVi (As := [.int x1, .int v_3]) (rest := []) hM hG xml_X5_85 xwi_X5_run xws_X5_run xct_8 (by decide) rfl h (fun S' v e => c_X5_run hM.2.2.2.2.2.2.1 e _) ⟨Nat.le_of_ble_eq_true rfl, Nat.le_of_ble_eq_true rfl⟩ rfl hl.1 rfl (Nat.le_of_ble_eq_true rfl) dX5_worked_27 (fun S_5 v_6 H locs h hG => ?_)
      refine x_if_eq (tgt := 45) hM h dX5_worked_30 (by decide) (fun c_7 h => ?_) (fun c_7 h => ?_)
      · refine lv_aload_n hx hb dX5_worked_45 rfl (lv_at hl 1 rfl) ?_
        refine x_gr (r := 12) hM hG xfl_X5_23 xct_8 (by decide) rfl dX5_worked_46 ?_
        refine lv_iload_n hx hb dX5_worked_49 rfl (lv_at hl 3 rfl) ?_
        refine x_iald hM hG xct_12 h dX5_worked_50 (fun v_8 h => ?_)
        refine lv_istore_n (lv' := [(1, .int v_8), (3, .int v_3), (0, .ref (a 8)), (2, .int x2)]) hx hb dX5_worked_51 rfl hl (by decide) rfl (fun ls hl => ?_)
        refine x_iinc hM (fun v => [(2, .int v), (1, .int v_8), (3, .int v_3), (0, .ref (a 8))]) h dX5_worked_52 hl (k := 3) rfl (by decide) (by decide) (fun _ => rfl) (fun v_9 ls h hl => ?_)
        refine lv_goto (tgt := 4) hx hb dX5_worked_55 (by decide) ?_
        exact k1 _ _ _ (Option.some.inj h).symm _ _ _ hG (lv_sub hl [3, 1, 0] rfl)
      · obtain ⟨q1, h, e1⟩ := xmr_at h
        exact w_X5_worked_33 hM hr hlk h (fun t0 e => k0 t0 (by rw [e1, e])) hG (lv_sub hl [1, 3, 0] rfl)
theorem wl_X5_worked_4 (hM : xM p c cX5_worked m s args RX5 4 D cy xtb a z) (hr : meth.sig.returnType = (some .int)) (hlk : meth.locks = false) {S' : xSt} {v' : Int32} {q : (xSt × Int32)} (k0 : ∀ t0 : xSt × Int32, q = t0 → t0 = (S', v')) (n : Nat) : ∀ (S : xSt) (x1 : Int32) (x2 : Int32) (H : Heap) (locs : List Loc) (ls : Array Slot), xlp (fun q : (xSt × Int32 × Int32) => f_X5_worked_4 q.1 q.2.1 q.2.2) n (S, x1, x2) = some q → xG D cy xtb a S s H locs → lv_has ls 4 [(0, .ref (a 8)), (1, .int x1), (2, .int x2)] → W p l e ({ frames := 1, cells := 0, slots := 0, locals := 28 } : Room) s m args below meth c H locs 0 0 (MQ below (xQi D cy xtb a S' v' s.heap.size) args s 0 0 (xA xtb a s.heap.size)) (F0 m 4 ls []) := by
  induction n with
  | zero => intro S x1 x2 H locs ls h; exact (xlp_0 h).elim
  | succ n ih =>
    intro S x1 x2 H locs ls h hG hl
    obtain ⟨q1, hq, hc, he⟩ := xlp_at h
    exact w_X5_worked_4 hM hr hlk (q := q1) hq (fun t0 e => k0 t0 (he _ e).symm) (fun S x1 x2 e H locs ls hG hl => ih S x1 x2 H locs ls (hc _ e) hG hl) hG hl
set_option maxHeartbeats 4000000 in
set_option maxRecDepth 100000 in
theorem w_X5_worked_0 (hM : xM p c cX5_worked m s args RX5 4 D cy xtb a z) (hr : meth.sig.returnType = (some .int)) (hlk : meth.locks = false) {S' : xSt} {v' : Int32} {S : xSt} {q : (xSt × Int32)} (h : f_X5_worked_0 S = some q) (k0 : ∀ t0 : xSt × Int32, q = t0 → t0 = (S', v')) {H : Heap} {locs : List Loc} (hG : xG D cy xtb a S s H locs) {ls : Array Slot} (hl : lv_has ls 4 [(0, .ref (a 8))]) : W p l e ({ frames := 1, cells := 0, slots := 0, locals := 28 } : Room) s m args below meth c H locs 0 0 (MQ below (xQi D cy xtb a S' v' s.heap.size) args s 0 0 (xA xtb a s.heap.size)) (F0 m 0 ls []) := by
  have hx := hM.1
  have hb := hM.2.1
  refine lv_iconst (v := (0 : Int32)) hx hb dX5_worked_0 (by decide) ?_
  refine lv_istore_n (lv' := [(1, .int (0 : Int32)), (0, .ref (a 8))]) hx hb dX5_worked_1 rfl hl (by decide) rfl (fun ls hl => ?_)
  refine lv_iconst (v := (0 : Int32)) hx hb dX5_worked_2 (by decide) ?_
  refine lv_istore_n (lv' := [(2, .int (0 : Int32)), (1, .int (0 : Int32)), (0, .ref (a 8))]) hx hb dX5_worked_3 rfl hl (by decide) rfl (fun ls hl => ?_)
  exact wl_X5_worked_4 hM hr hlk (fun t0 e => k0 t0 e) 5000 _ _ _ _ _ _ h hG (lv_sub hl [2, 1, 0] rfl)
set_option maxHeartbeats 4000000 in
set_option maxRecDepth 100000 in
theorem c_X5_worked {l : Launch} {D : va_G} {cy : Nat → ClassId} {a z : Nat → Nat} (hI : xI xtb a) {S : xSt} {S' : xSt} {v' : Int32} (hf : f_X5_worked S = some (S', v')) (sz : Nat) : Met l yX5_worked (Cond.code yX5_worked cX5_worked 4 (some .int) :: xTB) ({ frames := 1, cells := 0, slots := 0, locals := 28 } : Room) (va_Pc [.ref (a 8)] (xPre D cy xtb a z S sz)) (xQi D cy xtb a S' v' sz) 0 0 (xA xtb a sz) := by
  refine Met.ofW (cc := cX5_worked) (maxL := 4) (ret := (some .int)) (by decide) rfl ?_
  intro p e s m args below meth c s₁ B hml hv
  obtain ⟨rfl, hsz, hP, hK, hE⟩ := hv
  subst hsz
  have hl := lv_entry ([.ref (a 8)]) (n := 4) (Nat.le_of_ble_eq_true rfl)
  rw [lg_entry_eq]
  generalize (lg_sl ([.ref (a 8)]) ++ List.replicate (4 - (lg_sl ([.ref (a 8)])).length) Slot.unset).toArray = ls at hl ⊢
  have hl : lv_has ls 4 [(0, .ref (a 8))] := hl
  exact w_X5_worked_0 ⟨B.exec, B.bytes, hml, findClass_of_methodNamed B.named, fun w hw => atoms_spec (ws := Cond.code yX5_worked cX5_worked 4 (some .int) :: xTB) B.pre w (List.mem_cons_of_mem _ hw), hK, hI, hE⟩ B.returns B.notSynchronized hf (fun t0 e => e.symm) ⟨hP, va_S.rf⟩ (lv_sub hl [0] rfl)
set_option maxHeartbeats 4000000 in
set_option maxRecDepth 100000 in
theorem w_X5_gives_204 {o1 : Nat} (ho1 : xIs_X4 o1) {x10 : Int32} (hM : xM p c cX5_gives m s args RX5 11 D cy xtb a z) (hr : meth.sig.returnType = (some .int)) (hlk : meth.locks = false) {S' : xSt} {v' : Int32} {S : xSt} {q : (xSt × Int32)} (h : f_X5_gives_204 o1 x10 S = some q) (k0 : ∀ t0 : xSt × Int32, q = t0 → t0 = (S', v')) {H : Heap} {locs : List Loc} (hG : xG D cy xtb a S s H locs) {ls : Array Slot} (hl : lv_has ls 11 [(0, .ref (a 8)), (10, .int x10)]) : W p l e ({ frames := 2, cells := 0, slots := 0, locals := 51 } : Room) s m args below meth c H locs 0 0 (MQ below (xQi D cy xtb a S' v' s.heap.size) args s 0 0 (xA xtb a s.heap.size)) (F0 m 204 ls []) := by
  have hx := hM.1
  have hb := hM.2.1
  refine lv_aload_n hx hb dX5_gives_204 rfl (lv_at hl 0 rfl) ?_
  refine x_gr (r := 15) hM hG xfl_X5_32 xct_8 (by decide) rfl dX5_gives_205 ?_
  refine lv_iload hx hb dX5_gives_208 (lv_at hl 1 rfl) ?_
  refine x_iald hM hG xct_15 h dX5_gives_210 (fun v_1 h => ?_)
  refine lv_bipush (v := (63 : Int32)) hx hb dX5_gives_211 (by decide) ?_
  refine x_iand hM h dX5_gives_213 (fun v_2 h => ?_)
  refine lv_bipush (v := (20 : Int32)) hx hb dX5_gives_214 (by decide) ?_
  refine x_isub hM h dX5_gives_216 (fun v_3 h => ?_)
  exact x_ri hM hG hr hlk rfl (k0 _ (Option.some.inj h).symm) dX5_gives_217
set_option maxHeartbeats 4000000 in
set_option maxRecDepth 100000 in
theorem w_X5_gives_0 {o1 : Nat} (ho1 : xIs_X4 o1) {x2 : Int32} (hM : xM p c cX5_gives m s args RX5 11 D cy xtb a z) (hr : meth.sig.returnType = (some .int)) (hlk : meth.locks = false) {S' : xSt} {v' : Int32} {S : xSt} {q : (xSt × Int32)} (h : f_X5_gives_0 o1 x2 S = some q) (k0 : ∀ t0 : xSt × Int32, q = t0 → t0 = (S', v')) {H : Heap} {locs : List Loc} (hG : xG D cy xtb a S s H locs) {ls : Array Slot} (hl : lv_has ls 11 [(0, .ref (a 8)), (1, .ref (a o1)), (2, .int x2)]) : W p l e ({ frames := 2, cells := 0, slots := 0, locals := 51 } : Room) s m args below meth c H locs 0 0 (MQ below (xQi D cy xtb a S' v' s.heap.size) args s 0 0 (xA xtb a s.heap.size)) (F0 m 0 ls []) := by
  have hx := hM.1
  have hb := hM.2.1
  refine lv_aload_n hx hb dX5_gives_0 rfl (lv_at hl 1 rfl) ?_
  refine x_gr (r := o1 + 3) hM hG xfl_X5_50 ho1.1 (by decide) rfl dX5_gives_1 ?_
  refine lv_iload_n hx hb dX5_gives_4 rfl (lv_at hl 2 rfl) ?_
  refine x_iald hM hG ho1.2.2.2.1 h dX5_gives_5 (fun v_1 h => ?_)
  refine lv_istore_n (lv' := [(3, .int v_1), (0, .ref (a 8)), (1, .ref (a o1)), (2, .int x2)]) hx hb dX5_gives_6 rfl hl (by decide) rfl (fun ls hl => ?_)
  refine lv_aload_n hx hb dX5_gives_7 rfl (lv_at hl 2 rfl) ?_
  refine x_gr (r := o1 + 4) hM hG xfl_X5_55 ho1.1 (by decide) rfl dX5_gives_8 ?_
  refine lv_iload_n hx hb dX5_gives_11 rfl (lv_at hl 3 rfl) ?_
  refine x_iald hM hG ho1.2.2.2.2.1 h dX5_gives_12 (fun v_2 h => ?_)
  refine lv_istore (lv' := [(4, .int v_2), (3, .int v_1), (0, .ref (a 8)), (1, .ref (a o1)), (2, .int x2)]) hx hb dX5_gives_13 hl (by decide) rfl (fun ls hl => ?_)
  refine lv_aload_n hx hb dX5_gives_15 rfl (lv_at hl 3 rfl) ?_
  refine x_gr (r := o1 + 6) hM hG xfl_X5_58 ho1.1 (by decide) rfl dX5_gives_16 ?_
  refine lv_iload_n hx hb dX5_gives_19 rfl (lv_at hl 4 rfl) ?_
  refine x_iald hM hG ho1.2.2.2.2.2.2.1 h dX5_gives_20 (fun v_3 h => ?_)
  refine lv_istore (lv' := [(5, .int v_3), (4, .int v_2), (3, .int v_1), (0, .ref (a 8)), (1, .ref (a o1)), (2, .int x2)]) hx hb dX5_gives_21 hl (by decide) rfl (fun ls hl => ?_)
  refine lv_aload_n hx hb dX5_gives_23 rfl (lv_at hl 4 rfl) ?_
  refine lv_iload_n hx hb dX5_gives_24 rfl (lv_at hl 5 rfl) ?_
  refine x_cVi (As := [.int x2]) (rest := []) hM hG xml_X5_61 xwi_X4_airOf xws_X4_airOf ho1.1 (by decide) rfl h (fun S' v e => c_X4_airOf hM.2.2.2.2.2.2.1 ho1 e _) ⟨Nat.le_of_ble_eq_true rfl, Nat.le_of_ble_eq_true rfl⟩ rfl hl.1 rfl (Nat.le_of_ble_eq_true rfl) dX5_gives_25 (fun S_4 v_5 H locs h hG => ?_)
  refine lv_istore (lv' := [(6, .int v_5), (5, .int v_3), (4, .int v_2), (3, .int v_1), (0, .ref (a 8)), (1, .ref (a o1)), (2, .int x2)]) hx hb dX5_gives_28 hl (by decide) rfl (fun ls hl => ?_)
  refine lv_aload_n hx hb dX5_gives_30 rfl (lv_at hl 5 rfl) ?_
  refine lv_iload_n hx hb dX5_gives_31 rfl (lv_at hl 6 rfl) ?_
  refine x_cVi (As := [.int x2]) (rest := []) hM hG xml_X5_65 xwi_X4_meanBeside xws_X4_meanBeside ho1.1 (by decide) rfl h (fun S' v e => c_X4_meanBeside hM.2.2.2.2.2.2.1 ho1 e _) ⟨Nat.le_of_ble_eq_true rfl, Nat.le_of_ble_eq_true rfl⟩ rfl hl.1 rfl (Nat.le_of_ble_eq_true rfl) dX5_gives_32 (fun S_6 v_7 H locs h hG => ?_)
  refine lv_istore (lv' := [(7, .int v_7), (6, .int v_5), (5, .int v_3), (4, .int v_2), (3, .int v_1), (0, .ref (a 8)), (1, .ref (a o1)), (2, .int x2)]) hx hb dX5_gives_35 hl (by decide) rfl (fun ls hl => ?_)
  refine lv_iload_n hx hb dX5_gives_37 rfl (lv_at hl 7 rfl) ?_
  refine lv_iconst (v := (5 : Int32)) hx hb dX5_gives_38 (by decide) ?_
  refine x_irem hM h dX5_gives_39 (fun v_8 h => ?_)
  refine lv_istore (lv' := [(8, .int v_8), (7, .int v_7), (6, .int v_5), (5, .int v_3), (4, .int v_2), (3, .int v_1), (0, .ref (a 8)), (1, .ref (a o1)), (2, .int x2)]) hx hb dX5_gives_40 hl (by decide) rfl (fun ls hl => ?_)
  refine lv_aload_n hx hb dX5_gives_42 rfl (lv_at hl 6 rfl) ?_
  refine x_gi hM hG xfl_X5_39 xct_8 (by decide) rfl h dX5_gives_43 (fun v_9 h => ?_)
  refine x_if_ne (tgt := 72) hM h dX5_gives_46 (by decide) (fun c_10 h => ?_) (fun c_10 h => ?_)
  · refine lv_iconst (v := (1 : Int32)) hx hb dX5_gives_72 (by decide) ?_
    refine lv_iload_n hx hb dX5_gives_73 rfl (lv_at hl 5 rfl) ?_
    refine lv_bipush (v := (100 : Int32)) hx hb dX5_gives_74 (by decide) ?_
    refine x_imul hM h dX5_gives_76 (fun v_11 h => ?_)
    refine lv_iload hx hb dX5_gives_77 (lv_at hl 4 rfl) ?_
    refine x_iadd hM h dX5_gives_79 (fun v_12 h => ?_)
    refine lv_bipush (v := (100 : Int32)) hx hb dX5_gives_80 (by decide) ?_
    refine x_imul hM h dX5_gives_82 (fun v_13 h => ?_)
    refine lv_iload hx hb dX5_gives_83 (lv_at hl 1 rfl) ?_
    refine x_iadd hM h dX5_gives_85 (fun v_14 h => ?_)
    refine lv_bipush (v := (6 : Int32)) hx hb dX5_gives_86 (by decide) ?_
    refine x_imul hM h dX5_gives_88 (fun v_15 h => ?_)
    refine lv_iload hx hb dX5_gives_89 (lv_at hl 2 rfl) ?_
    refine x_iadd hM h dX5_gives_91 (fun v_16 h => ?_)
    refine lv_iconst (v := (2 : Int32)) hx hb dX5_gives_92 (by decide) ?_
    refine x_imul hM h dX5_gives_93 (fun v_17 h => ?_)
    refine lv_iload hx hb dX5_gives_94 (lv_at hl 3 rfl) ?_
    refine x_iadd hM h dX5_gives_96 (fun v_18 h => ?_)
    refine lv_iconst (v := (5 : Int32)) hx hb dX5_gives_97 (by decide) ?_
    refine x_imul hM h dX5_gives_98 (fun v_19 h => ?_)
    refine x_iadd hM h dX5_gives_99 (fun v_20 h => ?_)
    refine lv_iload hx hb dX5_gives_100 (lv_at hl 0 rfl) ?_
    refine x_iadd hM h dX5_gives_102 (fun v_21 h => ?_)
    refine lv_istore (lv' := [(9, .int v_21), (8, .int v_8), (7, .int v_7), (6, .int v_5), (5, .int v_3), (4, .int v_2), (3, .int v_1), (0, .ref (a 8)), (1, .ref (a o1)), (2, .int x2)]) hx hb dX5_gives_103 hl (by decide) rfl (fun ls hl => ?_)
    refine lv_iload hx hb dX5_gives_105 (lv_at hl 0 rfl) ?_
    refine lv_ldc (v := (-1640531535 : Int32)) hx hb hM.2.2.2.1 (hM.2.2.2.2.1 _ xcn_X5_71) dX5_gives_107 ?_
    refine x_imul hM h dX5_gives_109 (fun v_22 h => ?_)
    refine lv_bipush (v := (21 : Int32)) hx hb dX5_gives_110 (by decide) ?_
    refine x_iushr hM h dX5_gives_112 (fun v_23 h => ?_)
    refine lv_sipush (v := (2048 : Int32)) hx hb dX5_gives_113 (by decide) ?_
    refine x_irem hM h dX5_gives_116 (fun v_24 h => ?_)
    refine lv_istore (lv' := [(10, .int v_24), (9, .int v_21), (8, .int v_8), (7, .int v_7), (6, .int v_5), (5, .int v_3), (4, .int v_2), (3, .int v_1), (0, .ref (a 8)), (1, .ref (a o1)), (2, .int x2)]) hx hb dX5_gives_117 hl (by decide) rfl (fun ls hl => ?_)
    refine lv_aload_n hx hb dX5_gives_119 rfl (lv_at hl 8 rfl) ?_
    refine x_gr (r := 15) hM hG xfl_X5_32 xct_8 (by decide) rfl dX5_gives_120 ?_
    refine lv_iload hx hb dX5_gives_123 (lv_at hl 0 rfl) ?_
    refine x_iald hM hG xct_15 h dX5_gives_125 (fun v_25 h => ?_)
    refine lv_bipush (v := (6 : Int32)) hx hb dX5_gives_126 (by decide) ?_
    refine x_ishr hM h dX5_gives_128 (fun v_26 h => ?_)
    refine lv_iload hx hb dX5_gives_129 (lv_at hl 1 rfl) ?_
    refine x_icmp_eq (tgt := 204) hM h dX5_gives_131 (by decide) (fun c_27 h => ?_) (fun c_27 h => ?_)
    · exact w_X5_gives_204 ho1 hM hr hlk h (fun t0 e => k0 t0 e) hG (lv_sub hl [8, 0] rfl)
    · refine lv_aload_n hx hb dX5_gives_134 rfl (lv_at hl 8 rfl) ?_
      refine x_gr (r := 13) hM hG xfl_X5_26 xct_8 (by decide) rfl dX5_gives_135 ?_
      refine lv_iconst (v := (0 : Int32)) hx hb dX5_gives_138 (by decide) ?_
      refine lv_iload_n hx hb dX5_gives_139 rfl (lv_at hl 7 rfl) ?_
      refine x_iast hM hG xct_13 h dX5_gives_140 (fun S_28 H locs h hG => ?_)
      refine lv_aload_n hx hb dX5_gives_141 rfl (lv_at hl 8 rfl) ?_
      refine x_gr (r := 13) hM hG xfl_X5_26 xct_8 (by decide) rfl dX5_gives_142 ?_
      refine lv_iconst (v := (1 : Int32)) hx hb dX5_gives_145 (by decide) ?_
      refine lv_iload hx hb dX5_gives_146 (lv_at hl 6 rfl) ?_
      refine x_iast hM hG xct_13 h dX5_gives_148 (fun S_29 H locs h hG => ?_)
      refine lv_aload_n hx hb dX5_gives_149 rfl (lv_at hl 8 rfl) ?_
      refine x_gr (r := 13) hM hG xfl_X5_26 xct_8 (by decide) rfl dX5_gives_150 ?_
      refine lv_iconst (v := (2 : Int32)) hx hb dX5_gives_153 (by decide) ?_
      refine lv_iload hx hb dX5_gives_154 (lv_at hl 4 rfl) ?_
      refine x_iast hM hG xct_13 h dX5_gives_156 (fun S_30 H locs h hG => ?_)
      refine lv_aload_n hx hb dX5_gives_157 rfl (lv_at hl 8 rfl) ?_
      refine x_gr (r := 13) hM hG xfl_X5_26 xct_8 (by decide) rfl dX5_gives_158 ?_
      refine lv_iconst (v := (3 : Int32)) hx hb dX5_gives_161 (by decide) ?_
      refine lv_iload hx hb dX5_gives_162 (lv_at hl 5 rfl) ?_
      refine x_iast hM hG xct_13 h dX5_gives_164 (fun S_31 H locs h hG => ?_)
      refine lv_aload_n hx hb dX5_gives_165 rfl (lv_at hl 8 rfl) ?_
      refine x_gr (r := 13) hM hG xfl_X5_26 xct_8 (by decide) rfl dX5_gives_166 ?_
      refine lv_iconst (v := (4 : Int32)) hx hb dX5_gives_169 (by decide) ?_
      refine lv_iload hx hb dX5_gives_170 (lv_at hl 3 rfl) ?_
      refine x_iast hM hG xct_13 h dX5_gives_172 (fun S_32 H locs h hG => ?_)
      refine lv_aload_n hx hb dX5_gives_173 rfl (lv_at hl 8 rfl) ?_
      refine x_gr (r := 13) hM hG xfl_X5_26 xct_8 (by decide) rfl dX5_gives_174 ?_
      refine lv_iconst (v := (5 : Int32)) hx hb dX5_gives_177 (by decide) ?_
      refine lv_iload hx hb dX5_gives_178 (lv_at hl 2 rfl) ?_
      refine x_iast hM hG xct_13 h dX5_gives_180 (fun S_33 H locs h hG => ?_)
      refine lv_aload_n hx hb dX5_gives_181 rfl (lv_at hl 8 rfl) ?_
      refine x_gr (r := 15) hM hG xfl_X5_32 xct_8 (by decide) rfl dX5_gives_182 ?_
      refine lv_iload hx hb dX5_gives_185 (lv_at hl 0 rfl) ?_
      refine lv_iload hx hb dX5_gives_187 (lv_at hl 1 rfl) ?_
      refine lv_bipush (v := (6 : Int32)) hx hb dX5_gives_189 (by decide) ?_
      refine x_ishl hM h dX5_gives_191 (fun v_34 h => ?_)
      refine lv_aload_n hx hb dX5_gives_192 rfl (lv_at hl 8 rfl) ?_
      refine x_cVi (As := []) (rest := [.int v_34, .int v_24, .ref (a 15)]) hM hG xml_X5_72 xwi_X5_worked xws_X5_worked xct_8 (by decide) rfl h (fun S' v e => c_X5_worked hM.2.2.2.2.2.2.1 e _) ⟨Nat.le_of_ble_eq_true rfl, Nat.le_of_ble_eq_true rfl⟩ rfl hl.1 rfl (Nat.le_of_ble_eq_true rfl) dX5_gives_193 (fun S_35 v_36 H locs h hG => ?_)
      refine x_cSi (As := [.int v_36]) (rest := [.int v_34, .int v_24, .ref (a 15)]) hM hG xml_X5_68 xwt_X5_held h (fun S' v e => c_X5_held hM.2.2.2.2.2.2.1 e _) ⟨Nat.le_of_ble_eq_true rfl, Nat.le_of_ble_eq_true rfl⟩ rfl hl.1 rfl (Nat.le_of_ble_eq_true rfl) dX5_gives_196 (fun S_37 v_38 H locs h hG => ?_)
      refine lv_bipush (v := (20 : Int32)) hx hb dX5_gives_199 (by decide) ?_
      refine x_iadd hM h dX5_gives_201 (fun v_39 h => ?_)
      refine x_ior hM h dX5_gives_202 (fun v_40 h => ?_)
      refine x_iast hM hG xct_15 h dX5_gives_203 (fun S_41 H locs h hG => ?_)
      exact w_X5_gives_204 ho1 hM hr hlk h (fun t0 e => k0 t0 e) hG (lv_sub hl [8, 0] rfl)
  · refine lv_iconst (v := (2 : Int32)) hx hb dX5_gives_49 (by decide) ?_
    refine lv_iload_n hx hb dX5_gives_50 rfl (lv_at hl 5 rfl) ?_
    refine x_imul hM h dX5_gives_51 (fun v_42 h => ?_)
    refine lv_iload hx hb dX5_gives_52 (lv_at hl 2 rfl) ?_
    refine x_isub hM h dX5_gives_54 (fun v_43 h => ?_)
    refine lv_iconst (v := (4 : Int32)) hx hb dX5_gives_55 (by decide) ?_
    refine lv_iload hx hb dX5_gives_56 (lv_at hl 3 rfl) ?_
    refine x_imul hM h dX5_gives_58 (fun v_44 h => ?_)
    refine x_isub hM h dX5_gives_59 (fun v_45 h => ?_)
    refine lv_iload hx hb dX5_gives_60 (lv_at hl 1 rfl) ?_
    refine lv_iload hx hb dX5_gives_62 (lv_at hl 4 rfl) ?_
    refine x_isub hM h dX5_gives_64 (fun v_46 h => ?_)
    refine lv_iconst (v := (4 : Int32)) hx hb dX5_gives_65 (by decide) ?_
    refine x_idiv hM h dX5_gives_66 (fun v_47 h => ?_)
    refine x_iadd hM h dX5_gives_67 (fun v_48 h => ?_)
    refine x_cSi (As := [.int v_48]) (rest := []) hM hG xml_X5_68 xwt_X5_held h (fun S' v e => c_X5_held hM.2.2.2.2.2.2.1 e _) ⟨Nat.le_of_ble_eq_true rfl, Nat.le_of_ble_eq_true rfl⟩ rfl hl.1 rfl (Nat.le_of_ble_eq_true rfl) dX5_gives_68 (fun S_49 v_50 H locs h hG => ?_)
    exact x_ri hM hG hr hlk rfl (k0 _ (Option.some.inj h).symm) dX5_gives_71
set_option maxHeartbeats 4000000 in
set_option maxRecDepth 100000 in
theorem c_X5_gives {l : Launch} {D : va_G} {cy : Nat → ClassId} {a z : Nat → Nat} (hI : xI xtb a) {o1 : Nat} (ho1 : xIs_X4 o1) {S : xSt} {x2 : Int32} {S' : xSt} {v' : Int32} (hf : f_X5_gives o1 S x2 = some (S', v')) (sz : Nat) : Met l yX5_gives (Cond.code yX5_gives cX5_gives 11 (some .int) :: xTB) ({ frames := 2, cells := 0, slots := 0, locals := 51 } : Room) (va_Pc [.ref (a 8), .ref (a o1), .int x2] (xPre D cy xtb a z S sz)) (xQi D cy xtb a S' v' sz) 0 0 (xA xtb a sz) := by
  refine Met.ofW (cc := cX5_gives) (maxL := 11) (ret := (some .int)) (by decide) rfl ?_
  intro p e s m args below meth c s₁ B hml hv
  obtain ⟨rfl, hsz, hP, hK, hE⟩ := hv
  subst hsz
  have hl := lv_entry ([.ref (a 8), .ref (a o1), .int x2]) (n := 11) (Nat.le_of_ble_eq_true rfl)
  rw [lg_entry_eq]
  generalize (lg_sl ([.ref (a 8), .ref (a o1), .int x2]) ++ List.replicate (11 - (lg_sl ([.ref (a 8), .ref (a o1), .int x2])).length) Slot.unset).toArray = ls at hl ⊢
  have hl : lv_has ls 11 [(0, .ref (a 8)), (1, .ref (a o1)), (2, .int x2)] := hl
  exact w_X5_gives_0 ho1 ⟨B.exec, B.bytes, hml, findClass_of_methodNamed B.named, fun w hw => atoms_spec (ws := Cond.code yX5_gives cX5_gives 11 (some .int) :: xTB) B.pre w (List.mem_cons_of_mem _ hw), hK, hI, hE⟩ B.returns B.notSynchronized hf (fun t0 e => e.symm) ⟨hP, va_S.rf⟩ (lv_sub hl [0, 1, 2] rfl)
set_option maxHeartbeats 4000000 in
set_option maxRecDepth 100000 in
theorem w_X4_warm_55 {o : Nat} (ho : xIs_X4 o) {x1 : Int32} {x3 : Int32} (hM : xM p c cX4_warm m s args RX4 4 D cy xtb a z) (hr : meth.sig.returnType = none) (hlk : meth.locks = false) {S' : xSt} {v' : Unit} {S : xSt} {q : (xSt × Unit)} (h : f_X4_warm_55 o x1 x3 S = some q) (k0 : ∀ t0 : xSt × Unit, q = t0 → t0 = (S', v')) {H : Heap} {locs : List Loc} (hG : xG D cy xtb a S s H locs) {ls : Array Slot} (hl : lv_has ls 4 [(0, .ref (a o)), (1, .int x1), (3, .int x3)]) : W p l e ({ frames := 1, cells := 0, slots := 0, locals := 26 } : Room) s m args below meth c H locs 0 0 (MQ below (xQv D cy xtb a S' v' s.heap.size) args s 0 0 (xA xtb a s.heap.size)) (F0 m 55 ls []) := by
  have hx := hM.1
  have hb := hM.2.1
  refine lv_iload_n hx hb dX4_warm_55 rfl (lv_at hl 2 rfl) ?_
  refine lv_bipush (v := (50 : Int32)) hx hb dX4_warm_56 (by decide) ?_
  refine x_icmp_lt (tgt := 79) hM h dX4_warm_58 (by decide) (fun c_1 h => ?_) (fun c_1 h => ?_)
  · exact x_rv hM hG hr hlk (k0 _ (Option.some.inj h).symm) dX4_warm_79
  · refine lv_aload_n hx hb dX4_warm_61 rfl (lv_at hl 0 rfl) ?_
    refine x_gr (r := o + 3) hM hG xfl_X4_18 ho.1 (by decide) rfl dX4_warm_62 ?_
    refine lv_iload_n hx hb dX4_warm_65 rfl (lv_at hl 1 rfl) ?_
    refine lv_iconst (v := (0 : Int32)) hx hb dX4_warm_66 (by decide) ?_
    refine lv_aload_n hx hb dX4_warm_67 rfl (lv_at hl 0 rfl) ?_
    refine x_gr (r := o + 3) hM hG xfl_X4_18 ho.1 (by decide) rfl dX4_warm_68 ?_
    refine lv_iload_n hx hb dX4_warm_71 rfl (lv_at hl 1 rfl) ?_
    refine x_iald hM hG ho.2.2.2.1 h dX4_warm_72 (fun v_2 h => ?_)
    refine lv_iconst (v := (1 : Int32)) hx hb dX4_warm_73 (by decide) ?_
    refine x_isub hM h dX4_warm_74 (fun v_3 h => ?_)
    refine x_mmax hM hl.1 xmm_X4_60 h (Nat.le_of_ble_eq_true rfl) (Nat.le_of_ble_eq_true rfl) dX4_warm_75 (fun v_4 h => ?_)
    refine x_iast hM hG ho.2.2.2.1 h dX4_warm_78 (fun S_5 H locs h hG => ?_)
    exact x_rv hM hG hr hlk (k0 _ (Option.some.inj h).symm) dX4_warm_79
set_option maxHeartbeats 4000000 in
set_option maxRecDepth 100000 in
theorem w_X4_warm_0 {o : Nat} (ho : xIs_X4 o) {x1 : Int32} {x2 : Int32} (hM : xM p c cX4_warm m s args RX4 4 D cy xtb a z) (hr : meth.sig.returnType = none) (hlk : meth.locks = false) {S' : xSt} {v' : Unit} {S : xSt} {q : (xSt × Unit)} (h : f_X4_warm_0 o x1 x2 S = some q) (k0 : ∀ t0 : xSt × Unit, q = t0 → t0 = (S', v')) {H : Heap} {locs : List Loc} (hG : xG D cy xtb a S s H locs) {ls : Array Slot} (hl : lv_has ls 4 [(0, .ref (a o)), (1, .int x1), (2, .int x2)]) : W p l e ({ frames := 1, cells := 0, slots := 0, locals := 26 } : Room) s m args below meth c H locs 0 0 (MQ below (xQv D cy xtb a S' v' s.heap.size) args s 0 0 (xA xtb a s.heap.size)) (F0 m 0 ls []) := by
  have hx := hM.1
  have hb := hM.2.1
  refine lv_iconst (v := (0 : Int32)) hx hb dX4_warm_0 (by decide) ?_
  refine x_gsN hM hG hM.2.2.2.2.2.2.2.2.2 hM.2.2.2.2.2.2.2.1.2.1 dX4_warm_1 ?_
  refine lv_iconst (v := (1 : Int32)) hx hb dX4_warm_4 (by decide) ?_
  refine x_tald hM hG hM.2.2.2.2.2.2.2.2.2 h dX4_warm_5 (fun v_1 h => ?_)
  refine lv_aload_n hx hb dX4_warm_6 rfl (lv_at hl 0 rfl) ?_
  refine x_gr (r := o + 4) hM hG xfl_X4_21 ho.1 (by decide) rfl dX4_warm_7 ?_
  refine lv_iload_n hx hb dX4_warm_10 rfl (lv_at hl 1 rfl) ?_
  refine x_iald hM hG ho.2.2.2.2.1 h dX4_warm_11 (fun v_2 h => ?_)
  refine lv_iload_n hx hb dX4_warm_12 rfl (lv_at hl 2 rfl) ?_
  refine x_iadd hM h dX4_warm_13 (fun v_3 h => ?_)
  refine x_mmin hM hl.1 xmm_X4_66 h (Nat.le_of_ble_eq_true rfl) (Nat.le_of_ble_eq_true rfl) dX4_warm_14 (fun v_4 h => ?_)
  refine x_mmax hM hl.1 xmm_X4_60 h (Nat.le_of_ble_eq_true rfl) (Nat.le_of_ble_eq_true rfl) dX4_warm_17 (fun v_5 h => ?_)
  refine lv_istore_n (lv' := [(3, .int v_5), (0, .ref (a o)), (1, .int x1), (2, .int x2)]) hx hb dX4_warm_20 rfl hl (by decide) rfl (fun ls hl => ?_)
  refine lv_aload_n hx hb dX4_warm_21 rfl (lv_at hl 1 rfl) ?_
  refine x_gr (r := o + 4) hM hG xfl_X4_21 ho.1 (by decide) rfl dX4_warm_22 ?_
  refine lv_iload_n hx hb dX4_warm_25 rfl (lv_at hl 2 rfl) ?_
  refine lv_iload_n hx hb dX4_warm_26 rfl (lv_at hl 0 rfl) ?_
  refine x_iast hM hG ho.2.2.2.2.1 h dX4_warm_27 (fun S_6 H locs h hG => ?_)
  refine lv_iload_n hx hb dX4_warm_28 rfl (lv_at hl 0 rfl) ?_
  refine lv_bipush (v := (40 : Int32)) hx hb dX4_warm_29 (by decide) ?_
  refine x_icmp_lt (tgt := 55) hM h dX4_warm_31 (by decide) (fun c_7 h => ?_) (fun c_7 h => ?_)
  · exact w_X4_warm_55 ho hM hr hlk h (fun t0 e => k0 t0 e) hG (lv_sub hl [1, 2, 0] rfl)
  · refine lv_aload_n hx hb dX4_warm_34 rfl (lv_at hl 1 rfl) ?_
    refine x_gr (r := o + 5) hM hG xfl_X4_24 ho.1 (by decide) rfl dX4_warm_35 ?_
    refine lv_iload_n hx hb dX4_warm_38 rfl (lv_at hl 2 rfl) ?_
    refine lv_iconst (v := (0 : Int32)) hx hb dX4_warm_39 (by decide) ?_
    refine lv_aload_n hx hb dX4_warm_40 rfl (lv_at hl 1 rfl) ?_
    refine x_gr (r := o + 5) hM hG xfl_X4_24 ho.1 (by decide) rfl dX4_warm_41 ?_
    refine lv_iload_n hx hb dX4_warm_44 rfl (lv_at hl 2 rfl) ?_
    refine x_iald hM hG ho.2.2.2.2.2.1 h dX4_warm_45 (fun v_8 h => ?_)
    refine lv_iload_n hx hb dX4_warm_46 rfl (lv_at hl 0 rfl) ?_
    refine lv_bipush (v := (20 : Int32)) hx hb dX4_warm_47 (by decide) ?_
    refine x_idiv hM h dX4_warm_49 (fun v_9 h => ?_)
    refine x_isub hM h dX4_warm_50 (fun v_10 h => ?_)
    refine x_mmax hM hl.1 xmm_X4_60 h (Nat.le_of_ble_eq_true rfl) (Nat.le_of_ble_eq_true rfl) dX4_warm_51 (fun v_11 h => ?_)
    refine x_iast hM hG ho.2.2.2.2.2.1 h dX4_warm_54 (fun S_12 H locs h hG => ?_)
    exact w_X4_warm_55 ho hM hr hlk h (fun t0 e => k0 t0 e) hG (lv_sub hl [1, 2, 0] rfl)
set_option maxHeartbeats 4000000 in
set_option maxRecDepth 100000 in
theorem c_X4_warm {l : Launch} {D : va_G} {cy : Nat → ClassId} {a z : Nat → Nat} (hI : xI xtb a) {o : Nat} (ho : xIs_X4 o) {S : xSt} {x1 : Int32} {x2 : Int32} {S' : xSt} {v' : Unit} (hf : f_X4_warm o S x1 x2 = some (S', v')) (sz : Nat) : Met l yX4_warm (Cond.code yX4_warm cX4_warm 4 none :: xTB) ({ frames := 1, cells := 0, slots := 0, locals := 26 } : Room) (va_Pc [.ref (a o), .int x1, .int x2] (xPre D cy xtb a z S sz)) (xQv D cy xtb a S' v' sz) 0 0 (xA xtb a sz) := by
  refine Met.ofW (cc := cX4_warm) (maxL := 4) (ret := none) (by decide) rfl ?_
  intro p e s m args below meth c s₁ B hml hv
  obtain ⟨rfl, hsz, hP, hK, hE⟩ := hv
  subst hsz
  have hl := lv_entry ([.ref (a o), .int x1, .int x2]) (n := 4) (Nat.le_of_ble_eq_true rfl)
  rw [lg_entry_eq]
  generalize (lg_sl ([.ref (a o), .int x1, .int x2]) ++ List.replicate (4 - (lg_sl ([.ref (a o), .int x1, .int x2])).length) Slot.unset).toArray = ls at hl ⊢
  have hl : lv_has ls 4 [(0, .ref (a o)), (1, .int x1), (2, .int x2)] := hl
  exact w_X4_warm_0 ho ⟨B.exec, B.bytes, hml, findClass_of_methodNamed B.named, fun w hw => atoms_spec (ws := Cond.code yX4_warm cX4_warm 4 none :: xTB) B.pre w (List.mem_cons_of_mem _ hw), hK, hI, hE⟩ B.returns B.notSynchronized hf (fun t0 e => e.symm) ⟨hP, va_S.rf⟩ (lv_sub hl [0, 1, 2] rfl)
set_option maxHeartbeats 4000000 in
set_option maxRecDepth 100000 in
theorem w_X4_passDay_31 {o : Nat} (ho : xIs_X4 o) {x1 : Int32} (hM : xM p c cX4_passDay m s args RX4 2 D cy xtb a z) (hr : meth.sig.returnType = none) (hlk : meth.locks = false) {S' : xSt} {v' : Unit} {S : xSt} {q : ((xSt × Int32) ⊕ (xSt × Unit))} (h : f_X4_passDay_31 o x1 S = some q) (k0 : ∀ t0 : xSt × Unit, q = (.inr t0) → t0 = (S', v')) (k1 : ∀ (S : xSt) (x1 : Int32), q = (.inl (S, x1)) → ∀ (H : Heap) (locs : List Loc) (ls : Array Slot), xG D cy xtb a S s H locs → lv_has ls 2 [(0, .ref (a o)), (1, .int x1)] → W p l e ({ frames := 3, cells := 0, slots := 0, locals := 81 } : Room) s m args below meth c H locs 0 0 (MQ below (xQv D cy xtb a S' v' s.heap.size) args s 0 0 (xA xtb a s.heap.size)) (F0 m 2 ls [])) {H : Heap} {locs : List Loc} (hG : xG D cy xtb a S s H locs) {ls : Array Slot} (hl : lv_has ls 2 [(0, .ref (a o)), (1, .int x1)]) : W p l e ({ frames := 3, cells := 0, slots := 0, locals := 81 } : Room) s m args below meth c H locs 0 0 (MQ below (xQv D cy xtb a S' v' s.heap.size) args s 0 0 (xA xtb a s.heap.size)) (F0 m 31 ls []) := by
  have hx := hM.1
  have hb := hM.2.1
  refine x_iinc hM (fun v => [(1, .int v), (0, .ref (a o))]) h dX4_passDay_31 hl (k := 1) rfl (by decide) (by decide) (fun _ => rfl) (fun v_1 ls h hl => ?_)
  refine lv_goto (tgt := 2) hx hb dX4_passDay_34 (by decide) ?_
  exact k1 _ _ (Option.some.inj h).symm _ _ _ hG (lv_sub hl [1, 0] rfl)
set_option maxHeartbeats 4000000 in
set_option maxRecDepth 100000 in
theorem w_X4_passDay_64 {o : Nat} (ho : xIs_X4 o) {x1 : Int32} (hM : xM p c cX4_passDay m s args RX4 2 D cy xtb a z) (hr : meth.sig.returnType = none) (hlk : meth.locks = false) {S' : xSt} {v' : Unit} {S : xSt} {q : ((xSt × Int32) ⊕ (xSt × Unit))} (h : f_X4_passDay_64 o x1 S = some q) (k0 : ∀ t0 : xSt × Unit, q = (.inr t0) → t0 = (S', v')) (k1 : ∀ (S : xSt) (x1 : Int32), q = (.inl (S, x1)) → ∀ (H : Heap) (locs : List Loc) (ls : Array Slot), xG D cy xtb a S s H locs → lv_has ls 2 [(0, .ref (a o)), (1, .int x1)] → W p l e ({ frames := 3, cells := 0, slots := 0, locals := 81 } : Room) s m args below meth c H locs 0 0 (MQ below (xQv D cy xtb a S' v' s.heap.size) args s 0 0 (xA xtb a s.heap.size)) (F0 m 39 ls [])) {H : Heap} {locs : List Loc} (hG : xG D cy xtb a S s H locs) {ls : Array Slot} (hl : lv_has ls 2 [(0, .ref (a o)), (1, .int x1)]) : W p l e ({ frames := 3, cells := 0, slots := 0, locals := 81 } : Room) s m args below meth c H locs 0 0 (MQ below (xQv D cy xtb a S' v' s.heap.size) args s 0 0 (xA xtb a s.heap.size)) (F0 m 64 ls []) := by
  have hx := hM.1
  have hb := hM.2.1
  refine x_iinc hM (fun v => [(1, .int v), (0, .ref (a o))]) h dX4_passDay_64 hl (k := 1) rfl (by decide) (by decide) (fun _ => rfl) (fun v_1 ls h hl => ?_)
  refine lv_goto (tgt := 39) hx hb dX4_passDay_67 (by decide) ?_
  exact k1 _ _ (Option.some.inj h).symm _ _ _ hG (lv_sub hl [1, 0] rfl)
set_option maxHeartbeats 4000000 in
set_option maxRecDepth 100000 in
theorem w_X4_passDay_70 {o : Nat} (ho : xIs_X4 o) (hM : xM p c cX4_passDay m s args RX4 2 D cy xtb a z) (hr : meth.sig.returnType = none) (hlk : meth.locks = false) {S' : xSt} {v' : Unit} {S : xSt} {q : (xSt × Unit)} (h : f_X4_passDay_70 o S = some q) (k0 : ∀ t0 : xSt × Unit, q = t0 → t0 = (S', v')) {H : Heap} {locs : List Loc} (hG : xG D cy xtb a S s H locs) {ls : Array Slot} (hl : lv_has ls 2 [(0, .ref (a o))]) : W p l e ({ frames := 3, cells := 0, slots := 0, locals := 81 } : Room) s m args below meth c H locs 0 0 (MQ below (xQv D cy xtb a S' v' s.heap.size) args s 0 0 (xA xtb a s.heap.size)) (F0 m 70 ls []) := by
  have hx := hM.1
  have hb := hM.2.1
  refine lv_aload_n hx hb dX4_passDay_70 rfl (lv_at hl 0 rfl) ?_
  refine x_gsN hM hG hM.2.2.2.2.2.2.2.2.2 hM.2.2.2.2.2.2.2.1.2.1 dX4_passDay_71 ?_
  refine lv_bipush (v := (7 : Int32)) hx hb dX4_passDay_74 (by decide) ?_
  refine x_tald hM hG hM.2.2.2.2.2.2.2.2.2 h dX4_passDay_76 (fun v_1 h => ?_)
  refine lv_aload_n hx hb dX4_passDay_77 rfl (lv_at hl 0 rfl) ?_
  refine x_gi hM hG xfl_X4_53 ho.1 (by decide) rfl h dX4_passDay_78 (fun v_2 h => ?_)
  refine lv_iconst (v := (1 : Int32)) hx hb dX4_passDay_81 (by decide) ?_
  refine x_iadd hM h dX4_passDay_82 (fun v_3 h => ?_)
  refine x_mmin hM hl.1 xmm_X4_66 h (Nat.le_of_ble_eq_true rfl) (Nat.le_of_ble_eq_true rfl) dX4_passDay_83 (fun v_4 h => ?_)
  refine x_pi hM hG xfl_X4_53 xfp_X4_11 ho.1 (by decide) rfl rfl rfl h dX4_passDay_86 (fun S_5 H locs h hG => ?_)
  exact x_rv hM hG hr hlk (k0 _ (Option.some.inj h).symm) dX4_passDay_89
set_option maxHeartbeats 4000000 in
set_option maxRecDepth 100000 in
theorem w_X4_passDay_39 {o : Nat} (ho : xIs_X4 o) {x1 : Int32} (hM : xM p c cX4_passDay m s args RX4 2 D cy xtb a z) (hr : meth.sig.returnType = none) (hlk : meth.locks = false) {S' : xSt} {v' : Unit} {S : xSt} {q : ((xSt × Int32) ⊕ (xSt × Unit))} (h : f_X4_passDay_39 o S x1 = some q) (k0 : ∀ t0 : xSt × Unit, q = (.inr t0) → t0 = (S', v')) (k1 : ∀ (S : xSt) (x1 : Int32), q = (.inl (S, x1)) → ∀ (H : Heap) (locs : List Loc) (ls : Array Slot), xG D cy xtb a S s H locs → lv_has ls 2 [(0, .ref (a o)), (1, .int x1)] → W p l e ({ frames := 3, cells := 0, slots := 0, locals := 81 } : Room) s m args below meth c H locs 0 0 (MQ below (xQv D cy xtb a S' v' s.heap.size) args s 0 0 (xA xtb a s.heap.size)) (F0 m 39 ls [])) {H : Heap} {locs : List Loc} (hG : xG D cy xtb a S s H locs) {ls : Array Slot} (hl : lv_has ls 2 [(0, .ref (a o)), (1, .int x1)]) : W p l e ({ frames := 3, cells := 0, slots := 0, locals := 81 } : Room) s m args below meth c H locs 0 0 (MQ below (xQv D cy xtb a S' v' s.heap.size) args s 0 0 (xA xtb a s.heap.size)) (F0 m 39 ls []) := by
  have hx := hM.1
  have hb := hM.2.1
  refine lv_iload_n hx hb dX4_passDay_39 rfl (lv_at hl 1 rfl) ?_
  refine lv_bipush (v := (30 : Int32)) hx hb dX4_passDay_40 (by decide) ?_
  refine x_icmp_ge (tgt := 70) hM h dX4_passDay_42 (by decide) (fun c_1 h => ?_) (fun c_1 h => ?_)
  · obtain ⟨q1, h, e1⟩ := xmr_at h
    exact w_X4_passDay_70 ho hM hr hlk h (fun t0 e => k0 t0 (by rw [e1, e])) hG (lv_sub hl [0] rfl)
  · refine lv_aload_n hx hb dX4_passDay_45 rfl (lv_at hl 0 rfl) ?_
    refine lv_iload_n hx hb dX4_passDay_46 rfl (lv_at hl 1 rfl) ?_
    refine x_cVi (As := [.int x1]) (rest := []) hM hG xml_X4_73 xwi_X4_has xws_X4_has ho.1 (by decide) rfl h (fun S' v e => c_X4_has hM.2.2.2.2.2.2.1 ho e _) ⟨Nat.le_of_ble_eq_true rfl, Nat.le_of_ble_eq_true rfl⟩ rfl hl.1 rfl (Nat.le_of_ble_eq_true rfl) dX4_passDay_47 (fun S_2 v_3 H locs h hG => ?_)
    refine x_if_eq (tgt := 64) hM h dX4_passDay_50 (by decide) (fun c_4 h => ?_) (fun c_4 h => ?_)
    · exact w_X4_passDay_64 ho hM hr hlk h (fun t0 e => k0 t0 e) (fun S x1 e => k1 S x1 e) hG (lv_sub hl [0, 1] rfl)
    · refine lv_aload_n hx hb dX4_passDay_53 rfl (lv_at hl 0 rfl) ?_
      refine lv_iload_n hx hb dX4_passDay_54 rfl (lv_at hl 1 rfl) ?_
      refine lv_aload_n hx hb dX4_passDay_55 rfl (lv_at hl 0 rfl) ?_
      refine x_gr (r := o + 9) hM hG xfl_X4_36 ho.1 (by decide) rfl dX4_passDay_56 ?_
      refine lv_iload_n hx hb dX4_passDay_59 rfl (lv_at hl 1 rfl) ?_
      refine x_iald hM hG ho.2.2.2.2.2.2.2.2.2 h dX4_passDay_60 (fun v_5 h => ?_)
      refine x_cVv (As := [.int x1, .int v_5]) (rest := []) hM hG xml_X4_83 xwi_X4_warm xws_X4_warm ho.1 (by decide) rfl h (fun S' v e => c_X4_warm hM.2.2.2.2.2.2.1 ho e _) ⟨Nat.le_of_ble_eq_true rfl, Nat.le_of_ble_eq_true rfl⟩ rfl hl.1 rfl (Nat.le_of_ble_eq_true rfl) dX4_passDay_61 (fun S_6 v_7 H locs h hG => ?_)
      exact w_X4_passDay_64 ho hM hr hlk h (fun t0 e => k0 t0 e) (fun S x1 e => k1 S x1 e) hG (lv_sub hl [0, 1] rfl)
theorem wl_X4_passDay_39 {o : Nat} (ho : xIs_X4 o) (hM : xM p c cX4_passDay m s args RX4 2 D cy xtb a z) (hr : meth.sig.returnType = none) (hlk : meth.locks = false) {S' : xSt} {v' : Unit} {q : (xSt × Unit)} (k0 : ∀ t0 : xSt × Unit, q = t0 → t0 = (S', v')) (n : Nat) : ∀ (S : xSt) (x1 : Int32) (H : Heap) (locs : List Loc) (ls : Array Slot), xlp (fun q : (xSt × Int32) => f_X4_passDay_39 o q.1 q.2) n (S, x1) = some q → xG D cy xtb a S s H locs → lv_has ls 2 [(0, .ref (a o)), (1, .int x1)] → W p l e ({ frames := 3, cells := 0, slots := 0, locals := 81 } : Room) s m args below meth c H locs 0 0 (MQ below (xQv D cy xtb a S' v' s.heap.size) args s 0 0 (xA xtb a s.heap.size)) (F0 m 39 ls []) := by
  induction n with
  | zero => intro S x1 H locs ls h; exact (xlp_0 h).elim
  | succ n ih =>
    intro S x1 H locs ls h hG hl
    obtain ⟨q1, hq, hc, he⟩ := xlp_at h
    exact w_X4_passDay_39 ho hM hr hlk (q := q1) hq (fun t0 e => k0 t0 (he _ e).symm) (fun S x1 e H locs ls hG hl => ih S x1 H locs ls (hc _ e) hG hl) hG hl
set_option maxHeartbeats 4000000 in
set_option maxRecDepth 100000 in
theorem w_X4_passDay_37 {o : Nat} (ho : xIs_X4 o) (hM : xM p c cX4_passDay m s args RX4 2 D cy xtb a z) (hr : meth.sig.returnType = none) (hlk : meth.locks = false) {S' : xSt} {v' : Unit} {S : xSt} {q : (xSt × Unit)} (h : f_X4_passDay_37 o S = some q) (k0 : ∀ t0 : xSt × Unit, q = t0 → t0 = (S', v')) {H : Heap} {locs : List Loc} (hG : xG D cy xtb a S s H locs) {ls : Array Slot} (hl : lv_has ls 2 [(0, .ref (a o))]) : W p l e ({ frames := 3, cells := 0, slots := 0, locals := 81 } : Room) s m args below meth c H locs 0 0 (MQ below (xQv D cy xtb a S' v' s.heap.size) args s 0 0 (xA xtb a s.heap.size)) (F0 m 37 ls []) := by
  have hx := hM.1
  have hb := hM.2.1
  refine lv_iconst (v := (0 : Int32)) hx hb dX4_passDay_37 (by decide) ?_
  refine lv_istore_n (lv' := [(1, .int (0 : Int32)), (0, .ref (a o))]) hx hb dX4_passDay_38 rfl hl (by decide) rfl (fun ls hl => ?_)
  exact wl_X4_passDay_39 ho hM hr hlk (fun t0 e => k0 t0 e) 5000 _ _ _ _ _ h hG (lv_sub hl [1, 0] rfl)
set_option maxHeartbeats 4000000 in
set_option maxRecDepth 100000 in
theorem w_X4_passDay_2 {o : Nat} (ho : xIs_X4 o) {x1 : Int32} (hM : xM p c cX4_passDay m s args RX4 2 D cy xtb a z) (hr : meth.sig.returnType = none) (hlk : meth.locks = false) {S' : xSt} {v' : Unit} {S : xSt} {q : ((xSt × Int32) ⊕ (xSt × Unit))} (h : f_X4_passDay_2 o S x1 = some q) (k0 : ∀ t0 : xSt × Unit, q = (.inr t0) → t0 = (S', v')) (k1 : ∀ (S : xSt) (x1 : Int32), q = (.inl (S, x1)) → ∀ (H : Heap) (locs : List Loc) (ls : Array Slot), xG D cy xtb a S s H locs → lv_has ls 2 [(0, .ref (a o)), (1, .int x1)] → W p l e ({ frames := 3, cells := 0, slots := 0, locals := 81 } : Room) s m args below meth c H locs 0 0 (MQ below (xQv D cy xtb a S' v' s.heap.size) args s 0 0 (xA xtb a s.heap.size)) (F0 m 2 ls [])) {H : Heap} {locs : List Loc} (hG : xG D cy xtb a S s H locs) {ls : Array Slot} (hl : lv_has ls 2 [(0, .ref (a o)), (1, .int x1)]) : W p l e ({ frames := 3, cells := 0, slots := 0, locals := 81 } : Room) s m args below meth c H locs 0 0 (MQ below (xQv D cy xtb a S' v' s.heap.size) args s 0 0 (xA xtb a s.heap.size)) (F0 m 2 ls []) := by
  have hx := hM.1
  have hb := hM.2.1
  refine lv_iload_n hx hb dX4_passDay_2 rfl (lv_at hl 1 rfl) ?_
  refine lv_bipush (v := (30 : Int32)) hx hb dX4_passDay_3 (by decide) ?_
  refine x_icmp_ge (tgt := 37) hM h dX4_passDay_5 (by decide) (fun c_1 h => ?_) (fun c_1 h => ?_)
  · obtain ⟨q1, h, e1⟩ := xmr_at h
    exact w_X4_passDay_37 ho hM hr hlk h (fun t0 e => k0 t0 (by rw [e1, e])) hG (lv_sub hl [0] rfl)
  · refine lv_aload_n hx hb dX4_passDay_8 rfl (lv_at hl 0 rfl) ?_
    refine lv_iload_n hx hb dX4_passDay_9 rfl (lv_at hl 1 rfl) ?_
    refine x_cVi (As := [.int x1]) (rest := []) hM hG xml_X4_73 xwi_X4_has xws_X4_has ho.1 (by decide) rfl h (fun S' v e => c_X4_has hM.2.2.2.2.2.2.1 ho e _) ⟨Nat.le_of_ble_eq_true rfl, Nat.le_of_ble_eq_true rfl⟩ rfl hl.1 rfl (Nat.le_of_ble_eq_true rfl) dX4_passDay_10 (fun S_2 v_3 H locs h hG => ?_)
    refine x_if_eq (tgt := 31) hM h dX4_passDay_13 (by decide) (fun c_4 h => ?_) (fun c_4 h => ?_)
    · exact w_X4_passDay_31 ho hM hr hlk h (fun t0 e => k0 t0 e) (fun S x1 e => k1 S x1 e) hG (lv_sub hl [0, 1] rfl)
    · refine lv_aload_n hx hb dX4_passDay_16 rfl (lv_at hl 0 rfl) ?_
      refine x_gr (r := o + 9) hM hG xfl_X4_36 ho.1 (by decide) rfl dX4_passDay_17 ?_
      refine lv_iload_n hx hb dX4_passDay_20 rfl (lv_at hl 1 rfl) ?_
      refine lv_aload_n hx hb dX4_passDay_21 rfl (lv_at hl 0 rfl) ?_
      refine x_gr (r := 8) hM hG xfl_X4_43 ho.1 (by decide) rfl dX4_passDay_22 ?_
      refine lv_aload_n hx hb dX4_passDay_25 rfl (lv_at hl 0 rfl) ?_
      refine lv_iload_n hx hb dX4_passDay_26 rfl (lv_at hl 1 rfl) ?_
      refine x_cVi (As := [.ref (a o), .int x1]) (rest := [.int x1, .ref (a (o + 9))]) hM hG xml_X4_77 xwi_X5_gives xws_X5_gives xct_8 (by decide) rfl h (fun S' v e => c_X5_gives hM.2.2.2.2.2.2.1 ho e _) ⟨Nat.le_of_ble_eq_true rfl, Nat.le_of_ble_eq_true rfl⟩ rfl hl.1 rfl (Nat.le_of_ble_eq_true rfl) dX4_passDay_27 (fun S_5 v_6 H locs h hG => ?_)
      refine x_iast hM hG ho.2.2.2.2.2.2.2.2.2 h dX4_passDay_30 (fun S_7 H locs h hG => ?_)
      exact w_X4_passDay_31 ho hM hr hlk h (fun t0 e => k0 t0 e) (fun S x1 e => k1 S x1 e) hG (lv_sub hl [0, 1] rfl)
theorem wl_X4_passDay_2 {o : Nat} (ho : xIs_X4 o) (hM : xM p c cX4_passDay m s args RX4 2 D cy xtb a z) (hr : meth.sig.returnType = none) (hlk : meth.locks = false) {S' : xSt} {v' : Unit} {q : (xSt × Unit)} (k0 : ∀ t0 : xSt × Unit, q = t0 → t0 = (S', v')) (n : Nat) : ∀ (S : xSt) (x1 : Int32) (H : Heap) (locs : List Loc) (ls : Array Slot), xlp (fun q : (xSt × Int32) => f_X4_passDay_2 o q.1 q.2) n (S, x1) = some q → xG D cy xtb a S s H locs → lv_has ls 2 [(0, .ref (a o)), (1, .int x1)] → W p l e ({ frames := 3, cells := 0, slots := 0, locals := 81 } : Room) s m args below meth c H locs 0 0 (MQ below (xQv D cy xtb a S' v' s.heap.size) args s 0 0 (xA xtb a s.heap.size)) (F0 m 2 ls []) := by
  induction n with
  | zero => intro S x1 H locs ls h; exact (xlp_0 h).elim
  | succ n ih =>
    intro S x1 H locs ls h hG hl
    obtain ⟨q1, hq, hc, he⟩ := xlp_at h
    exact w_X4_passDay_2 ho hM hr hlk (q := q1) hq (fun t0 e => k0 t0 (he _ e).symm) (fun S x1 e H locs ls hG hl => ih S x1 H locs ls (hc _ e) hG hl) hG hl
set_option maxHeartbeats 4000000 in
set_option maxRecDepth 100000 in
theorem w_X4_passDay_0 {o : Nat} (ho : xIs_X4 o) (hM : xM p c cX4_passDay m s args RX4 2 D cy xtb a z) (hr : meth.sig.returnType = none) (hlk : meth.locks = false) {S' : xSt} {v' : Unit} {S : xSt} {q : (xSt × Unit)} (h : f_X4_passDay_0 o S = some q) (k0 : ∀ t0 : xSt × Unit, q = t0 → t0 = (S', v')) {H : Heap} {locs : List Loc} (hG : xG D cy xtb a S s H locs) {ls : Array Slot} (hl : lv_has ls 2 [(0, .ref (a o))]) : W p l e ({ frames := 3, cells := 0, slots := 0, locals := 81 } : Room) s m args below meth c H locs 0 0 (MQ below (xQv D cy xtb a S' v' s.heap.size) args s 0 0 (xA xtb a s.heap.size)) (F0 m 0 ls []) := by
  have hx := hM.1
  have hb := hM.2.1
  refine lv_iconst (v := (0 : Int32)) hx hb dX4_passDay_0 (by decide) ?_
  refine lv_istore_n (lv' := [(1, .int (0 : Int32)), (0, .ref (a o))]) hx hb dX4_passDay_1 rfl hl (by decide) rfl (fun ls hl => ?_)
  exact wl_X4_passDay_2 ho hM hr hlk (fun t0 e => k0 t0 e) 5000 _ _ _ _ _ h hG (lv_sub hl [1, 0] rfl)
set_option maxHeartbeats 4000000 in
set_option maxRecDepth 100000 in
theorem c_X4_passDay {l : Launch} {D : va_G} {cy : Nat → ClassId} {a z : Nat → Nat} (hI : xI xtb a) {o : Nat} (ho : xIs_X4 o) {S : xSt} {S' : xSt} {v' : Unit} (hf : f_X4_passDay o S = some (S', v')) (sz : Nat) : Met l yX4_passDay (Cond.code yX4_passDay cX4_passDay 2 none :: xTB) ({ frames := 3, cells := 0, slots := 0, locals := 81 } : Room) (va_Pc [.ref (a o)] (xPre D cy xtb a z S sz)) (xQv D cy xtb a S' v' sz) 0 0 (xA xtb a sz) := by
  refine Met.ofW (cc := cX4_passDay) (maxL := 2) (ret := none) (by decide) rfl ?_
  intro p e s m args below meth c s₁ B hml hv
  obtain ⟨rfl, hsz, hP, hK, hE⟩ := hv
  subst hsz
  have hl := lv_entry ([.ref (a o)]) (n := 2) (Nat.le_of_ble_eq_true rfl)
  rw [lg_entry_eq]
  generalize (lg_sl ([.ref (a o)]) ++ List.replicate (2 - (lg_sl ([.ref (a o)])).length) Slot.unset).toArray = ls at hl ⊢
  have hl : lv_has ls 2 [(0, .ref (a o))] := hl
  exact w_X4_passDay_0 ho ⟨B.exec, B.bytes, hml, findClass_of_methodNamed B.named, fun w hw => atoms_spec (ws := Cond.code yX4_passDay cX4_passDay 2 none :: xTB) B.pre w (List.mem_cons_of_mem _ hw), hK, hI, hE⟩ B.returns B.notSynchronized hf (fun t0 e => e.symm) ⟨hP, va_S.rf⟩ (lv_sub hl [0] rfl)
set_option maxHeartbeats 4000000 in
set_option maxRecDepth 100000 in
theorem w_X1_firstWrong_62 {o1 : Nat} (ho1 : xIs_X8 o1) {x2 : Int32} {x3 : Int32} (hM : xM p c cX1_firstWrong m s args RX1 6 D cy xtb a z) (hr : meth.sig.returnType = (some .int)) (hlk : meth.locks = false) {S' : xSt} {v' : Int32} {S : xSt} {q : ((xSt × Int32) ⊕ (xSt × Int32))} (h : f_X1_firstWrong_62 o1 x2 x3 S = some q) (k0 : ∀ t0 : xSt × Int32, q = (.inr t0) → t0 = (S', v')) (k1 : ∀ (S : xSt) (x3 : Int32), q = (.inl (S, x3)) → ∀ (H : Heap) (locs : List Loc) (ls : Array Slot), xG D cy xtb a S s H locs → lv_has ls 6 [(0, .ref (a 95)), (1, .ref (a o1)), (2, .int x2), (3, .int x3)] → W p l e ({ frames := 4, cells := 0, slots := 0, locals := 102 } : Room) s m args below meth c H locs 0 0 (MQ below (xQi D cy xtb a S' v' s.heap.size) args s 0 0 (xA xtb a s.heap.size)) (F0 m 2 ls [])) {H : Heap} {locs : List Loc} (hG : xG D cy xtb a S s H locs) {ls : Array Slot} (hl : lv_has ls 6 [(0, .ref (a 95)), (1, .ref (a o1)), (2, .int x2), (3, .int x3)]) : W p l e ({ frames := 4, cells := 0, slots := 0, locals := 102 } : Room) s m args below meth c H locs 0 0 (MQ below (xQi D cy xtb a S' v' s.heap.size) args s 0 0 (xA xtb a s.heap.size)) (F0 m 62 ls []) := by
  have hx := hM.1
  have hb := hM.2.1
  refine x_iinc hM (fun v => [(3, .int v), (0, .ref (a 95)), (1, .ref (a o1)), (2, .int x2)]) h dX1_firstWrong_62 hl (k := 3) rfl (by decide) (by decide) (fun _ => rfl) (fun v_1 ls h hl => ?_)
  refine lv_goto (tgt := 2) hx hb dX1_firstWrong_65 (by decide) ?_
  exact k1 _ _ (Option.some.inj h).symm _ _ _ hG (lv_sub hl [1, 2, 3, 0] rfl)
set_option maxHeartbeats 4000000 in
set_option maxRecDepth 100000 in
theorem w_X1_firstWrong_27 {o1 : Nat} (ho1 : xIs_X8 o1) {x2 : Int32} {x3 : Int32} (hM : xM p c cX1_firstWrong m s args RX1 6 D cy xtb a z) (hr : meth.sig.returnType = (some .int)) (hlk : meth.locks = false) {S' : xSt} {v' : Int32} {S : xSt} {q : ((xSt × Int32) ⊕ (xSt × Int32))} (h : f_X1_firstWrong_27 o1 x2 x3 S = some q) (k0 : ∀ t0 : xSt × Int32, q = (.inr t0) → t0 = (S', v')) (k1 : ∀ (S : xSt) (x3 : Int32), q = (.inl (S, x3)) → ∀ (H : Heap) (locs : List Loc) (ls : Array Slot), xG D cy xtb a S s H locs → lv_has ls 6 [(0, .ref (a 95)), (1, .ref (a o1)), (2, .int x2), (3, .int x3)] → W p l e ({ frames := 4, cells := 0, slots := 0, locals := 102 } : Room) s m args below meth c H locs 0 0 (MQ below (xQi D cy xtb a S' v' s.heap.size) args s 0 0 (xA xtb a s.heap.size)) (F0 m 2 ls [])) {H : Heap} {locs : List Loc} (hG : xG D cy xtb a S s H locs) {ls : Array Slot} (hl : lv_has ls 6 [(0, .ref (a 95)), (1, .ref (a o1)), (2, .int x2), (3, .int x3)]) : W p l e ({ frames := 4, cells := 0, slots := 0, locals := 102 } : Room) s m args below meth c H locs 0 0 (MQ below (xQi D cy xtb a S' v' s.heap.size) args s 0 0 (xA xtb a s.heap.size)) (F0 m 27 ls []) := by
  have hx := hM.1
  have hb := hM.2.1
  refine lv_aload_n hx hb dX1_firstWrong_27 rfl (lv_at hl 1 rfl) ?_
  refine x_gr (r := o1 + 1) hM hG xfl_X1_45 ho1.1 (by decide) rfl dX1_firstWrong_28 ?_
  refine lv_iload_n hx hb dX1_firstWrong_31 rfl (lv_at hl 3 rfl) ?_
  refine x_lald hM hG ho1.2 h dX1_firstWrong_32 (fun v_1 h => ?_)
  refine lv_lstore (lv' := [(4, .long v_1), (0, .ref (a 95)), (1, .ref (a o1)), (2, .int x2), (3, .int x3)]) hx hb dX1_firstWrong_33 hl (by decide) rfl (fun ls hl => ?_)
  refine lv_lload hx hb dX1_firstWrong_35 (lv_at hl 0 rfl) ?_
  refine lv_ldc2 (v := (100 : Int64)) hx hb hM.2.2.2.1 (hM.2.2.2.2.1 _ xcn_X1_49) dX1_firstWrong_37 ?_
  refine x_lcmp hM h dX1_firstWrong_40 (fun v_2 h => ?_)
  refine x_if_eq (tgt := 62) hM h dX1_firstWrong_41 (by decide) (fun c_3 h => ?_) (fun c_3 h => ?_)
  · exact w_X1_firstWrong_62 ho1 hM hr hlk h (fun t0 e => k0 t0 e) (fun S x3 e => k1 S x3 e) hG (lv_sub hl [1, 2, 3, 4] rfl)
  · refine lv_lload hx hb dX1_firstWrong_44 (lv_at hl 0 rfl) ?_
    refine lv_aload_n hx hb dX1_firstWrong_46 rfl (lv_at hl 1 rfl) ?_
    refine x_gr (r := 36) hM hG xfl_X1_15 xct_95 (by decide) rfl dX1_firstWrong_47 ?_
    refine x_gr (r := 36 + 4) hM hG xfl_X1_51 xih_mind.1 (by decide) rfl dX1_firstWrong_50 ?_
    refine lv_iload_n hx hb dX1_firstWrong_53 rfl (lv_at hl 3 rfl) ?_
    refine x_iald hM hG xih_mind.2.2.2.2.1 h dX1_firstWrong_54 (fun v_4 h => ?_)
    refine x_i2l hM h dX1_firstWrong_55 (fun v_5 h => ?_)
    refine x_lcmp hM h dX1_firstWrong_56 (fun v_6 h => ?_)
    refine x_if_eq (tgt := 62) hM h dX1_firstWrong_57 (by decide) (fun c_7 h => ?_) (fun c_7 h => ?_)
    · exact w_X1_firstWrong_62 ho1 hM hr hlk h (fun t0 e => k0 t0 e) (fun S x3 e => k1 S x3 e) hG (lv_sub hl [1, 2, 3, 4] rfl)
    · refine lv_iload_n hx hb dX1_firstWrong_60 rfl (lv_at hl 4 rfl) ?_
      exact x_ri hM hG hr hlk rfl (k0 _ (Option.some.inj h).symm) dX1_firstWrong_61
set_option maxHeartbeats 4000000 in
set_option maxRecDepth 100000 in
theorem w_X1_firstWrong_2 {o1 : Nat} (ho1 : xIs_X8 o1) {x2 : Int32} {x3 : Int32} (hM : xM p c cX1_firstWrong m s args RX1 6 D cy xtb a z) (hr : meth.sig.returnType = (some .int)) (hlk : meth.locks = false) {S' : xSt} {v' : Int32} {S : xSt} {q : ((xSt × Int32) ⊕ (xSt × Int32))} (h : f_X1_firstWrong_2 o1 x2 S x3 = some q) (k0 : ∀ t0 : xSt × Int32, q = (.inr t0) → t0 = (S', v')) (k1 : ∀ (S : xSt) (x3 : Int32), q = (.inl (S, x3)) → ∀ (H : Heap) (locs : List Loc) (ls : Array Slot), xG D cy xtb a S s H locs → lv_has ls 6 [(0, .ref (a 95)), (1, .ref (a o1)), (2, .int x2), (3, .int x3)] → W p l e ({ frames := 4, cells := 0, slots := 0, locals := 102 } : Room) s m args below meth c H locs 0 0 (MQ below (xQi D cy xtb a S' v' s.heap.size) args s 0 0 (xA xtb a s.heap.size)) (F0 m 2 ls [])) {H : Heap} {locs : List Loc} (hG : xG D cy xtb a S s H locs) {ls : Array Slot} (hl : lv_has ls 6 [(0, .ref (a 95)), (1, .ref (a o1)), (2, .int x2), (3, .int x3)]) : W p l e ({ frames := 4, cells := 0, slots := 0, locals := 102 } : Room) s m args below meth c H locs 0 0 (MQ below (xQi D cy xtb a S' v' s.heap.size) args s 0 0 (xA xtb a s.heap.size)) (F0 m 2 ls []) := by
  have hx := hM.1
  have hb := hM.2.1
  refine lv_iload_n hx hb dX1_firstWrong_2 rfl (lv_at hl 3 rfl) ?_
  refine lv_aload_n hx hb dX1_firstWrong_3 rfl (lv_at hl 1 rfl) ?_
  refine x_gi hM hG xfl_X1_36 ho1.1 (by decide) rfl h dX1_firstWrong_4 (fun v_1 h => ?_)
  refine x_icmp_ge (tgt := 68) hM h dX1_firstWrong_7 (by decide) (fun c_2 h => ?_) (fun c_2 h => ?_)
  · refine lv_bipush (v := (-2 : Int32)) hx hb dX1_firstWrong_68 (by decide) ?_
    exact x_ri hM hG hr hlk rfl (k0 _ (Option.some.inj h).symm) dX1_firstWrong_70
  · refine lv_iload_n hx hb dX1_firstWrong_10 rfl (lv_at hl 3 rfl) ?_
    refine lv_bipush (v := (41 : Int32)) hx hb dX1_firstWrong_11 (by decide) ?_
    refine x_icmp_ge (tgt := 68) hM h dX1_firstWrong_13 (by decide) (fun c_3 h => ?_) (fun c_3 h => ?_)
    · refine lv_bipush (v := (-2 : Int32)) hx hb dX1_firstWrong_68 (by decide) ?_
      exact x_ri hM hG hr hlk rfl (k0 _ (Option.some.inj h).symm) dX1_firstWrong_70
    · refine lv_iload_n hx hb dX1_firstWrong_16 rfl (lv_at hl 3 rfl) ?_
      refine x_if_le (tgt := 27) hM h dX1_firstWrong_17 (by decide) (fun c_4 h => ?_) (fun c_4 h => ?_)
      · exact w_X1_firstWrong_27 ho1 hM hr hlk h (fun t0 e => k0 t0 e) (fun S x3 e => k1 S x3 e) hG (lv_sub hl [0, 1, 2, 3] rfl)
      · refine lv_aload_n hx hb dX1_firstWrong_20 rfl (lv_at hl 0 rfl) ?_
        refine x_gr (r := 36) hM hG xfl_X1_15 xct_95 (by decide) rfl dX1_firstWrong_21 ?_
        refine x_cVv (As := []) (rest := []) hM hG xml_X1_42 xwi_X4_passDay xws_X4_passDay xih_mind.1 (by decide) rfl h (fun S' v e => c_X4_passDay hM.2.2.2.2.2.2.1 xih_mind e _) ⟨Nat.le_of_ble_eq_true rfl, Nat.le_of_ble_eq_true rfl⟩ rfl hl.1 rfl (Nat.le_of_ble_eq_true rfl) dX1_firstWrong_24 (fun S_5 v_6 H locs h hG => ?_)
        exact w_X1_firstWrong_27 ho1 hM hr hlk h (fun t0 e => k0 t0 e) (fun S x3 e => k1 S x3 e) hG (lv_sub hl [0, 1, 2, 3] rfl)
theorem wl_X1_firstWrong_2 {o1 : Nat} (ho1 : xIs_X8 o1) {x2 : Int32} (hM : xM p c cX1_firstWrong m s args RX1 6 D cy xtb a z) (hr : meth.sig.returnType = (some .int)) (hlk : meth.locks = false) {S' : xSt} {v' : Int32} {q : (xSt × Int32)} (k0 : ∀ t0 : xSt × Int32, q = t0 → t0 = (S', v')) (n : Nat) : ∀ (S : xSt) (x3 : Int32) (H : Heap) (locs : List Loc) (ls : Array Slot), xlp (fun q : (xSt × Int32) => f_X1_firstWrong_2 o1 x2 q.1 q.2) n (S, x3) = some q → xG D cy xtb a S s H locs → lv_has ls 6 [(0, .ref (a 95)), (1, .ref (a o1)), (2, .int x2), (3, .int x3)] → W p l e ({ frames := 4, cells := 0, slots := 0, locals := 102 } : Room) s m args below meth c H locs 0 0 (MQ below (xQi D cy xtb a S' v' s.heap.size) args s 0 0 (xA xtb a s.heap.size)) (F0 m 2 ls []) := by
  induction n with
  | zero => intro S x3 H locs ls h; exact (xlp_0 h).elim
  | succ n ih =>
    intro S x3 H locs ls h hG hl
    obtain ⟨q1, hq, hc, he⟩ := xlp_at h
    exact w_X1_firstWrong_2 ho1 hM hr hlk (q := q1) hq (fun t0 e => k0 t0 (he _ e).symm) (fun S x3 e H locs ls hG hl => ih S x3 H locs ls (hc _ e) hG hl) hG hl
set_option maxHeartbeats 4000000 in
set_option maxRecDepth 100000 in
theorem w_X1_firstWrong_0 {o1 : Nat} (ho1 : xIs_X8 o1) {x2 : Int32} (hM : xM p c cX1_firstWrong m s args RX1 6 D cy xtb a z) (hr : meth.sig.returnType = (some .int)) (hlk : meth.locks = false) {S' : xSt} {v' : Int32} {S : xSt} {q : (xSt × Int32)} (h : f_X1_firstWrong_0 o1 x2 S = some q) (k0 : ∀ t0 : xSt × Int32, q = t0 → t0 = (S', v')) {H : Heap} {locs : List Loc} (hG : xG D cy xtb a S s H locs) {ls : Array Slot} (hl : lv_has ls 6 [(0, .ref (a 95)), (1, .ref (a o1)), (2, .int x2)]) : W p l e ({ frames := 4, cells := 0, slots := 0, locals := 102 } : Room) s m args below meth c H locs 0 0 (MQ below (xQi D cy xtb a S' v' s.heap.size) args s 0 0 (xA xtb a s.heap.size)) (F0 m 0 ls []) := by
  have hx := hM.1
  have hb := hM.2.1
  refine lv_iconst (v := (0 : Int32)) hx hb dX1_firstWrong_0 (by decide) ?_
  refine lv_istore_n (lv' := [(3, .int (0 : Int32)), (0, .ref (a 95)), (1, .ref (a o1)), (2, .int x2)]) hx hb dX1_firstWrong_1 rfl hl (by decide) rfl (fun ls hl => ?_)
  exact wl_X1_firstWrong_2 ho1 hM hr hlk (fun t0 e => k0 t0 e) 5000 _ _ _ _ _ h hG (lv_sub hl [1, 2, 3, 0] rfl)
set_option maxHeartbeats 4000000 in
set_option maxRecDepth 100000 in
theorem c_X1_firstWrong {l : Launch} {D : va_G} {cy : Nat → ClassId} {a z : Nat → Nat} (hI : xI xtb a) {o1 : Nat} (ho1 : xIs_X8 o1) {S : xSt} {x2 : Int32} {S' : xSt} {v' : Int32} (hf : f_X1_firstWrong o1 S x2 = some (S', v')) (sz : Nat) : Met l yX1_firstWrong (Cond.code yX1_firstWrong cX1_firstWrong 6 (some .int) :: xTB) ({ frames := 4, cells := 0, slots := 0, locals := 102 } : Room) (va_Pc [.ref (a 95), .ref (a o1), .int x2] (xPre D cy xtb a z S sz)) (xQi D cy xtb a S' v' sz) 0 0 (xA xtb a sz) := by
  refine Met.ofW (cc := cX1_firstWrong) (maxL := 6) (ret := (some .int)) (by decide) rfl ?_
  intro p e s m args below meth c s₁ B hml hv
  obtain ⟨rfl, hsz, hP, hK, hE⟩ := hv
  subst hsz
  have hl := lv_entry ([.ref (a 95), .ref (a o1), .int x2]) (n := 6) (Nat.le_of_ble_eq_true rfl)
  rw [lg_entry_eq]
  generalize (lg_sl ([.ref (a 95), .ref (a o1), .int x2]) ++ List.replicate (6 - (lg_sl ([.ref (a 95), .ref (a o1), .int x2])).length) Slot.unset).toArray = ls at hl ⊢
  have hl : lv_has ls 6 [(0, .ref (a 95)), (1, .ref (a o1)), (2, .int x2)] := hl
  exact w_X1_firstWrong_0 ho1 ⟨B.exec, B.bytes, hml, findClass_of_methodNamed B.named, fun w hw => atoms_spec (ws := Cond.code yX1_firstWrong cX1_firstWrong 6 (some .int) :: xTB) B.pre w (List.mem_cons_of_mem _ hw), hK, hI, hE⟩ B.returns B.notSynchronized hf (fun t0 e => e.symm) ⟨hP, va_S.rf⟩ (lv_sub hl [0, 1, 2] rfl)
set_option maxHeartbeats 4000000 in
set_option maxRecDepth 100000 in
theorem w_X1_judged_0 {o1 : Nat} (ho1 : xIs_X8 o1) {x2 : Int32} (hM : xM p c cX1_judged m s args RX1 3 D cy xtb a z) (hr : meth.sig.returnType = (some .int)) (hlk : meth.locks = false) {S' : xSt} {v' : Int32} {S : xSt} {q : (xSt × Int32)} (h : f_X1_judged_0 o1 x2 S = some q) (k0 : ∀ t0 : xSt × Int32, q = t0 → t0 = (S', v')) {H : Heap} {locs : List Loc} (hG : xG D cy xtb a S s H locs) {ls : Array Slot} (hl : lv_has ls 3 [(0, .ref (a 95)), (1, .ref (a o1)), (2, .int x2)]) : W p l e ({ frames := 5, cells := 0, slots := 0, locals := 127 } : Room) s m args below meth c H locs 0 0 (MQ below (xQi D cy xtb a S' v' s.heap.size) args s 0 0 (xA xtb a s.heap.size)) (F0 m 0 ls []) := by
  have hx := hM.1
  have hb := hM.2.1
  refine lv_aload_n hx hb dX1_judged_0 rfl (lv_at hl 0 rfl) ?_
  refine x_gr (r := 36) hM hG xfl_X1_15 xct_95 (by decide) rfl dX1_judged_1 ?_
  refine lv_aload_n hx hb dX1_judged_4 rfl (lv_at hl 0 rfl) ?_
  refine x_gr (r := 16) hM hG xfl_X1_9 xct_95 (by decide) rfl dX1_judged_5 ?_
  refine x_cVv (As := [.ref (a 16)]) (rest := []) hM hG xml_X1_18 xwi_X4_takeAll xws_X4_takeAll xih_mind.1 (by decide) rfl h (fun S' v e => c_X4_takeAll hM.2.2.2.2.2.2.1 xih_mind xih_hay e _) ⟨Nat.le_of_ble_eq_true rfl, Nat.le_of_ble_eq_true rfl⟩ rfl hl.1 rfl (Nat.le_of_ble_eq_true rfl) dX1_judged_8 (fun S_1 v_2 H locs h hG => ?_)
  refine lv_aload_n hx hb dX1_judged_11 rfl (lv_at hl 0 rfl) ?_
  refine lv_aload_n hx hb dX1_judged_12 rfl (lv_at hl 1 rfl) ?_
  refine lv_iload_n hx hb dX1_judged_13 rfl (lv_at hl 2 rfl) ?_
  refine x_cVi (As := [.ref (a o1), .int x2]) (rest := []) hM hG xml_X1_24 xwi_X1_firstWrong xws_X1_firstWrong xct_95 (by decide) rfl h (fun S' v e => c_X1_firstWrong hM.2.2.2.2.2.2.1 ho1 e _) ⟨Nat.le_of_ble_eq_true rfl, Nat.le_of_ble_eq_true rfl⟩ rfl hl.1 rfl (Nat.le_of_ble_eq_true rfl) dX1_judged_14 (fun S_3 v_4 H locs h hG => ?_)
  exact x_ri hM hG hr hlk rfl (k0 _ (Option.some.inj h).symm) dX1_judged_17
set_option maxHeartbeats 4000000 in
set_option maxRecDepth 100000 in
theorem c_X1_judged {l : Launch} {D : va_G} {cy : Nat → ClassId} {a z : Nat → Nat} (hI : xI xtb a) {o1 : Nat} (ho1 : xIs_X8 o1) {S : xSt} {x2 : Int32} {S' : xSt} {v' : Int32} (hf : f_X1_judged o1 S x2 = some (S', v')) (sz : Nat) : Met l yX1_judged (Cond.code yX1_judged cX1_judged 3 (some .int) :: xTB) ({ frames := 5, cells := 0, slots := 0, locals := 127 } : Room) (va_Pc [.ref (a 95), .ref (a o1), .int x2] (xPre D cy xtb a z S sz)) (xQi D cy xtb a S' v' sz) 0 0 (xA xtb a sz) := by
  refine Met.ofW (cc := cX1_judged) (maxL := 3) (ret := (some .int)) (by decide) rfl ?_
  intro p e s m args below meth c s₁ B hml hv
  obtain ⟨rfl, hsz, hP, hK, hE⟩ := hv
  subst hsz
  have hl := lv_entry ([.ref (a 95), .ref (a o1), .int x2]) (n := 3) (Nat.le_of_ble_eq_true rfl)
  rw [lg_entry_eq]
  generalize (lg_sl ([.ref (a 95), .ref (a o1), .int x2]) ++ List.replicate (3 - (lg_sl ([.ref (a 95), .ref (a o1), .int x2])).length) Slot.unset).toArray = ls at hl ⊢
  have hl : lv_has ls 3 [(0, .ref (a 95)), (1, .ref (a o1)), (2, .int x2)] := hl
  exact w_X1_judged_0 ho1 ⟨B.exec, B.bytes, hml, findClass_of_methodNamed B.named, fun w hw => atoms_spec (ws := Cond.code yX1_judged cX1_judged 3 (some .int) :: xTB) B.pre w (List.mem_cons_of_mem _ hw), hK, hI, hE⟩ B.returns B.notSynchronized hf (fun t0 e => e.symm) ⟨hP, va_S.rf⟩ (lv_sub hl [0, 1, 2] rfl)
set_option maxHeartbeats 4000000 in
set_option maxRecDepth 100000 in
theorem w_X4_tell_0 {o : Nat} (ho : xIs_X4 o) {x1 : Int32} {x2 : Int32} {x3 : Int32} (hM : xM p c cX4_tell m s args RX4 4 D cy xtb a z) (hr : meth.sig.returnType = none) (hlk : meth.locks = false) {S' : xSt} {v' : Unit} {S : xSt} {q : (xSt × Unit)} (h : f_X4_tell_0 o x1 x2 x3 S = some q) (k0 : ∀ t0 : xSt × Unit, q = t0 → t0 = (S', v')) {H : Heap} {locs : List Loc} (hG : xG D cy xtb a S s H locs) {ls : Array Slot} (hl : lv_has ls 4 [(0, .ref (a o)), (1, .int x1), (2, .int x2), (3, .int x3)]) : W p l e ({ frames := 0, cells := 0, slots := 0, locals := 0 } : Room) s m args below meth c H locs 0 0 (MQ below (xQv D cy xtb a S' v' s.heap.size) args s 0 0 (xA xtb a s.heap.size)) (F0 m 0 ls []) := by
  have hx := hM.1
  have hb := hM.2.1
  refine lv_iload_n hx hb dX4_tell_0 rfl (lv_at hl 2 rfl) ?_
  by_cases c_1 : x2 = (0 : Int32)
  · have h := (if_pos c_1).symm.trans h
    refine lv_tableIn (off := 43) (tgt := 44) hx hb dX4_tell_1 (by rw [c_1]; decide) (by rw [c_1]; decide) (by rw [c_1]; rfl) (by decide) ?_
    refine lv_aload_n hx hb dX4_tell_44 rfl (lv_at hl 0 rfl) ?_
    refine x_gr (r := o + 3) hM hG xfl_X4_18 ho.1 (by decide) rfl dX4_tell_45 ?_
    refine lv_iload_n hx hb dX4_tell_48 rfl (lv_at hl 1 rfl) ?_
    refine lv_iload_n hx hb dX4_tell_49 rfl (lv_at hl 3 rfl) ?_
    refine x_iast hM hG ho.2.2.2.1 h dX4_tell_50 (fun S_2 H locs h hG => ?_)
    refine lv_goto (tgt := 117) hx hb dX4_tell_51 (by decide) ?_
    exact x_rv hM hG hr hlk (k0 _ (Option.some.inj h).symm) dX4_tell_117
  · have h := (if_neg c_1).symm.trans h
    by_cases c_3 : x2 = (1 : Int32)
    · have h := (if_pos c_3).symm.trans h
      refine lv_tableIn (off := 53) (tgt := 54) hx hb dX4_tell_1 (by rw [c_3]; decide) (by rw [c_3]; decide) (by rw [c_3]; rfl) (by decide) ?_
      refine lv_aload_n hx hb dX4_tell_54 rfl (lv_at hl 0 rfl) ?_
      refine x_gr (r := o + 4) hM hG xfl_X4_21 ho.1 (by decide) rfl dX4_tell_55 ?_
      refine lv_iload_n hx hb dX4_tell_58 rfl (lv_at hl 1 rfl) ?_
      refine lv_iload_n hx hb dX4_tell_59 rfl (lv_at hl 3 rfl) ?_
      refine x_iast hM hG ho.2.2.2.2.1 h dX4_tell_60 (fun S_4 H locs h hG => ?_)
      refine lv_goto (tgt := 117) hx hb dX4_tell_61 (by decide) ?_
      exact x_rv hM hG hr hlk (k0 _ (Option.some.inj h).symm) dX4_tell_117
    · have h := (if_neg c_3).symm.trans h
      by_cases c_5 : x2 = (2 : Int32)
      · have h := (if_pos c_5).symm.trans h
        refine lv_tableIn (off := 63) (tgt := 64) hx hb dX4_tell_1 (by rw [c_5]; decide) (by rw [c_5]; decide) (by rw [c_5]; rfl) (by decide) ?_
        refine lv_aload_n hx hb dX4_tell_64 rfl (lv_at hl 0 rfl) ?_
        refine x_gr (r := o + 5) hM hG xfl_X4_24 ho.1 (by decide) rfl dX4_tell_65 ?_
        refine lv_iload_n hx hb dX4_tell_68 rfl (lv_at hl 1 rfl) ?_
        refine lv_iload_n hx hb dX4_tell_69 rfl (lv_at hl 3 rfl) ?_
        refine x_iast hM hG ho.2.2.2.2.2.1 h dX4_tell_70 (fun S_6 H locs h hG => ?_)
        refine lv_goto (tgt := 117) hx hb dX4_tell_71 (by decide) ?_
        exact x_rv hM hG hr hlk (k0 _ (Option.some.inj h).symm) dX4_tell_117
      · have h := (if_neg c_5).symm.trans h
        by_cases c_7 : x2 = (3 : Int32)
        · have h := (if_pos c_7).symm.trans h
          refine lv_tableIn (off := 73) (tgt := 74) hx hb dX4_tell_1 (by rw [c_7]; decide) (by rw [c_7]; decide) (by rw [c_7]; rfl) (by decide) ?_
          refine lv_aload_n hx hb dX4_tell_74 rfl (lv_at hl 0 rfl) ?_
          refine x_gr (r := o + 6) hM hG xfl_X4_27 ho.1 (by decide) rfl dX4_tell_75 ?_
          refine lv_iload_n hx hb dX4_tell_78 rfl (lv_at hl 1 rfl) ?_
          refine lv_iload_n hx hb dX4_tell_79 rfl (lv_at hl 3 rfl) ?_
          refine x_iast hM hG ho.2.2.2.2.2.2.1 h dX4_tell_80 (fun S_8 H locs h hG => ?_)
          refine lv_goto (tgt := 117) hx hb dX4_tell_81 (by decide) ?_
          exact x_rv hM hG hr hlk (k0 _ (Option.some.inj h).symm) dX4_tell_117
        · have h := (if_neg c_7).symm.trans h
          by_cases c_9 : x2 = (4 : Int32)
          · have h := (if_pos c_9).symm.trans h
            refine lv_tableIn (off := 83) (tgt := 84) hx hb dX4_tell_1 (by rw [c_9]; decide) (by rw [c_9]; decide) (by rw [c_9]; rfl) (by decide) ?_
            refine lv_aload_n hx hb dX4_tell_84 rfl (lv_at hl 0 rfl) ?_
            refine x_gr (r := o + 7) hM hG xfl_X4_30 ho.1 (by decide) rfl dX4_tell_85 ?_
            refine lv_iload_n hx hb dX4_tell_88 rfl (lv_at hl 1 rfl) ?_
            refine lv_iload_n hx hb dX4_tell_89 rfl (lv_at hl 3 rfl) ?_
            refine x_iast hM hG ho.2.2.2.2.2.2.2.1 h dX4_tell_90 (fun S_10 H locs h hG => ?_)
            refine lv_goto (tgt := 117) hx hb dX4_tell_91 (by decide) ?_
            exact x_rv hM hG hr hlk (k0 _ (Option.some.inj h).symm) dX4_tell_117
          · have h := (if_neg c_9).symm.trans h
            by_cases c_11 : x2 = (5 : Int32)
            · have h := (if_pos c_11).symm.trans h
              refine lv_tableIn (off := 93) (tgt := 94) hx hb dX4_tell_1 (by rw [c_11]; decide) (by rw [c_11]; decide) (by rw [c_11]; rfl) (by decide) ?_
              refine lv_aload_n hx hb dX4_tell_94 rfl (lv_at hl 0 rfl) ?_
              refine x_gr (r := o + 2) hM hG xfl_X4_15 ho.1 (by decide) rfl dX4_tell_95 ?_
              refine lv_iload_n hx hb dX4_tell_98 rfl (lv_at hl 1 rfl) ?_
              refine lv_iload_n hx hb dX4_tell_99 rfl (lv_at hl 3 rfl) ?_
              refine x_iast hM hG ho.2.2.1 h dX4_tell_100 (fun S_12 H locs h hG => ?_)
              refine lv_goto (tgt := 117) hx hb dX4_tell_101 (by decide) ?_
              exact x_rv hM hG hr hlk (k0 _ (Option.some.inj h).symm) dX4_tell_117
            · have h := (if_neg c_11).symm.trans h
              by_cases c_13 : x2 = (6 : Int32)
              · have h := (if_pos c_13).symm.trans h
                refine lv_tableIn (off := 103) (tgt := 104) hx hb dX4_tell_1 (by rw [c_13]; decide) (by rw [c_13]; decide) (by rw [c_13]; rfl) (by decide) ?_
                refine lv_aload_n hx hb dX4_tell_104 rfl (lv_at hl 0 rfl) ?_
                refine lv_iload_n hx hb dX4_tell_105 rfl (lv_at hl 3 rfl) ?_
                refine x_pi hM hG xfl_X4_39 xfp_X4_10 ho.1 (by decide) rfl rfl rfl h dX4_tell_106 (fun S_14 H locs h hG => ?_)
                refine lv_goto (tgt := 117) hx hb dX4_tell_109 (by decide) ?_
                exact x_rv hM hG hr hlk (k0 _ (Option.some.inj h).symm) dX4_tell_117
              · have h := (if_neg c_13).symm.trans h
                refine lv_tableOut (tgt := 112) hx hb dX4_tell_1 (x_tout [(0 : Int32), (1 : Int32), (2 : Int32), (3 : Int32), (4 : Int32), (5 : Int32), (6 : Int32)] 0 (by decide) (by decide) (List.forall_mem_cons.mpr ⟨c_1, (List.forall_mem_cons.mpr ⟨c_3, (List.forall_mem_cons.mpr ⟨c_5, (List.forall_mem_cons.mpr ⟨c_7, (List.forall_mem_cons.mpr ⟨c_9, (List.forall_mem_cons.mpr ⟨c_11, (List.forall_mem_cons.mpr ⟨c_13, (fun _ h => absurd h List.not_mem_nil)⟩)⟩)⟩)⟩)⟩)⟩)⟩)) (by decide) ?_
                refine lv_aload_n hx hb dX4_tell_112 rfl (lv_at hl 0 rfl) ?_
                refine lv_iload_n hx hb dX4_tell_113 rfl (lv_at hl 3 rfl) ?_
                refine x_pi hM hG xfl_X4_53 xfp_X4_11 ho.1 (by decide) rfl rfl rfl h dX4_tell_114 (fun S_15 H locs h hG => ?_)
                exact x_rv hM hG hr hlk (k0 _ (Option.some.inj h).symm) dX4_tell_117
set_option maxHeartbeats 4000000 in
set_option maxRecDepth 100000 in
theorem c_X4_tell {l : Launch} {D : va_G} {cy : Nat → ClassId} {a z : Nat → Nat} (hI : xI xtb a) {o : Nat} (ho : xIs_X4 o) {S : xSt} {x1 : Int32} {x2 : Int32} {x3 : Int32} {S' : xSt} {v' : Unit} (hf : f_X4_tell o S x1 x2 x3 = some (S', v')) (sz : Nat) : Met l yX4_tell (Cond.code yX4_tell cX4_tell 4 none :: xTB) ({ frames := 0, cells := 0, slots := 0, locals := 0 } : Room) (va_Pc [.ref (a o), .int x1, .int x2, .int x3] (xPre D cy xtb a z S sz)) (xQv D cy xtb a S' v' sz) 0 0 (xA xtb a sz) := by
  refine Met.ofW (cc := cX4_tell) (maxL := 4) (ret := none) (by decide) rfl ?_
  intro p e s m args below meth c s₁ B hml hv
  obtain ⟨rfl, hsz, hP, hK, hE⟩ := hv
  subst hsz
  have hl := lv_entry ([.ref (a o), .int x1, .int x2, .int x3]) (n := 4) (Nat.le_of_ble_eq_true rfl)
  rw [lg_entry_eq]
  generalize (lg_sl ([.ref (a o), .int x1, .int x2, .int x3]) ++ List.replicate (4 - (lg_sl ([.ref (a o), .int x1, .int x2, .int x3])).length) Slot.unset).toArray = ls at hl ⊢
  have hl : lv_has ls 4 [(0, .ref (a o)), (1, .int x1), (2, .int x2), (3, .int x3)] := hl
  exact w_X4_tell_0 ho ⟨B.exec, B.bytes, hml, findClass_of_methodNamed B.named, fun w hw => atoms_spec (ws := Cond.code yX4_tell cX4_tell 4 none :: xTB) B.pre w (List.mem_cons_of_mem _ hw), hK, hI, hE⟩ B.returns B.notSynchronized hf (fun t0 e => e.symm) ⟨hP, va_S.rf⟩ (lv_sub hl [0, 1, 2, 3] rfl)
set_option maxHeartbeats 4000000 in
set_option maxRecDepth 100000 in
theorem w_X1_fitting_64 {o1 : Nat} (ho1 : xIs_X8 o1) {x2 : Int32} {x3 : Int32} {x4 : Int32} {x5 : Int32} (hM : xM p c cX1_fitting m s args RX1 6 D cy xtb a z) (hr : meth.sig.returnType = (some .int)) (hlk : meth.locks = false) {S' : xSt} {v' : Int32} {S : xSt} {q : ((xSt × Int32 × Int32) ⊕ (xSt × Int32))} (h : f_X1_fitting_64 o1 x2 x3 x4 x5 S = some q) (k0 : ∀ t0 : xSt × Int32, q = (.inr t0) → t0 = (S', v')) (k1 : ∀ (S : xSt) (x4 : Int32) (x5 : Int32), q = (.inl (S, x4, x5)) → ∀ (H : Heap) (locs : List Loc) (ls : Array Slot), xG D cy xtb a S s H locs → lv_has ls 6 [(0, .ref (a 95)), (1, .ref (a o1)), (2, .int x2), (3, .int x3), (4, .int x4), (5, .int x5)] → W p l e ({ frames := 5, cells := 0, slots := 0, locals := 127 } : Room) s m args below meth c H locs 0 0 (MQ below (xQi D cy xtb a S' v' s.heap.size) args s 0 0 (xA xtb a s.heap.size)) (F0 m 6 ls [])) {H : Heap} {locs : List Loc} (hG : xG D cy xtb a S s H locs) {ls : Array Slot} (hl : lv_has ls 6 [(0, .ref (a 95)), (1, .ref (a o1)), (2, .int x2), (3, .int x3), (4, .int x4), (5, .int x5)]) : W p l e ({ frames := 5, cells := 0, slots := 0, locals := 127 } : Room) s m args below meth c H locs 0 0 (MQ below (xQi D cy xtb a S' v' s.heap.size) args s 0 0 (xA xtb a s.heap.size)) (F0 m 64 ls []) := by
  have hx := hM.1
  have hb := hM.2.1
  refine x_iinc hM (fun v => [(5, .int v), (0, .ref (a 95)), (1, .ref (a o1)), (2, .int x2), (3, .int x3), (4, .int x4)]) h dX1_fitting_64 hl (k := 5) rfl (by decide) (by decide) (fun _ => rfl) (fun v_1 ls h hl => ?_)
  refine lv_goto (tgt := 6) hx hb dX1_fitting_67 (by decide) ?_
  exact k1 _ _ _ (Option.some.inj h).symm _ _ _ hG (lv_sub hl [1, 2, 3, 4, 5, 0] rfl)
set_option maxHeartbeats 4000000 in
set_option maxRecDepth 100000 in
theorem w_X1_fitting_6 {o1 : Nat} (ho1 : xIs_X8 o1) {x2 : Int32} {x3 : Int32} {x4 : Int32} {x5 : Int32} (hM : xM p c cX1_fitting m s args RX1 6 D cy xtb a z) (hr : meth.sig.returnType = (some .int)) (hlk : meth.locks = false) {S' : xSt} {v' : Int32} {S : xSt} {q : ((xSt × Int32 × Int32) ⊕ (xSt × Int32))} (h : f_X1_fitting_6 o1 x2 x3 S x4 x5 = some q) (k0 : ∀ t0 : xSt × Int32, q = (.inr t0) → t0 = (S', v')) (k1 : ∀ (S : xSt) (x4 : Int32) (x5 : Int32), q = (.inl (S, x4, x5)) → ∀ (H : Heap) (locs : List Loc) (ls : Array Slot), xG D cy xtb a S s H locs → lv_has ls 6 [(0, .ref (a 95)), (1, .ref (a o1)), (2, .int x2), (3, .int x3), (4, .int x4), (5, .int x5)] → W p l e ({ frames := 5, cells := 0, slots := 0, locals := 127 } : Room) s m args below meth c H locs 0 0 (MQ below (xQi D cy xtb a S' v' s.heap.size) args s 0 0 (xA xtb a s.heap.size)) (F0 m 6 ls [])) {H : Heap} {locs : List Loc} (hG : xG D cy xtb a S s H locs) {ls : Array Slot} (hl : lv_has ls 6 [(0, .ref (a 95)), (1, .ref (a o1)), (2, .int x2), (3, .int x3), (4, .int x4), (5, .int x5)]) : W p l e ({ frames := 5, cells := 0, slots := 0, locals := 127 } : Room) s m args below meth c H locs 0 0 (MQ below (xQi D cy xtb a S' v' s.heap.size) args s 0 0 (xA xtb a s.heap.size)) (F0 m 6 ls []) := by
  have hx := hM.1
  have hb := hM.2.1
  refine lv_iload hx hb dX1_fitting_6 (lv_at hl 5 rfl) ?_
  refine x_gsN hM hG hM.2.2.2.2.2.2.2.2.2 hM.2.2.2.2.2.2.2.1.2.2.2.1 dX1_fitting_8 ?_
  refine lv_iload_n hx hb dX1_fitting_11 rfl (lv_at hl 3 rfl) ?_
  refine x_tald hM hG hM.2.2.2.2.2.2.2.2.2 h dX1_fitting_12 (fun v_1 h => ?_)
  refine x_icmp_gt (tgt := 70) hM h dX1_fitting_13 (by decide) (fun c_2 h => ?_) (fun c_2 h => ?_)
  · refine lv_iload hx hb dX1_fitting_70 (lv_at hl 4 rfl) ?_
    exact x_ri hM hG hr hlk rfl (k0 _ (Option.some.inj h).symm) dX1_fitting_72
  · refine lv_aload_n hx hb dX1_fitting_16 rfl (lv_at hl 0 rfl) ?_
    refine x_gr (r := 36) hM hG xfl_X1_15 xct_95 (by decide) rfl dX1_fitting_17 ?_
    refine lv_aload_n hx hb dX1_fitting_20 rfl (lv_at hl 0 rfl) ?_
    refine x_gr (r := 16) hM hG xfl_X1_9 xct_95 (by decide) rfl dX1_fitting_21 ?_
    refine x_cVv (As := [.ref (a 16)]) (rest := []) hM hG xml_X1_18 xwi_X4_takeAll xws_X4_takeAll xih_mind.1 (by decide) rfl h (fun S' v e => c_X4_takeAll hM.2.2.2.2.2.2.1 xih_mind xih_hay e _) ⟨Nat.le_of_ble_eq_true rfl, Nat.le_of_ble_eq_true rfl⟩ rfl hl.1 rfl (Nat.le_of_ble_eq_true rfl) dX1_fitting_24 (fun S_3 v_4 H locs h hG => ?_)
    refine lv_aload_n hx hb dX1_fitting_27 rfl (lv_at hl 0 rfl) ?_
    refine x_gr (r := 36) hM hG xfl_X1_15 xct_95 (by decide) rfl dX1_fitting_28 ?_
    refine lv_iload_n hx hb dX1_fitting_31 rfl (lv_at hl 2 rfl) ?_
    refine lv_bipush (v := (100 : Int32)) hx hb dX1_fitting_32 (by decide) ?_
    refine x_irem hM h dX1_fitting_34 (fun v_5 h => ?_)
    refine lv_iload_n hx hb dX1_fitting_35 rfl (lv_at hl 3 rfl) ?_
    refine lv_iload hx hb dX1_fitting_36 (lv_at hl 5 rfl) ?_
    refine x_cVv (As := [.int v_5, .int x3, .int x5]) (rest := []) hM hG xml_X1_32 xwi_X4_tell xws_X4_tell xih_mind.1 (by decide) rfl h (fun S' v e => c_X4_tell hM.2.2.2.2.2.2.1 xih_mind e _) ⟨Nat.le_of_ble_eq_true rfl, Nat.le_of_ble_eq_true rfl⟩ rfl hl.1 rfl (Nat.le_of_ble_eq_true rfl) dX1_fitting_38 (fun S_6 v_7 H locs h hG => ?_)
    refine lv_aload_n hx hb dX1_fitting_41 rfl (lv_at hl 0 rfl) ?_
    refine lv_aload_n hx hb dX1_fitting_42 rfl (lv_at hl 1 rfl) ?_
    refine lv_iload_n hx hb dX1_fitting_43 rfl (lv_at hl 2 rfl) ?_
    refine lv_bipush (v := (100 : Int32)) hx hb dX1_fitting_44 (by decide) ?_
    refine x_idiv hM h dX1_fitting_46 (fun v_8 h => ?_)
    refine x_cVi (As := [.ref (a o1), .int v_8]) (rest := []) hM hG xml_X1_24 xwi_X1_firstWrong xws_X1_firstWrong xct_95 (by decide) rfl h (fun S' v e => c_X1_firstWrong hM.2.2.2.2.2.2.1 ho1 e _) ⟨Nat.le_of_ble_eq_true rfl, Nat.le_of_ble_eq_true rfl⟩ rfl hl.1 rfl (Nat.le_of_ble_eq_true rfl) dX1_fitting_47 (fun S_9 v_10 H locs h hG => ?_)
    refine lv_bipush (v := (-2 : Int32)) hx hb dX1_fitting_50 (by decide) ?_
    refine x_icmp_ne (tgt := 64) hM h dX1_fitting_52 (by decide) (fun c_11 h => ?_) (fun c_11 h => ?_)
    · exact w_X1_fitting_64 ho1 hM hr hlk h (fun t0 e => k0 t0 e) (fun S x4 x5 e => k1 S x4 x5 e) hG (lv_sub hl [0, 1, 2, 3, 4, 5] rfl)
    · refine lv_iload hx hb dX1_fitting_55 (lv_at hl 4 rfl) ?_
      refine lv_iconst (v := (1 : Int32)) hx hb dX1_fitting_57 (by decide) ?_
      refine lv_iload hx hb dX1_fitting_58 (lv_at hl 5 rfl) ?_
      refine x_ishl hM h dX1_fitting_60 (fun v_12 h => ?_)
      refine x_ior hM h dX1_fitting_61 (fun v_13 h => ?_)
      refine lv_istore (lv' := [(4, .int v_13), (0, .ref (a 95)), (1, .ref (a o1)), (2, .int x2), (3, .int x3), (5, .int x5)]) hx hb dX1_fitting_62 hl (by decide) rfl (fun ls hl => ?_)
      exact w_X1_fitting_64 ho1 hM hr hlk h (fun t0 e => k0 t0 e) (fun S x4 x5 e => k1 S x4 x5 e) hG (lv_sub hl [1, 2, 3, 4, 0, 5] rfl)
theorem wl_X1_fitting_6 {o1 : Nat} (ho1 : xIs_X8 o1) {x2 : Int32} {x3 : Int32} (hM : xM p c cX1_fitting m s args RX1 6 D cy xtb a z) (hr : meth.sig.returnType = (some .int)) (hlk : meth.locks = false) {S' : xSt} {v' : Int32} {q : (xSt × Int32)} (k0 : ∀ t0 : xSt × Int32, q = t0 → t0 = (S', v')) (n : Nat) : ∀ (S : xSt) (x4 : Int32) (x5 : Int32) (H : Heap) (locs : List Loc) (ls : Array Slot), xlp (fun q : (xSt × Int32 × Int32) => f_X1_fitting_6 o1 x2 x3 q.1 q.2.1 q.2.2) n (S, x4, x5) = some q → xG D cy xtb a S s H locs → lv_has ls 6 [(0, .ref (a 95)), (1, .ref (a o1)), (2, .int x2), (3, .int x3), (4, .int x4), (5, .int x5)] → W p l e ({ frames := 5, cells := 0, slots := 0, locals := 127 } : Room) s m args below meth c H locs 0 0 (MQ below (xQi D cy xtb a S' v' s.heap.size) args s 0 0 (xA xtb a s.heap.size)) (F0 m 6 ls []) := by
  induction n with
  | zero => intro S x4 x5 H locs ls h; exact (xlp_0 h).elim
  | succ n ih =>
    intro S x4 x5 H locs ls h hG hl
    obtain ⟨q1, hq, hc, he⟩ := xlp_at h
    exact w_X1_fitting_6 ho1 hM hr hlk (q := q1) hq (fun t0 e => k0 t0 (he _ e).symm) (fun S x4 x5 e H locs ls hG hl => ih S x4 x5 H locs ls (hc _ e) hG hl) hG hl
set_option maxHeartbeats 4000000 in
set_option maxRecDepth 100000 in
theorem w_X1_fitting_0 {o1 : Nat} (ho1 : xIs_X8 o1) {x2 : Int32} {x3 : Int32} (hM : xM p c cX1_fitting m s args RX1 6 D cy xtb a z) (hr : meth.sig.returnType = (some .int)) (hlk : meth.locks = false) {S' : xSt} {v' : Int32} {S : xSt} {q : (xSt × Int32)} (h : f_X1_fitting_0 o1 x2 x3 S = some q) (k0 : ∀ t0 : xSt × Int32, q = t0 → t0 = (S', v')) {H : Heap} {locs : List Loc} (hG : xG D cy xtb a S s H locs) {ls : Array Slot} (hl : lv_has ls 6 [(0, .ref (a 95)), (1, .ref (a o1)), (2, .int x2), (3, .int x3)]) : W p l e ({ frames := 5, cells := 0, slots := 0, locals := 127 } : Room) s m args below meth c H locs 0 0 (MQ below (xQi D cy xtb a S' v' s.heap.size) args s 0 0 (xA xtb a s.heap.size)) (F0 m 0 ls []) := by
  have hx := hM.1
  have hb := hM.2.1
  refine lv_iconst (v := (0 : Int32)) hx hb dX1_fitting_0 (by decide) ?_
  refine lv_istore (lv' := [(4, .int (0 : Int32)), (0, .ref (a 95)), (1, .ref (a o1)), (2, .int x2), (3, .int x3)]) hx hb dX1_fitting_1 hl (by decide) rfl (fun ls hl => ?_)
  refine lv_iconst (v := (0 : Int32)) hx hb dX1_fitting_3 (by decide) ?_
  refine lv_istore (lv' := [(5, .int (0 : Int32)), (4, .int (0 : Int32)), (0, .ref (a 95)), (1, .ref (a o1)), (2, .int x2), (3, .int x3)]) hx hb dX1_fitting_4 hl (by decide) rfl (fun ls hl => ?_)
  exact wl_X1_fitting_6 ho1 hM hr hlk (fun t0 e => k0 t0 e) 5000 _ _ _ _ _ _ h hG (lv_sub hl [2, 3, 4, 5, 1, 0] rfl)
set_option maxHeartbeats 4000000 in
set_option maxRecDepth 100000 in
theorem c_X1_fitting {l : Launch} {D : va_G} {cy : Nat → ClassId} {a z : Nat → Nat} (hI : xI xtb a) {o1 : Nat} (ho1 : xIs_X8 o1) {S : xSt} {x2 : Int32} {x3 : Int32} {S' : xSt} {v' : Int32} (hf : f_X1_fitting o1 S x2 x3 = some (S', v')) (sz : Nat) : Met l yX1_fitting (Cond.code yX1_fitting cX1_fitting 6 (some .int) :: xTB) ({ frames := 5, cells := 0, slots := 0, locals := 127 } : Room) (va_Pc [.ref (a 95), .ref (a o1), .int x2, .int x3] (xPre D cy xtb a z S sz)) (xQi D cy xtb a S' v' sz) 0 0 (xA xtb a sz) := by
  refine Met.ofW (cc := cX1_fitting) (maxL := 6) (ret := (some .int)) (by decide) rfl ?_
  intro p e s m args below meth c s₁ B hml hv
  obtain ⟨rfl, hsz, hP, hK, hE⟩ := hv
  subst hsz
  have hl := lv_entry ([.ref (a 95), .ref (a o1), .int x2, .int x3]) (n := 6) (Nat.le_of_ble_eq_true rfl)
  rw [lg_entry_eq]
  generalize (lg_sl ([.ref (a 95), .ref (a o1), .int x2, .int x3]) ++ List.replicate (6 - (lg_sl ([.ref (a 95), .ref (a o1), .int x2, .int x3])).length) Slot.unset).toArray = ls at hl ⊢
  have hl : lv_has ls 6 [(0, .ref (a 95)), (1, .ref (a o1)), (2, .int x2), (3, .int x3)] := hl
  exact w_X1_fitting_0 ho1 ⟨B.exec, B.bytes, hml, findClass_of_methodNamed B.named, fun w hw => atoms_spec (ws := Cond.code yX1_fitting cX1_fitting 6 (some .int) :: xTB) B.pre w (List.mem_cons_of_mem _ hw), hK, hI, hE⟩ B.returns B.notSynchronized hf (fun t0 e => e.symm) ⟨hP, va_S.rf⟩ (lv_sub hl [0, 1, 2, 3] rfl)
set_option maxHeartbeats 4000000 in
set_option maxRecDepth 100000 in
theorem w_X2_forgetFirst_0 (hM : xM p c cX2_forgetFirst m s args RX2 1 D cy xtb a z) (hr : meth.sig.returnType = none) (hlk : meth.locks = false) {S' : xSt} {v' : Unit} {S : xSt} {q : (xSt × Unit)} (h : f_X2_forgetFirst_0 S = some q) (k0 : ∀ t0 : xSt × Unit, q = t0 → t0 = (S', v')) {H : Heap} {locs : List Loc} (hG : xG D cy xtb a S s H locs) {ls : Array Slot} (hl : lv_has ls 1 [(0, .ref (a 96))]) : W p l e ({ frames := 1, cells := 0, slots := 0, locals := 26 } : Room) s m args below meth c H locs 0 0 (MQ below (xQv D cy xtb a S' v' s.heap.size) args s 0 0 (xA xtb a s.heap.size)) (F0 m 0 ls []) := by
  have hx := hM.1
  have hb := hM.2.1
  refine lv_aload_n hx hb dX2_forgetFirst_0 rfl (lv_at hl 0 rfl) ?_
  refine x_gr (r := 97) hM hG xfl_X2_11 xct_96 (by decide) rfl dX2_forgetFirst_1 ?_
  refine lv_iconst (v := (1 : Int32)) hx hb dX2_forgetFirst_4 (by decide) ?_
  refine lv_aload_n hx hb dX2_forgetFirst_5 rfl (lv_at hl 0 rfl) ?_
  refine x_gr (r := 97) hM hG xfl_X2_11 xct_96 (by decide) rfl dX2_forgetFirst_6 ?_
  refine lv_iconst (v := (0 : Int32)) hx hb dX2_forgetFirst_9 (by decide) ?_
  refine lv_bipush (v := (39 : Int32)) hx hb dX2_forgetFirst_10 (by decide) ?_
  refine x_cpi hM hG hl.1 xcp_X2_34 xct_97 xct_97 h (Nat.le_of_ble_eq_true rfl) (Nat.le_of_ble_eq_true rfl) dX2_forgetFirst_12 (fun S_1 H locs h hG => ?_)
  refine lv_aload_n hx hb dX2_forgetFirst_15 rfl (lv_at hl 0 rfl) ?_
  refine x_gr (r := 98) hM hG xfl_X2_15 xct_96 (by decide) rfl dX2_forgetFirst_16 ?_
  refine lv_iconst (v := (1 : Int32)) hx hb dX2_forgetFirst_19 (by decide) ?_
  refine lv_aload_n hx hb dX2_forgetFirst_20 rfl (lv_at hl 0 rfl) ?_
  refine x_gr (r := 98) hM hG xfl_X2_15 xct_96 (by decide) rfl dX2_forgetFirst_21 ?_
  refine lv_iconst (v := (0 : Int32)) hx hb dX2_forgetFirst_24 (by decide) ?_
  refine lv_bipush (v := (39 : Int32)) hx hb dX2_forgetFirst_25 (by decide) ?_
  refine x_cpi hM hG hl.1 xcp_X2_34 xct_98 xct_98 h (Nat.le_of_ble_eq_true rfl) (Nat.le_of_ble_eq_true rfl) dX2_forgetFirst_27 (fun S_2 H locs h hG => ?_)
  refine lv_aload_n hx hb dX2_forgetFirst_30 rfl (lv_at hl 0 rfl) ?_
  refine x_gr (r := 99) hM hG xfl_X2_18 xct_96 (by decide) rfl dX2_forgetFirst_31 ?_
  refine lv_iconst (v := (1 : Int32)) hx hb dX2_forgetFirst_34 (by decide) ?_
  refine lv_aload_n hx hb dX2_forgetFirst_35 rfl (lv_at hl 0 rfl) ?_
  refine x_gr (r := 99) hM hG xfl_X2_18 xct_96 (by decide) rfl dX2_forgetFirst_36 ?_
  refine lv_iconst (v := (0 : Int32)) hx hb dX2_forgetFirst_39 (by decide) ?_
  refine lv_bipush (v := (39 : Int32)) hx hb dX2_forgetFirst_40 (by decide) ?_
  refine x_cpi hM hG hl.1 xcp_X2_34 xct_99 xct_99 h (Nat.le_of_ble_eq_true rfl) (Nat.le_of_ble_eq_true rfl) dX2_forgetFirst_42 (fun S_3 H locs h hG => ?_)
  refine lv_aload_n hx hb dX2_forgetFirst_45 rfl (lv_at hl 0 rfl) ?_
  refine x_gr (r := 100) hM hG xfl_X2_21 xct_96 (by decide) rfl dX2_forgetFirst_46 ?_
  refine lv_iconst (v := (1 : Int32)) hx hb dX2_forgetFirst_49 (by decide) ?_
  refine lv_aload_n hx hb dX2_forgetFirst_50 rfl (lv_at hl 0 rfl) ?_
  refine x_gr (r := 100) hM hG xfl_X2_21 xct_96 (by decide) rfl dX2_forgetFirst_51 ?_
  refine lv_iconst (v := (0 : Int32)) hx hb dX2_forgetFirst_54 (by decide) ?_
  refine lv_bipush (v := (39 : Int32)) hx hb dX2_forgetFirst_55 (by decide) ?_
  refine x_cpi hM hG hl.1 xcp_X2_34 xct_100 xct_100 h (Nat.le_of_ble_eq_true rfl) (Nat.le_of_ble_eq_true rfl) dX2_forgetFirst_57 (fun S_4 H locs h hG => ?_)
  refine lv_aload_n hx hb dX2_forgetFirst_60 rfl (lv_at hl 0 rfl) ?_
  refine lv_bipush (v := (39 : Int32)) hx hb dX2_forgetFirst_61 (by decide) ?_
  refine x_pi hM hG xfl_X2_24 xfp_X2_4 xct_96 (by decide) rfl rfl rfl h dX2_forgetFirst_63 (fun S_5 H locs h hG => ?_)
  exact x_rv hM hG hr hlk (k0 _ (Option.some.inj h).symm) dX2_forgetFirst_66
set_option maxHeartbeats 4000000 in
set_option maxRecDepth 100000 in
theorem c_X2_forgetFirst {l : Launch} {D : va_G} {cy : Nat → ClassId} {a z : Nat → Nat} (hI : xI xtb a) {S : xSt} {S' : xSt} {v' : Unit} (hf : f_X2_forgetFirst S = some (S', v')) (sz : Nat) : Met l yX2_forgetFirst (Cond.code yX2_forgetFirst cX2_forgetFirst 1 none :: xTB) ({ frames := 1, cells := 0, slots := 0, locals := 26 } : Room) (va_Pc [.ref (a 96)] (xPre D cy xtb a z S sz)) (xQv D cy xtb a S' v' sz) 0 0 (xA xtb a sz) := by
  refine Met.ofW (cc := cX2_forgetFirst) (maxL := 1) (ret := none) (by decide) rfl ?_
  intro p e s m args below meth c s₁ B hml hv
  obtain ⟨rfl, hsz, hP, hK, hE⟩ := hv
  subst hsz
  have hl := lv_entry ([.ref (a 96)]) (n := 1) (Nat.le_of_ble_eq_true rfl)
  rw [lg_entry_eq]
  generalize (lg_sl ([.ref (a 96)]) ++ List.replicate (1 - (lg_sl ([.ref (a 96)])).length) Slot.unset).toArray = ls at hl ⊢
  have hl : lv_has ls 1 [(0, .ref (a 96))] := hl
  exact w_X2_forgetFirst_0 ⟨B.exec, B.bytes, hml, findClass_of_methodNamed B.named, fun w hw => atoms_spec (ws := Cond.code yX2_forgetFirst cX2_forgetFirst 1 none :: xTB) B.pre w (List.mem_cons_of_mem _ hw), hK, hI, hE⟩ B.returns B.notSynchronized hf (fun t0 e => e.symm) ⟨hP, va_S.rf⟩ (lv_sub hl [0] rfl)
set_option maxHeartbeats 4000000 in
set_option maxRecDepth 100000 in
theorem w_X2_add_13 {x1 : Int32} {x2 : Int32} {x3 : Int32} {x4 : Int32} (hM : xM p c cX2_add m s args RX2 5 D cy xtb a z) (hr : meth.sig.returnType = none) (hlk : meth.locks = false) {S' : xSt} {v' : Unit} {S : xSt} {q : (xSt × Unit)} (h : f_X2_add_13 x1 x2 x3 x4 S = some q) (k0 : ∀ t0 : xSt × Unit, q = t0 → t0 = (S', v')) {H : Heap} {locs : List Loc} (hG : xG D cy xtb a S s H locs) {ls : Array Slot} (hl : lv_has ls 5 [(0, .ref (a 96)), (1, .int x1), (2, .int x2), (3, .int x3), (4, .int x4)]) : W p l e ({ frames := 2, cells := 0, slots := 0, locals := 46 } : Room) s m args below meth c H locs 0 0 (MQ below (xQv D cy xtb a S' v' s.heap.size) args s 0 0 (xA xtb a s.heap.size)) (F0 m 13 ls []) := by
  have hx := hM.1
  have hb := hM.2.1
  refine lv_aload_n hx hb dX2_add_13 rfl (lv_at hl 0 rfl) ?_
  refine x_gr (r := 97) hM hG xfl_X2_11 xct_96 (by decide) rfl dX2_add_14 ?_
  refine lv_aload_n hx hb dX2_add_17 rfl (lv_at hl 0 rfl) ?_
  refine x_gi hM hG xfl_X2_24 xct_96 (by decide) rfl h dX2_add_18 (fun v_1 h => ?_)
  refine lv_iload_n hx hb dX2_add_21 rfl (lv_at hl 1 rfl) ?_
  refine x_iast hM hG xct_97 h dX2_add_22 (fun S_2 H locs h hG => ?_)
  refine lv_aload_n hx hb dX2_add_23 rfl (lv_at hl 0 rfl) ?_
  refine x_gr (r := 98) hM hG xfl_X2_15 xct_96 (by decide) rfl dX2_add_24 ?_
  refine lv_aload_n hx hb dX2_add_27 rfl (lv_at hl 0 rfl) ?_
  refine x_gi hM hG xfl_X2_24 xct_96 (by decide) rfl h dX2_add_28 (fun v_3 h => ?_)
  refine lv_iload_n hx hb dX2_add_31 rfl (lv_at hl 2 rfl) ?_
  refine x_iast hM hG xct_98 h dX2_add_32 (fun S_4 H locs h hG => ?_)
  refine lv_aload_n hx hb dX2_add_33 rfl (lv_at hl 0 rfl) ?_
  refine x_gr (r := 99) hM hG xfl_X2_18 xct_96 (by decide) rfl dX2_add_34 ?_
  refine lv_aload_n hx hb dX2_add_37 rfl (lv_at hl 0 rfl) ?_
  refine x_gi hM hG xfl_X2_24 xct_96 (by decide) rfl h dX2_add_38 (fun v_5 h => ?_)
  refine lv_iload_n hx hb dX2_add_41 rfl (lv_at hl 3 rfl) ?_
  refine x_iast hM hG xct_99 h dX2_add_42 (fun S_6 H locs h hG => ?_)
  refine lv_aload_n hx hb dX2_add_43 rfl (lv_at hl 0 rfl) ?_
  refine x_gr (r := 100) hM hG xfl_X2_21 xct_96 (by decide) rfl dX2_add_44 ?_
  refine lv_aload_n hx hb dX2_add_47 rfl (lv_at hl 0 rfl) ?_
  refine x_gi hM hG xfl_X2_24 xct_96 (by decide) rfl h dX2_add_48 (fun v_7 h => ?_)
  refine lv_iload hx hb dX2_add_51 (lv_at hl 4 rfl) ?_
  refine x_iast hM hG xct_100 h dX2_add_53 (fun S_8 H locs h hG => ?_)
  refine lv_aload_n hx hb dX2_add_54 rfl (lv_at hl 0 rfl) ?_
  refine lv_dup hx hb dX2_add_55 rfl ?_
  refine x_gi hM hG xfl_X2_24 xct_96 (by decide) rfl h dX2_add_56 (fun v_9 h => ?_)
  refine lv_iconst (v := (1 : Int32)) hx hb dX2_add_59 (by decide) ?_
  refine x_iadd hM h dX2_add_60 (fun v_10 h => ?_)
  refine x_pi hM hG xfl_X2_24 xfp_X2_4 xct_96 (by decide) rfl rfl rfl h dX2_add_61 (fun S_11 H locs h hG => ?_)
  refine lv_aload_n hx hb dX2_add_64 rfl (lv_at hl 0 rfl) ?_
  refine lv_aload_n hx hb dX2_add_65 rfl (lv_at hl 0 rfl) ?_
  refine x_gi hM hG xfl_X2_24 xct_96 (by decide) rfl h dX2_add_66 (fun v_12 h => ?_)
  refine x_pi hM hG xfl_X2_31 xfp_X2_5 xct_96 (by decide) rfl rfl rfl h dX2_add_69 (fun S_13 H locs h hG => ?_)
  exact x_rv hM hG hr hlk (k0 _ (Option.some.inj h).symm) dX2_add_72
set_option maxHeartbeats 4000000 in
set_option maxRecDepth 100000 in
theorem w_X2_add_0 {x1 : Int32} {x2 : Int32} {x3 : Int32} {x4 : Int32} (hM : xM p c cX2_add m s args RX2 5 D cy xtb a z) (hr : meth.sig.returnType = none) (hlk : meth.locks = false) {S' : xSt} {v' : Unit} {S : xSt} {q : (xSt × Unit)} (h : f_X2_add_0 x1 x2 x3 x4 S = some q) (k0 : ∀ t0 : xSt × Unit, q = t0 → t0 = (S', v')) {H : Heap} {locs : List Loc} (hG : xG D cy xtb a S s H locs) {ls : Array Slot} (hl : lv_has ls 5 [(0, .ref (a 96)), (1, .int x1), (2, .int x2), (3, .int x3), (4, .int x4)]) : W p l e ({ frames := 2, cells := 0, slots := 0, locals := 46 } : Room) s m args below meth c H locs 0 0 (MQ below (xQv D cy xtb a S' v' s.heap.size) args s 0 0 (xA xtb a s.heap.size)) (F0 m 0 ls []) := by
  have hx := hM.1
  have hb := hM.2.1
  refine lv_aload_n hx hb dX2_add_0 rfl (lv_at hl 0 rfl) ?_
  refine x_gi hM hG xfl_X2_24 xct_96 (by decide) rfl h dX2_add_1 (fun v_1 h => ?_)
  refine lv_bipush (v := (40 : Int32)) hx hb dX2_add_4 (by decide) ?_
  refine x_icmp_lt (tgt := 13) hM h dX2_add_6 (by decide) (fun c_2 h => ?_) (fun c_2 h => ?_)
  · exact w_X2_add_13 hM hr hlk h (fun t0 e => k0 t0 e) hG (lv_sub hl [0, 1, 2, 3, 4] rfl)
  · refine lv_aload_n hx hb dX2_add_9 rfl (lv_at hl 0 rfl) ?_
    refine x_cVv (As := []) (rest := []) hM hG xml_X2_28 xwi_X2_forgetFirst xws_X2_forgetFirst xct_96 (by decide) rfl h (fun S' v e => c_X2_forgetFirst hM.2.2.2.2.2.2.1 e _) ⟨Nat.le_of_ble_eq_true rfl, Nat.le_of_ble_eq_true rfl⟩ rfl hl.1 rfl (Nat.le_of_ble_eq_true rfl) dX2_add_10 (fun S_3 v_4 H locs h hG => ?_)
    exact w_X2_add_13 hM hr hlk h (fun t0 e => k0 t0 e) hG (lv_sub hl [0, 1, 2, 3, 4] rfl)
set_option maxHeartbeats 4000000 in
set_option maxRecDepth 100000 in
theorem c_X2_add {l : Launch} {D : va_G} {cy : Nat → ClassId} {a z : Nat → Nat} (hI : xI xtb a) {S : xSt} {x1 : Int32} {x2 : Int32} {x3 : Int32} {x4 : Int32} {S' : xSt} {v' : Unit} (hf : f_X2_add S x1 x2 x3 x4 = some (S', v')) (sz : Nat) : Met l yX2_add (Cond.code yX2_add cX2_add 5 none :: xTB) ({ frames := 2, cells := 0, slots := 0, locals := 46 } : Room) (va_Pc [.ref (a 96), .int x1, .int x2, .int x3, .int x4] (xPre D cy xtb a z S sz)) (xQv D cy xtb a S' v' sz) 0 0 (xA xtb a sz) := by
  refine Met.ofW (cc := cX2_add) (maxL := 5) (ret := none) (by decide) rfl ?_
  intro p e s m args below meth c s₁ B hml hv
  obtain ⟨rfl, hsz, hP, hK, hE⟩ := hv
  subst hsz
  have hl := lv_entry ([.ref (a 96), .int x1, .int x2, .int x3, .int x4]) (n := 5) (Nat.le_of_ble_eq_true rfl)
  rw [lg_entry_eq]
  generalize (lg_sl ([.ref (a 96), .int x1, .int x2, .int x3, .int x4]) ++ List.replicate (5 - (lg_sl ([.ref (a 96), .int x1, .int x2, .int x3, .int x4])).length) Slot.unset).toArray = ls at hl ⊢
  have hl : lv_has ls 5 [(0, .ref (a 96)), (1, .int x1), (2, .int x2), (3, .int x3), (4, .int x4)] := hl
  exact w_X2_add_0 ⟨B.exec, B.bytes, hml, findClass_of_methodNamed B.named, fun w hw => atoms_spec (ws := Cond.code yX2_add cX2_add 5 none :: xTB) B.pre w (List.mem_cons_of_mem _ hw), hK, hI, hE⟩ B.returns B.notSynchronized hf (fun t0 e => e.symm) ⟨hP, va_S.rf⟩ (lv_sub hl [0, 1, 2, 3, 4] rfl)
set_option maxHeartbeats 4000000 in
set_option maxRecDepth 100000 in
theorem w_X4_cells_4 {o : Nat} (ho : xIs_X4 o) {x1 : Int32} {x2 : Int32} (hM : xM p c cX4_cells m s args RX4 3 D cy xtb a z) (hr : meth.sig.returnType = (some .int)) (hlk : meth.locks = false) {S' : xSt} {v' : Int32} {S : xSt} {q : ((xSt × Int32 × Int32) ⊕ (xSt × Int32))} (h : f_X4_cells_4 o S x1 x2 = some q) (k0 : ∀ t0 : xSt × Int32, q = (.inr t0) → t0 = (S', v')) (k1 : ∀ (S : xSt) (x1 : Int32) (x2 : Int32), q = (.inl (S, x1, x2)) → ∀ (H : Heap) (locs : List Loc) (ls : Array Slot), xG D cy xtb a S s H locs → lv_has ls 3 [(0, .ref (a o)), (1, .int x1), (2, .int x2)] → W p l e ({ frames := 0, cells := 0, slots := 0, locals := 0 } : Room) s m args below meth c H locs 0 0 (MQ below (xQi D cy xtb a S' v' s.heap.size) args s 0 0 (xA xtb a s.heap.size)) (F0 m 4 ls [])) {H : Heap} {locs : List Loc} (hG : xG D cy xtb a S s H locs) {ls : Array Slot} (hl : lv_has ls 3 [(0, .ref (a o)), (1, .int x1), (2, .int x2)]) : W p l e ({ frames := 0, cells := 0, slots := 0, locals := 0 } : Room) s m args below meth c H locs 0 0 (MQ below (xQi D cy xtb a S' v' s.heap.size) args s 0 0 (xA xtb a s.heap.size)) (F0 m 4 ls []) := by
  have hx := hM.1
  have hb := hM.2.1
  refine lv_iload_n hx hb dX4_cells_4 rfl (lv_at hl 2 rfl) ?_
  refine lv_bipush (v := (6 : Int32)) hx hb dX4_cells_5 (by decide) ?_
  refine x_icmp_ge (tgt := 25) hM h dX4_cells_7 (by decide) (fun c_1 h => ?_) (fun c_1 h => ?_)
  · refine lv_iload_n hx hb dX4_cells_25 rfl (lv_at hl 1 rfl) ?_
    exact x_ri hM hG hr hlk rfl (k0 _ (Option.some.inj h).symm) dX4_cells_26
  · refine lv_iload_n hx hb dX4_cells_10 rfl (lv_at hl 1 rfl) ?_
    refine lv_aload_n hx hb dX4_cells_11 rfl (lv_at hl 0 rfl) ?_
    refine x_gr (r := o + 1) hM hG xfl_X4_9 ho.1 (by decide) rfl dX4_cells_12 ?_
    refine lv_iload_n hx hb dX4_cells_15 rfl (lv_at hl 2 rfl) ?_
    refine x_iald hM hG ho.2.1 h dX4_cells_16 (fun v_2 h => ?_)
    refine x_iadd hM h dX4_cells_17 (fun v_3 h => ?_)
    refine lv_istore_n (lv' := [(1, .int v_3), (0, .ref (a o)), (2, .int x2)]) hx hb dX4_cells_18 rfl hl (by decide) rfl (fun ls hl => ?_)
    refine x_iinc hM (fun v => [(2, .int v), (1, .int v_3), (0, .ref (a o))]) h dX4_cells_19 hl (k := 2) rfl (by decide) (by decide) (fun _ => rfl) (fun v_4 ls h hl => ?_)
    refine lv_goto (tgt := 4) hx hb dX4_cells_22 (by decide) ?_
    exact k1 _ _ _ (Option.some.inj h).symm _ _ _ hG (lv_sub hl [2, 1, 0] rfl)
theorem wl_X4_cells_4 {o : Nat} (ho : xIs_X4 o) (hM : xM p c cX4_cells m s args RX4 3 D cy xtb a z) (hr : meth.sig.returnType = (some .int)) (hlk : meth.locks = false) {S' : xSt} {v' : Int32} {q : (xSt × Int32)} (k0 : ∀ t0 : xSt × Int32, q = t0 → t0 = (S', v')) (n : Nat) : ∀ (S : xSt) (x1 : Int32) (x2 : Int32) (H : Heap) (locs : List Loc) (ls : Array Slot), xlp (fun q : (xSt × Int32 × Int32) => f_X4_cells_4 o q.1 q.2.1 q.2.2) n (S, x1, x2) = some q → xG D cy xtb a S s H locs → lv_has ls 3 [(0, .ref (a o)), (1, .int x1), (2, .int x2)] → W p l e ({ frames := 0, cells := 0, slots := 0, locals := 0 } : Room) s m args below meth c H locs 0 0 (MQ below (xQi D cy xtb a S' v' s.heap.size) args s 0 0 (xA xtb a s.heap.size)) (F0 m 4 ls []) := by
  induction n with
  | zero => intro S x1 x2 H locs ls h; exact (xlp_0 h).elim
  | succ n ih =>
    intro S x1 x2 H locs ls h hG hl
    obtain ⟨q1, hq, hc, he⟩ := xlp_at h
    exact w_X4_cells_4 ho hM hr hlk (q := q1) hq (fun t0 e => k0 t0 (he _ e).symm) (fun S x1 x2 e H locs ls hG hl => ih S x1 x2 H locs ls (hc _ e) hG hl) hG hl
set_option maxHeartbeats 4000000 in
set_option maxRecDepth 100000 in
theorem w_X4_cells_0 {o : Nat} (ho : xIs_X4 o) (hM : xM p c cX4_cells m s args RX4 3 D cy xtb a z) (hr : meth.sig.returnType = (some .int)) (hlk : meth.locks = false) {S' : xSt} {v' : Int32} {S : xSt} {q : (xSt × Int32)} (h : f_X4_cells_0 o S = some q) (k0 : ∀ t0 : xSt × Int32, q = t0 → t0 = (S', v')) {H : Heap} {locs : List Loc} (hG : xG D cy xtb a S s H locs) {ls : Array Slot} (hl : lv_has ls 3 [(0, .ref (a o))]) : W p l e ({ frames := 0, cells := 0, slots := 0, locals := 0 } : Room) s m args below meth c H locs 0 0 (MQ below (xQi D cy xtb a S' v' s.heap.size) args s 0 0 (xA xtb a s.heap.size)) (F0 m 0 ls []) := by
  have hx := hM.1
  have hb := hM.2.1
  refine lv_iconst (v := (0 : Int32)) hx hb dX4_cells_0 (by decide) ?_
  refine lv_istore_n (lv' := [(1, .int (0 : Int32)), (0, .ref (a o))]) hx hb dX4_cells_1 rfl hl (by decide) rfl (fun ls hl => ?_)
  refine lv_iconst (v := (0 : Int32)) hx hb dX4_cells_2 (by decide) ?_
  refine lv_istore_n (lv' := [(2, .int (0 : Int32)), (1, .int (0 : Int32)), (0, .ref (a o))]) hx hb dX4_cells_3 rfl hl (by decide) rfl (fun ls hl => ?_)
  exact wl_X4_cells_4 ho hM hr hlk (fun t0 e => k0 t0 e) 5000 _ _ _ _ _ _ h hG (lv_sub hl [2, 1, 0] rfl)
set_option maxHeartbeats 4000000 in
set_option maxRecDepth 100000 in
theorem c_X4_cells {l : Launch} {D : va_G} {cy : Nat → ClassId} {a z : Nat → Nat} (hI : xI xtb a) {o : Nat} (ho : xIs_X4 o) {S : xSt} {S' : xSt} {v' : Int32} (hf : f_X4_cells o S = some (S', v')) (sz : Nat) : Met l yX4_cells (Cond.code yX4_cells cX4_cells 3 (some .int) :: xTB) ({ frames := 0, cells := 0, slots := 0, locals := 0 } : Room) (va_Pc [.ref (a o)] (xPre D cy xtb a z S sz)) (xQi D cy xtb a S' v' sz) 0 0 (xA xtb a sz) := by
  refine Met.ofW (cc := cX4_cells) (maxL := 3) (ret := (some .int)) (by decide) rfl ?_
  intro p e s m args below meth c s₁ B hml hv
  obtain ⟨rfl, hsz, hP, hK, hE⟩ := hv
  subst hsz
  have hl := lv_entry ([.ref (a o)]) (n := 3) (Nat.le_of_ble_eq_true rfl)
  rw [lg_entry_eq]
  generalize (lg_sl ([.ref (a o)]) ++ List.replicate (3 - (lg_sl ([.ref (a o)])).length) Slot.unset).toArray = ls at hl ⊢
  have hl : lv_has ls 3 [(0, .ref (a o))] := hl
  exact w_X4_cells_0 ho ⟨B.exec, B.bytes, hml, findClass_of_methodNamed B.named, fun w hw => atoms_spec (ws := Cond.code yX4_cells cX4_cells 3 (some .int) :: xTB) B.pre w (List.mem_cons_of_mem _ hw), hK, hI, hE⟩ B.returns B.notSynchronized hf (fun t0 e => e.symm) ⟨hP, va_S.rf⟩ (lv_sub hl [0] rfl)
set_option maxHeartbeats 4000000 in
set_option maxRecDepth 100000 in
theorem w_X4_hottestCell_42 {o : Nat} (ho : xIs_X4 o) {x1 : Int32} {x2 : Int32} (hM : xM p c cX4_hottestCell m s args RX4 3 D cy xtb a z) (hr : meth.sig.returnType = (some .int)) (hlk : meth.locks = false) {S' : xSt} {v' : Int32} {S : xSt} {q : ((xSt × Int32 × Int32) ⊕ (xSt × Int32))} (h : f_X4_hottestCell_42 o x1 x2 S = some q) (k0 : ∀ t0 : xSt × Int32, q = (.inr t0) → t0 = (S', v')) (k1 : ∀ (S : xSt) (x1 : Int32) (x2 : Int32), q = (.inl (S, x1, x2)) → ∀ (H : Heap) (locs : List Loc) (ls : Array Slot), xG D cy xtb a S s H locs → lv_has ls 3 [(0, .ref (a o)), (1, .int x1), (2, .int x2)] → W p l e ({ frames := 1, cells := 0, slots := 0, locals := 21 } : Room) s m args below meth c H locs 0 0 (MQ below (xQi D cy xtb a S' v' s.heap.size) args s 0 0 (xA xtb a s.heap.size)) (F0 m 5 ls [])) {H : Heap} {locs : List Loc} (hG : xG D cy xtb a S s H locs) {ls : Array Slot} (hl : lv_has ls 3 [(0, .ref (a o)), (1, .int x1), (2, .int x2)]) : W p l e ({ frames := 1, cells := 0, slots := 0, locals := 21 } : Room) s m args below meth c H locs 0 0 (MQ below (xQi D cy xtb a S' v' s.heap.size) args s 0 0 (xA xtb a s.heap.size)) (F0 m 42 ls []) := by
  have hx := hM.1
  have hb := hM.2.1
  refine x_iinc hM (fun v => [(2, .int v), (0, .ref (a o)), (1, .int x1)]) h dX4_hottestCell_42 hl (k := 2) rfl (by decide) (by decide) (fun _ => rfl) (fun v_1 ls h hl => ?_)
  refine lv_goto (tgt := 5) hx hb dX4_hottestCell_45 (by decide) ?_
  exact k1 _ _ _ (Option.some.inj h).symm _ _ _ hG (lv_sub hl [1, 2, 0] rfl)
set_option maxHeartbeats 4000000 in
set_option maxRecDepth 100000 in
theorem w_X4_hottestCell_40 {o : Nat} (ho : xIs_X4 o) {x2 : Int32} (hM : xM p c cX4_hottestCell m s args RX4 3 D cy xtb a z) (hr : meth.sig.returnType = (some .int)) (hlk : meth.locks = false) {S' : xSt} {v' : Int32} {S : xSt} {q : ((xSt × Int32 × Int32) ⊕ (xSt × Int32))} (h : f_X4_hottestCell_40 o x2 S = some q) (k0 : ∀ t0 : xSt × Int32, q = (.inr t0) → t0 = (S', v')) (k1 : ∀ (S : xSt) (x1 : Int32) (x2 : Int32), q = (.inl (S, x1, x2)) → ∀ (H : Heap) (locs : List Loc) (ls : Array Slot), xG D cy xtb a S s H locs → lv_has ls 3 [(0, .ref (a o)), (1, .int x1), (2, .int x2)] → W p l e ({ frames := 1, cells := 0, slots := 0, locals := 21 } : Room) s m args below meth c H locs 0 0 (MQ below (xQi D cy xtb a S' v' s.heap.size) args s 0 0 (xA xtb a s.heap.size)) (F0 m 5 ls [])) {H : Heap} {locs : List Loc} (hG : xG D cy xtb a S s H locs) {ls : Array Slot} (hl : lv_has ls 3 [(0, .ref (a o)), (2, .int x2)]) : W p l e ({ frames := 1, cells := 0, slots := 0, locals := 21 } : Room) s m args below meth c H locs 0 0 (MQ below (xQi D cy xtb a S' v' s.heap.size) args s 0 0 (xA xtb a s.heap.size)) (F0 m 40 ls []) := by
  have hx := hM.1
  have hb := hM.2.1
  refine lv_iload_n hx hb dX4_hottestCell_40 rfl (lv_at hl 1 rfl) ?_
  refine lv_istore_n (lv' := [(1, .int x2), (0, .ref (a o)), (2, .int x2)]) hx hb dX4_hottestCell_41 rfl hl (by decide) rfl (fun ls hl => ?_)
  exact w_X4_hottestCell_42 ho hM hr hlk h (fun t0 e => k0 t0 e) (fun S x1 x2 e => k1 S x1 x2 e) hG (lv_sub hl [1, 0, 2] rfl)
set_option maxHeartbeats 4000000 in
set_option maxRecDepth 100000 in
theorem w_X4_hottestCell_5 {o : Nat} (ho : xIs_X4 o) {x1 : Int32} {x2 : Int32} (hM : xM p c cX4_hottestCell m s args RX4 3 D cy xtb a z) (hr : meth.sig.returnType = (some .int)) (hlk : meth.locks = false) {S' : xSt} {v' : Int32} {S : xSt} {q : ((xSt × Int32 × Int32) ⊕ (xSt × Int32))} (h : f_X4_hottestCell_5 o S x1 x2 = some q) (k0 : ∀ t0 : xSt × Int32, q = (.inr t0) → t0 = (S', v')) (k1 : ∀ (S : xSt) (x1 : Int32) (x2 : Int32), q = (.inl (S, x1, x2)) → ∀ (H : Heap) (locs : List Loc) (ls : Array Slot), xG D cy xtb a S s H locs → lv_has ls 3 [(0, .ref (a o)), (1, .int x1), (2, .int x2)] → W p l e ({ frames := 1, cells := 0, slots := 0, locals := 21 } : Room) s m args below meth c H locs 0 0 (MQ below (xQi D cy xtb a S' v' s.heap.size) args s 0 0 (xA xtb a s.heap.size)) (F0 m 5 ls [])) {H : Heap} {locs : List Loc} (hG : xG D cy xtb a S s H locs) {ls : Array Slot} (hl : lv_has ls 3 [(0, .ref (a o)), (1, .int x1), (2, .int x2)]) : W p l e ({ frames := 1, cells := 0, slots := 0, locals := 21 } : Room) s m args below meth c H locs 0 0 (MQ below (xQi D cy xtb a S' v' s.heap.size) args s 0 0 (xA xtb a s.heap.size)) (F0 m 5 ls []) := by
  have hx := hM.1
  have hb := hM.2.1
  refine lv_iload_n hx hb dX4_hottestCell_5 rfl (lv_at hl 2 rfl) ?_
  refine lv_bipush (v := (30 : Int32)) hx hb dX4_hottestCell_6 (by decide) ?_
  refine x_icmp_ge (tgt := 48) hM h dX4_hottestCell_8 (by decide) (fun c_1 h => ?_) (fun c_1 h => ?_)
  · refine lv_iload_n hx hb dX4_hottestCell_48 rfl (lv_at hl 1 rfl) ?_
    exact x_ri hM hG hr hlk rfl (k0 _ (Option.some.inj h).symm) dX4_hottestCell_49
  · refine lv_aload_n hx hb dX4_hottestCell_11 rfl (lv_at hl 0 rfl) ?_
    refine lv_iload_n hx hb dX4_hottestCell_12 rfl (lv_at hl 2 rfl) ?_
    refine x_cVi (As := [.int x2]) (rest := []) hM hG xml_X4_73 xwi_X4_has xws_X4_has ho.1 (by decide) rfl h (fun S' v e => c_X4_has hM.2.2.2.2.2.2.1 ho e _) ⟨Nat.le_of_ble_eq_true rfl, Nat.le_of_ble_eq_true rfl⟩ rfl hl.1 rfl (Nat.le_of_ble_eq_true rfl) dX4_hottestCell_13 (fun S_2 v_3 H locs h hG => ?_)
    refine x_if_eq (tgt := 42) hM h dX4_hottestCell_16 (by decide) (fun c_4 h => ?_) (fun c_4 h => ?_)
    · exact w_X4_hottestCell_42 ho hM hr hlk h (fun t0 e => k0 t0 e) (fun S x1 x2 e => k1 S x1 x2 e) hG (lv_sub hl [0, 1, 2] rfl)
    · refine lv_iload_n hx hb dX4_hottestCell_19 rfl (lv_at hl 1 rfl) ?_
      refine lv_bipush (v := (-2 : Int32)) hx hb dX4_hottestCell_20 (by decide) ?_
      refine x_icmp_eq (tgt := 40) hM h dX4_hottestCell_22 (by decide) (fun c_5 h => ?_) (fun c_5 h => ?_)
      · exact w_X4_hottestCell_40 ho hM hr hlk h (fun t0 e => k0 t0 e) (fun S x1 x2 e => k1 S x1 x2 e) hG (lv_sub hl [0, 2] rfl)
      · refine lv_aload_n hx hb dX4_hottestCell_25 rfl (lv_at hl 0 rfl) ?_
        refine x_gr (r := o + 4) hM hG xfl_X4_21 ho.1 (by decide) rfl dX4_hottestCell_26 ?_
        refine lv_iload_n hx hb dX4_hottestCell_29 rfl (lv_at hl 2 rfl) ?_
        refine x_iald hM hG ho.2.2.2.2.1 h dX4_hottestCell_30 (fun v_6 h => ?_)
        refine lv_aload_n hx hb dX4_hottestCell_31 rfl (lv_at hl 0 rfl) ?_
        refine x_gr (r := o + 4) hM hG xfl_X4_21 ho.1 (by decide) rfl dX4_hottestCell_32 ?_
        refine lv_iload_n hx hb dX4_hottestCell_35 rfl (lv_at hl 1 rfl) ?_
        refine x_iald hM hG ho.2.2.2.2.1 h dX4_hottestCell_36 (fun v_7 h => ?_)
        refine x_icmp_le (tgt := 42) hM h dX4_hottestCell_37 (by decide) (fun c_8 h => ?_) (fun c_8 h => ?_)
        · exact w_X4_hottestCell_42 ho hM hr hlk h (fun t0 e => k0 t0 e) (fun S x1 x2 e => k1 S x1 x2 e) hG (lv_sub hl [0, 1, 2] rfl)
        · exact w_X4_hottestCell_40 ho hM hr hlk h (fun t0 e => k0 t0 e) (fun S x1 x2 e => k1 S x1 x2 e) hG (lv_sub hl [0, 2] rfl)
theorem wl_X4_hottestCell_5 {o : Nat} (ho : xIs_X4 o) (hM : xM p c cX4_hottestCell m s args RX4 3 D cy xtb a z) (hr : meth.sig.returnType = (some .int)) (hlk : meth.locks = false) {S' : xSt} {v' : Int32} {q : (xSt × Int32)} (k0 : ∀ t0 : xSt × Int32, q = t0 → t0 = (S', v')) (n : Nat) : ∀ (S : xSt) (x1 : Int32) (x2 : Int32) (H : Heap) (locs : List Loc) (ls : Array Slot), xlp (fun q : (xSt × Int32 × Int32) => f_X4_hottestCell_5 o q.1 q.2.1 q.2.2) n (S, x1, x2) = some q → xG D cy xtb a S s H locs → lv_has ls 3 [(0, .ref (a o)), (1, .int x1), (2, .int x2)] → W p l e ({ frames := 1, cells := 0, slots := 0, locals := 21 } : Room) s m args below meth c H locs 0 0 (MQ below (xQi D cy xtb a S' v' s.heap.size) args s 0 0 (xA xtb a s.heap.size)) (F0 m 5 ls []) := by
  induction n with
  | zero => intro S x1 x2 H locs ls h; exact (xlp_0 h).elim
  | succ n ih =>
    intro S x1 x2 H locs ls h hG hl
    obtain ⟨q1, hq, hc, he⟩ := xlp_at h
    exact w_X4_hottestCell_5 ho hM hr hlk (q := q1) hq (fun t0 e => k0 t0 (he _ e).symm) (fun S x1 x2 e H locs ls hG hl => ih S x1 x2 H locs ls (hc _ e) hG hl) hG hl
set_option maxHeartbeats 4000000 in
set_option maxRecDepth 100000 in
theorem w_X4_hottestCell_0 {o : Nat} (ho : xIs_X4 o) (hM : xM p c cX4_hottestCell m s args RX4 3 D cy xtb a z) (hr : meth.sig.returnType = (some .int)) (hlk : meth.locks = false) {S' : xSt} {v' : Int32} {S : xSt} {q : (xSt × Int32)} (h : f_X4_hottestCell_0 o S = some q) (k0 : ∀ t0 : xSt × Int32, q = t0 → t0 = (S', v')) {H : Heap} {locs : List Loc} (hG : xG D cy xtb a S s H locs) {ls : Array Slot} (hl : lv_has ls 3 [(0, .ref (a o))]) : W p l e ({ frames := 1, cells := 0, slots := 0, locals := 21 } : Room) s m args below meth c H locs 0 0 (MQ below (xQi D cy xtb a S' v' s.heap.size) args s 0 0 (xA xtb a s.heap.size)) (F0 m 0 ls []) := by
  have hx := hM.1
  have hb := hM.2.1
  refine lv_bipush (v := (-2 : Int32)) hx hb dX4_hottestCell_0 (by decide) ?_
  refine lv_istore_n (lv' := [(1, .int (-2 : Int32)), (0, .ref (a o))]) hx hb dX4_hottestCell_2 rfl hl (by decide) rfl (fun ls hl => ?_)
  refine lv_iconst (v := (0 : Int32)) hx hb dX4_hottestCell_3 (by decide) ?_
  refine lv_istore_n (lv' := [(2, .int (0 : Int32)), (1, .int (-2 : Int32)), (0, .ref (a o))]) hx hb dX4_hottestCell_4 rfl hl (by decide) rfl (fun ls hl => ?_)
  exact wl_X4_hottestCell_5 ho hM hr hlk (fun t0 e => k0 t0 e) 5000 _ _ _ _ _ _ h hG (lv_sub hl [2, 1, 0] rfl)
set_option maxHeartbeats 4000000 in
set_option maxRecDepth 100000 in
theorem c_X4_hottestCell {l : Launch} {D : va_G} {cy : Nat → ClassId} {a z : Nat → Nat} (hI : xI xtb a) {o : Nat} (ho : xIs_X4 o) {S : xSt} {S' : xSt} {v' : Int32} (hf : f_X4_hottestCell o S = some (S', v')) (sz : Nat) : Met l yX4_hottestCell (Cond.code yX4_hottestCell cX4_hottestCell 3 (some .int) :: xTB) ({ frames := 1, cells := 0, slots := 0, locals := 21 } : Room) (va_Pc [.ref (a o)] (xPre D cy xtb a z S sz)) (xQi D cy xtb a S' v' sz) 0 0 (xA xtb a sz) := by
  refine Met.ofW (cc := cX4_hottestCell) (maxL := 3) (ret := (some .int)) (by decide) rfl ?_
  intro p e s m args below meth c s₁ B hml hv
  obtain ⟨rfl, hsz, hP, hK, hE⟩ := hv
  subst hsz
  have hl := lv_entry ([.ref (a o)]) (n := 3) (Nat.le_of_ble_eq_true rfl)
  rw [lg_entry_eq]
  generalize (lg_sl ([.ref (a o)]) ++ List.replicate (3 - (lg_sl ([.ref (a o)])).length) Slot.unset).toArray = ls at hl ⊢
  have hl : lv_has ls 3 [(0, .ref (a o))] := hl
  exact w_X4_hottestCell_0 ho ⟨B.exec, B.bytes, hml, findClass_of_methodNamed B.named, fun w hw => atoms_spec (ws := Cond.code yX4_hottestCell cX4_hottestCell 3 (some .int) :: xTB) B.pre w (List.mem_cons_of_mem _ hw), hK, hI, hE⟩ B.returns B.notSynchronized hf (fun t0 e => e.symm) ⟨hP, va_S.rf⟩ (lv_sub hl [0] rfl)
set_option maxHeartbeats 4000000 in
set_option maxRecDepth 100000 in
theorem w_X4_hottestHeat_0 {o : Nat} (ho : xIs_X4 o) (hM : xM p c cX4_hottestHeat m s args RX4 2 D cy xtb a z) (hr : meth.sig.returnType = (some .int)) (hlk : meth.locks = false) {S' : xSt} {v' : Int32} {S : xSt} {q : (xSt × Int32)} (h : f_X4_hottestHeat_0 o S = some q) (k0 : ∀ t0 : xSt × Int32, q = t0 → t0 = (S', v')) {H : Heap} {locs : List Loc} (hG : xG D cy xtb a S s H locs) {ls : Array Slot} (hl : lv_has ls 2 [(0, .ref (a o))]) : W p l e ({ frames := 2, cells := 0, slots := 0, locals := 43 } : Room) s m args below meth c H locs 0 0 (MQ below (xQi D cy xtb a S' v' s.heap.size) args s 0 0 (xA xtb a s.heap.size)) (F0 m 0 ls []) := by
  have hx := hM.1
  have hb := hM.2.1
  refine lv_aload_n hx hb dX4_hottestHeat_0 rfl (lv_at hl 0 rfl) ?_
  refine x_cVi (As := []) (rest := []) hM hG xml_X4_90 xwi_X4_hottestCell xws_X4_hottestCell ho.1 (by decide) rfl h (fun S' v e => c_X4_hottestCell hM.2.2.2.2.2.2.1 ho e _) ⟨Nat.le_of_ble_eq_true rfl, Nat.le_of_ble_eq_true rfl⟩ rfl hl.1 rfl (Nat.le_of_ble_eq_true rfl) dX4_hottestHeat_1 (fun S_1 v_2 H locs h hG => ?_)
  refine lv_istore_n (lv' := [(1, .int v_2), (0, .ref (a o))]) hx hb dX4_hottestHeat_4 rfl hl (by decide) rfl (fun ls hl => ?_)
  refine lv_iload_n hx hb dX4_hottestHeat_5 rfl (lv_at hl 0 rfl) ?_
  refine x_if_ge (tgt := 14) hM h dX4_hottestHeat_6 (by decide) (fun c_3 h => ?_) (fun c_3 h => ?_)
  · refine lv_aload_n hx hb dX4_hottestHeat_14 rfl (lv_at hl 1 rfl) ?_
    refine x_gr (r := o + 4) hM hG xfl_X4_21 ho.1 (by decide) rfl dX4_hottestHeat_15 ?_
    refine lv_iload_n hx hb dX4_hottestHeat_18 rfl (lv_at hl 0 rfl) ?_
    refine x_iald hM hG ho.2.2.2.2.1 h dX4_hottestHeat_19 (fun v_4 h => ?_)
    exact x_ri hM hG hr hlk rfl (k0 _ (Option.some.inj h).symm) dX4_hottestHeat_20
  · refine lv_bipush (v := (-2 : Int32)) hx hb dX4_hottestHeat_9 (by decide) ?_
    refine lv_goto (tgt := 20) hx hb dX4_hottestHeat_11 (by decide) ?_
    exact x_ri hM hG hr hlk rfl (k0 _ (Option.some.inj h).symm) dX4_hottestHeat_20
set_option maxHeartbeats 4000000 in
set_option maxRecDepth 100000 in
theorem c_X4_hottestHeat {l : Launch} {D : va_G} {cy : Nat → ClassId} {a z : Nat → Nat} (hI : xI xtb a) {o : Nat} (ho : xIs_X4 o) {S : xSt} {S' : xSt} {v' : Int32} (hf : f_X4_hottestHeat o S = some (S', v')) (sz : Nat) : Met l yX4_hottestHeat (Cond.code yX4_hottestHeat cX4_hottestHeat 2 (some .int) :: xTB) ({ frames := 2, cells := 0, slots := 0, locals := 43 } : Room) (va_Pc [.ref (a o)] (xPre D cy xtb a z S sz)) (xQi D cy xtb a S' v' sz) 0 0 (xA xtb a sz) := by
  refine Met.ofW (cc := cX4_hottestHeat) (maxL := 2) (ret := (some .int)) (by decide) rfl ?_
  intro p e s m args below meth c s₁ B hml hv
  obtain ⟨rfl, hsz, hP, hK, hE⟩ := hv
  subst hsz
  have hl := lv_entry ([.ref (a o)]) (n := 2) (Nat.le_of_ble_eq_true rfl)
  rw [lg_entry_eq]
  generalize (lg_sl ([.ref (a o)]) ++ List.replicate (2 - (lg_sl ([.ref (a o)])).length) Slot.unset).toArray = ls at hl ⊢
  have hl : lv_has ls 2 [(0, .ref (a o))] := hl
  exact w_X4_hottestHeat_0 ho ⟨B.exec, B.bytes, hml, findClass_of_methodNamed B.named, fun w hw => atoms_spec (ws := Cond.code yX4_hottestHeat cX4_hottestHeat 2 (some .int) :: xTB) B.pre w (List.mem_cons_of_mem _ hw), hK, hI, hE⟩ B.returns B.notSynchronized hf (fun t0 e => e.symm) ⟨hP, va_S.rf⟩ (lv_sub hl [0] rfl)
set_option maxHeartbeats 4000000 in
set_option maxRecDepth 100000 in
theorem w_X4_hottestBehind_2 {o : Nat} (ho : xIs_X4 o) {x1 : Int32} {x2 : Int32} (hM : xM p c cX4_hottestBehind m s args RX4 3 D cy xtb a z) (hr : meth.sig.returnType = (some .int)) (hlk : meth.locks = false) {S' : xSt} {v' : Int32} {S : xSt} {q : ((xSt × Int32) ⊕ (xSt × Int32))} (h : f_X4_hottestBehind_2 o x1 S x2 = some q) (k0 : ∀ t0 : xSt × Int32, q = (.inr t0) → t0 = (S', v')) (k1 : ∀ (S : xSt) (x2 : Int32), q = (.inl (S, x2)) → ∀ (H : Heap) (locs : List Loc) (ls : Array Slot), xG D cy xtb a S s H locs → lv_has ls 3 [(0, .ref (a o)), (1, .int x1), (2, .int x2)] → W p l e ({ frames := 4, cells := 0, slots := 0, locals := 102 } : Room) s m args below meth c H locs 0 0 (MQ below (xQi D cy xtb a S' v' s.heap.size) args s 0 0 (xA xtb a s.heap.size)) (F0 m 2 ls [])) {H : Heap} {locs : List Loc} (hG : xG D cy xtb a S s H locs) {ls : Array Slot} (hl : lv_has ls 3 [(0, .ref (a o)), (1, .int x1), (2, .int x2)]) : W p l e ({ frames := 4, cells := 0, slots := 0, locals := 102 } : Room) s m args below meth c H locs 0 0 (MQ below (xQi D cy xtb a S' v' s.heap.size) args s 0 0 (xA xtb a s.heap.size)) (F0 m 2 ls []) := by
  have hx := hM.1
  have hb := hM.2.1
  refine lv_iload_n hx hb dX4_hottestBehind_2 rfl (lv_at hl 2 rfl) ?_
  refine lv_iload_n hx hb dX4_hottestBehind_3 rfl (lv_at hl 1 rfl) ?_
  refine x_icmp_ge (tgt := 17) hM h dX4_hottestBehind_4 (by decide) (fun c_1 h => ?_) (fun c_1 h => ?_)
  · refine lv_aload_n hx hb dX4_hottestBehind_17 rfl (lv_at hl 0 rfl) ?_
    refine x_cVi (As := []) (rest := []) hM hG xml_X4_97 xwi_X4_hottestHeat xws_X4_hottestHeat ho.1 (by decide) rfl h (fun S' v e => c_X4_hottestHeat hM.2.2.2.2.2.2.1 ho e _) ⟨Nat.le_of_ble_eq_true rfl, Nat.le_of_ble_eq_true rfl⟩ rfl hl.1 rfl (Nat.le_of_ble_eq_true rfl) dX4_hottestBehind_18 (fun S_2 v_3 H locs h hG => ?_)
    exact x_ri hM hG hr hlk rfl (k0 _ (Option.some.inj h).symm) dX4_hottestBehind_21
  · refine lv_aload_n hx hb dX4_hottestBehind_7 rfl (lv_at hl 0 rfl) ?_
    refine x_cVv (As := []) (rest := []) hM hG xml_X4_94 xwi_X4_passDay xws_X4_passDay ho.1 (by decide) rfl h (fun S' v e => c_X4_passDay hM.2.2.2.2.2.2.1 ho e _) ⟨Nat.le_of_ble_eq_true rfl, Nat.le_of_ble_eq_true rfl⟩ rfl hl.1 rfl (Nat.le_of_ble_eq_true rfl) dX4_hottestBehind_8 (fun S_4 v_5 H locs h hG => ?_)
    refine x_iinc hM (fun v => [(2, .int v), (0, .ref (a o)), (1, .int x1)]) h dX4_hottestBehind_11 hl (k := 2) rfl (by decide) (by decide) (fun _ => rfl) (fun v_6 ls h hl => ?_)
    refine lv_goto (tgt := 2) hx hb dX4_hottestBehind_14 (by decide) ?_
    exact k1 _ _ (Option.some.inj h).symm _ _ _ hG (lv_sub hl [1, 2, 0] rfl)
theorem wl_X4_hottestBehind_2 {o : Nat} (ho : xIs_X4 o) {x1 : Int32} (hM : xM p c cX4_hottestBehind m s args RX4 3 D cy xtb a z) (hr : meth.sig.returnType = (some .int)) (hlk : meth.locks = false) {S' : xSt} {v' : Int32} {q : (xSt × Int32)} (k0 : ∀ t0 : xSt × Int32, q = t0 → t0 = (S', v')) (n : Nat) : ∀ (S : xSt) (x2 : Int32) (H : Heap) (locs : List Loc) (ls : Array Slot), xlp (fun q : (xSt × Int32) => f_X4_hottestBehind_2 o x1 q.1 q.2) n (S, x2) = some q → xG D cy xtb a S s H locs → lv_has ls 3 [(0, .ref (a o)), (1, .int x1), (2, .int x2)] → W p l e ({ frames := 4, cells := 0, slots := 0, locals := 102 } : Room) s m args below meth c H locs 0 0 (MQ below (xQi D cy xtb a S' v' s.heap.size) args s 0 0 (xA xtb a s.heap.size)) (F0 m 2 ls []) := by
  induction n with
  | zero => intro S x2 H locs ls h; exact (xlp_0 h).elim
  | succ n ih =>
    intro S x2 H locs ls h hG hl
    obtain ⟨q1, hq, hc, he⟩ := xlp_at h
    exact w_X4_hottestBehind_2 ho hM hr hlk (q := q1) hq (fun t0 e => k0 t0 (he _ e).symm) (fun S x2 e H locs ls hG hl => ih S x2 H locs ls (hc _ e) hG hl) hG hl
set_option maxHeartbeats 4000000 in
set_option maxRecDepth 100000 in
theorem w_X4_hottestBehind_0 {o : Nat} (ho : xIs_X4 o) {x1 : Int32} (hM : xM p c cX4_hottestBehind m s args RX4 3 D cy xtb a z) (hr : meth.sig.returnType = (some .int)) (hlk : meth.locks = false) {S' : xSt} {v' : Int32} {S : xSt} {q : (xSt × Int32)} (h : f_X4_hottestBehind_0 o x1 S = some q) (k0 : ∀ t0 : xSt × Int32, q = t0 → t0 = (S', v')) {H : Heap} {locs : List Loc} (hG : xG D cy xtb a S s H locs) {ls : Array Slot} (hl : lv_has ls 3 [(0, .ref (a o)), (1, .int x1)]) : W p l e ({ frames := 4, cells := 0, slots := 0, locals := 102 } : Room) s m args below meth c H locs 0 0 (MQ below (xQi D cy xtb a S' v' s.heap.size) args s 0 0 (xA xtb a s.heap.size)) (F0 m 0 ls []) := by
  have hx := hM.1
  have hb := hM.2.1
  refine lv_iconst (v := (0 : Int32)) hx hb dX4_hottestBehind_0 (by decide) ?_
  refine lv_istore_n (lv' := [(2, .int (0 : Int32)), (0, .ref (a o)), (1, .int x1)]) hx hb dX4_hottestBehind_1 rfl hl (by decide) rfl (fun ls hl => ?_)
  exact wl_X4_hottestBehind_2 ho hM hr hlk (fun t0 e => k0 t0 e) 5000 _ _ _ _ _ h hG (lv_sub hl [1, 2, 0] rfl)
set_option maxHeartbeats 4000000 in
set_option maxRecDepth 100000 in
theorem c_X4_hottestBehind {l : Launch} {D : va_G} {cy : Nat → ClassId} {a z : Nat → Nat} (hI : xI xtb a) {o : Nat} (ho : xIs_X4 o) {S : xSt} {x1 : Int32} {S' : xSt} {v' : Int32} (hf : f_X4_hottestBehind o S x1 = some (S', v')) (sz : Nat) : Met l yX4_hottestBehind (Cond.code yX4_hottestBehind cX4_hottestBehind 3 (some .int) :: xTB) ({ frames := 4, cells := 0, slots := 0, locals := 102 } : Room) (va_Pc [.ref (a o), .int x1] (xPre D cy xtb a z S sz)) (xQi D cy xtb a S' v' sz) 0 0 (xA xtb a sz) := by
  refine Met.ofW (cc := cX4_hottestBehind) (maxL := 3) (ret := (some .int)) (by decide) rfl ?_
  intro p e s m args below meth c s₁ B hml hv
  obtain ⟨rfl, hsz, hP, hK, hE⟩ := hv
  subst hsz
  have hl := lv_entry ([.ref (a o), .int x1]) (n := 3) (Nat.le_of_ble_eq_true rfl)
  rw [lg_entry_eq]
  generalize (lg_sl ([.ref (a o), .int x1]) ++ List.replicate (3 - (lg_sl ([.ref (a o), .int x1])).length) Slot.unset).toArray = ls at hl ⊢
  have hl : lv_has ls 3 [(0, .ref (a o)), (1, .int x1)] := hl
  exact w_X4_hottestBehind_0 ho ⟨B.exec, B.bytes, hml, findClass_of_methodNamed B.named, fun w hw => atoms_spec (ws := Cond.code yX4_hottestBehind cX4_hottestBehind 3 (some .int) :: xTB) B.pre w (List.mem_cons_of_mem _ hw), hK, hI, hE⟩ B.returns B.notSynchronized hf (fun t0 e => e.symm) ⟨hP, va_S.rf⟩ (lv_sub hl [0, 1] rfl)
set_option maxHeartbeats 4000000 in
set_option maxRecDepth 100000 in
theorem w_X4_turnColumn_2 {o : Nat} (ho : xIs_X4 o) {x1 : Int32} {x2 : Int32} (hM : xM p c cX4_turnColumn m s args RX4 4 D cy xtb a z) (hr : meth.sig.returnType = none) (hlk : meth.locks = false) {S' : xSt} {v' : Unit} {S : xSt} {q : ((xSt × Int32) ⊕ (xSt × Unit))} (h : f_X4_turnColumn_2 o x1 S x2 = some q) (k0 : ∀ t0 : xSt × Unit, q = (.inr t0) → t0 = (S', v')) (k1 : ∀ (S : xSt) (x2 : Int32), q = (.inl (S, x2)) → ∀ (H : Heap) (locs : List Loc) (ls : Array Slot), xG D cy xtb a S s H locs → lv_has ls 4 [(0, .ref (a o)), (1, .int x1), (2, .int x2)] → W p l e ({ frames := 1, cells := 0, slots := 0, locals := 26 } : Room) s m args below meth c H locs 0 0 (MQ below (xQv D cy xtb a S' v' s.heap.size) args s 0 0 (xA xtb a s.heap.size)) (F0 m 2 ls [])) {H : Heap} {locs : List Loc} (hG : xG D cy xtb a S s H locs) {ls : Array Slot} (hl : lv_has ls 4 [(0, .ref (a o)), (1, .int x1), (2, .int x2)]) : W p l e ({ frames := 1, cells := 0, slots := 0, locals := 26 } : Room) s m args below meth c H locs 0 0 (MQ below (xQv D cy xtb a S' v' s.heap.size) args s 0 0 (xA xtb a s.heap.size)) (F0 m 2 ls []) := by
  have hx := hM.1
  have hb := hM.2.1
  refine lv_iload_n hx hb dX4_turnColumn_2 rfl (lv_at hl 2 rfl) ?_
  refine lv_aload_n hx hb dX4_turnColumn_3 rfl (lv_at hl 0 rfl) ?_
  refine x_gr (r := o + 1) hM hG xfl_X4_9 ho.1 (by decide) rfl dX4_turnColumn_4 ?_
  refine lv_iload_n hx hb dX4_turnColumn_7 rfl (lv_at hl 1 rfl) ?_
  refine x_iald hM hG ho.2.1 h dX4_turnColumn_8 (fun v_1 h => ?_)
  refine x_icmp_ge (tgt := 50) hM h dX4_turnColumn_9 (by decide) (fun c_2 h => ?_) (fun c_2 h => ?_)
  · exact x_rv hM hG hr hlk (k0 _ (Option.some.inj h).symm) dX4_turnColumn_50
  · refine lv_iload_n hx hb dX4_turnColumn_12 rfl (lv_at hl 1 rfl) ?_
    refine lv_iconst (v := (5 : Int32)) hx hb dX4_turnColumn_13 (by decide) ?_
    refine x_imul hM h dX4_turnColumn_14 (fun v_3 h => ?_)
    refine lv_iload_n hx hb dX4_turnColumn_15 rfl (lv_at hl 2 rfl) ?_
    refine x_iadd hM h dX4_turnColumn_16 (fun v_4 h => ?_)
    refine lv_istore_n (lv' := [(3, .int v_4), (0, .ref (a o)), (1, .int x1), (2, .int x2)]) hx hb dX4_turnColumn_17 rfl hl (by decide) rfl (fun ls hl => ?_)
    refine lv_aload_n hx hb dX4_turnColumn_18 rfl (lv_at hl 1 rfl) ?_
    refine x_gr (r := o + 4) hM hG xfl_X4_21 ho.1 (by decide) rfl dX4_turnColumn_19 ?_
    refine lv_iload_n hx hb dX4_turnColumn_22 rfl (lv_at hl 0 rfl) ?_
    refine lv_bipush (v := (20 : Int32)) hx hb dX4_turnColumn_23 (by decide) ?_
    refine x_iast hM hG ho.2.2.2.2.1 h dX4_turnColumn_25 (fun S_5 H locs h hG => ?_)
    refine lv_aload_n hx hb dX4_turnColumn_26 rfl (lv_at hl 1 rfl) ?_
    refine x_gr (r := o + 3) hM hG xfl_X4_18 ho.1 (by decide) rfl dX4_turnColumn_27 ?_
    refine lv_iload_n hx hb dX4_turnColumn_30 rfl (lv_at hl 0 rfl) ?_
    refine lv_iconst (v := (0 : Int32)) hx hb dX4_turnColumn_31 (by decide) ?_
    refine lv_aload_n hx hb dX4_turnColumn_32 rfl (lv_at hl 1 rfl) ?_
    refine x_gr (r := o + 3) hM hG xfl_X4_18 ho.1 (by decide) rfl dX4_turnColumn_33 ?_
    refine lv_iload_n hx hb dX4_turnColumn_36 rfl (lv_at hl 0 rfl) ?_
    refine x_iald hM hG ho.2.2.2.1 h dX4_turnColumn_37 (fun v_6 h => ?_)
    refine lv_iconst (v := (1 : Int32)) hx hb dX4_turnColumn_38 (by decide) ?_
    refine x_isub hM h dX4_turnColumn_39 (fun v_7 h => ?_)
    refine x_mmax hM hl.1 xmm_X4_60 h (Nat.le_of_ble_eq_true rfl) (Nat.le_of_ble_eq_true rfl) dX4_turnColumn_40 (fun v_8 h => ?_)
    refine x_iast hM hG ho.2.2.2.1 h dX4_turnColumn_43 (fun S_9 H locs h hG => ?_)
    refine x_iinc hM (fun v => [(2, .int v), (3, .int v_4), (0, .ref (a o)), (1, .int x1)]) h dX4_turnColumn_44 hl (k := 3) rfl (by decide) (by decide) (fun _ => rfl) (fun v_10 ls h hl => ?_)
    refine lv_goto (tgt := 2) hx hb dX4_turnColumn_47 (by decide) ?_
    exact k1 _ _ (Option.some.inj h).symm _ _ _ hG (lv_sub hl [2, 3, 0] rfl)
theorem wl_X4_turnColumn_2 {o : Nat} (ho : xIs_X4 o) {x1 : Int32} (hM : xM p c cX4_turnColumn m s args RX4 4 D cy xtb a z) (hr : meth.sig.returnType = none) (hlk : meth.locks = false) {S' : xSt} {v' : Unit} {q : (xSt × Unit)} (k0 : ∀ t0 : xSt × Unit, q = t0 → t0 = (S', v')) (n : Nat) : ∀ (S : xSt) (x2 : Int32) (H : Heap) (locs : List Loc) (ls : Array Slot), xlp (fun q : (xSt × Int32) => f_X4_turnColumn_2 o x1 q.1 q.2) n (S, x2) = some q → xG D cy xtb a S s H locs → lv_has ls 4 [(0, .ref (a o)), (1, .int x1), (2, .int x2)] → W p l e ({ frames := 1, cells := 0, slots := 0, locals := 26 } : Room) s m args below meth c H locs 0 0 (MQ below (xQv D cy xtb a S' v' s.heap.size) args s 0 0 (xA xtb a s.heap.size)) (F0 m 2 ls []) := by
  induction n with
  | zero => intro S x2 H locs ls h; exact (xlp_0 h).elim
  | succ n ih =>
    intro S x2 H locs ls h hG hl
    obtain ⟨q1, hq, hc, he⟩ := xlp_at h
    exact w_X4_turnColumn_2 ho hM hr hlk (q := q1) hq (fun t0 e => k0 t0 (he _ e).symm) (fun S x2 e H locs ls hG hl => ih S x2 H locs ls (hc _ e) hG hl) hG hl
set_option maxHeartbeats 4000000 in
set_option maxRecDepth 100000 in
theorem w_X4_turnColumn_0 {o : Nat} (ho : xIs_X4 o) {x1 : Int32} (hM : xM p c cX4_turnColumn m s args RX4 4 D cy xtb a z) (hr : meth.sig.returnType = none) (hlk : meth.locks = false) {S' : xSt} {v' : Unit} {S : xSt} {q : (xSt × Unit)} (h : f_X4_turnColumn_0 o x1 S = some q) (k0 : ∀ t0 : xSt × Unit, q = t0 → t0 = (S', v')) {H : Heap} {locs : List Loc} (hG : xG D cy xtb a S s H locs) {ls : Array Slot} (hl : lv_has ls 4 [(0, .ref (a o)), (1, .int x1)]) : W p l e ({ frames := 1, cells := 0, slots := 0, locals := 26 } : Room) s m args below meth c H locs 0 0 (MQ below (xQv D cy xtb a S' v' s.heap.size) args s 0 0 (xA xtb a s.heap.size)) (F0 m 0 ls []) := by
  have hx := hM.1
  have hb := hM.2.1
  refine lv_iconst (v := (0 : Int32)) hx hb dX4_turnColumn_0 (by decide) ?_
  refine lv_istore_n (lv' := [(2, .int (0 : Int32)), (0, .ref (a o)), (1, .int x1)]) hx hb dX4_turnColumn_1 rfl hl (by decide) rfl (fun ls hl => ?_)
  exact wl_X4_turnColumn_2 ho hM hr hlk (fun t0 e => k0 t0 e) 5000 _ _ _ _ _ h hG (lv_sub hl [1, 2, 0] rfl)
set_option maxHeartbeats 4000000 in
set_option maxRecDepth 100000 in
theorem c_X4_turnColumn {l : Launch} {D : va_G} {cy : Nat → ClassId} {a z : Nat → Nat} (hI : xI xtb a) {o : Nat} (ho : xIs_X4 o) {S : xSt} {x1 : Int32} {S' : xSt} {v' : Unit} (hf : f_X4_turnColumn o S x1 = some (S', v')) (sz : Nat) : Met l yX4_turnColumn (Cond.code yX4_turnColumn cX4_turnColumn 4 none :: xTB) ({ frames := 1, cells := 0, slots := 0, locals := 26 } : Room) (va_Pc [.ref (a o), .int x1] (xPre D cy xtb a z S sz)) (xQv D cy xtb a S' v' sz) 0 0 (xA xtb a sz) := by
  refine Met.ofW (cc := cX4_turnColumn) (maxL := 4) (ret := none) (by decide) rfl ?_
  intro p e s m args below meth c s₁ B hml hv
  obtain ⟨rfl, hsz, hP, hK, hE⟩ := hv
  subst hsz
  have hl := lv_entry ([.ref (a o), .int x1]) (n := 4) (Nat.le_of_ble_eq_true rfl)
  rw [lg_entry_eq]
  generalize (lg_sl ([.ref (a o), .int x1]) ++ List.replicate (4 - (lg_sl ([.ref (a o), .int x1])).length) Slot.unset).toArray = ls at hl ⊢
  have hl : lv_has ls 4 [(0, .ref (a o)), (1, .int x1)] := hl
  exact w_X4_turnColumn_0 ho ⟨B.exec, B.bytes, hml, findClass_of_methodNamed B.named, fun w hw => atoms_spec (ws := Cond.code yX4_turnColumn cX4_turnColumn 4 none :: xTB) B.pre w (List.mem_cons_of_mem _ hw), hK, hI, hE⟩ B.returns B.notSynchronized hf (fun t0 e => e.symm) ⟨hP, va_S.rf⟩ (lv_sub hl [0, 1] rfl)
set_option maxHeartbeats 4000000 in
set_option maxRecDepth 100000 in
theorem w_X4_wetColumn_0 {o : Nat} (ho : xIs_X4 o) {x1 : Int32} (hM : xM p c cX4_wetColumn m s args RX4 3 D cy xtb a z) (hr : meth.sig.returnType = none) (hlk : meth.locks = false) {S' : xSt} {v' : Unit} {S : xSt} {q : (xSt × Unit)} (h : f_X4_wetColumn_0 o x1 S = some q) (k0 : ∀ t0 : xSt × Unit, q = t0 → t0 = (S', v')) {H : Heap} {locs : List Loc} (hG : xG D cy xtb a S s H locs) {ls : Array Slot} (hl : lv_has ls 3 [(0, .ref (a o)), (1, .int x1)]) : W p l e ({ frames := 1, cells := 0, slots := 0, locals := 26 } : Room) s m args below meth c H locs 0 0 (MQ below (xQv D cy xtb a S' v' s.heap.size) args s 0 0 (xA xtb a s.heap.size)) (F0 m 0 ls []) := by
  have hx := hM.1
  have hb := hM.2.1
  refine lv_aload_n hx hb dX4_wetColumn_0 rfl (lv_at hl 0 rfl) ?_
  refine x_gr (r := o + 1) hM hG xfl_X4_9 ho.1 (by decide) rfl dX4_wetColumn_1 ?_
  refine lv_iload_n hx hb dX4_wetColumn_4 rfl (lv_at hl 1 rfl) ?_
  refine x_iald hM hG ho.2.1 h dX4_wetColumn_5 (fun v_1 h => ?_)
  refine x_if_le (tgt := 41) hM h dX4_wetColumn_6 (by decide) (fun c_2 h => ?_) (fun c_2 h => ?_)
  · exact x_rv hM hG hr hlk (k0 _ (Option.some.inj h).symm) dX4_wetColumn_41
  · refine lv_iload_n hx hb dX4_wetColumn_9 rfl (lv_at hl 1 rfl) ?_
    refine lv_iconst (v := (5 : Int32)) hx hb dX4_wetColumn_10 (by decide) ?_
    refine x_imul hM h dX4_wetColumn_11 (fun v_3 h => ?_)
    refine lv_aload_n hx hb dX4_wetColumn_12 rfl (lv_at hl 0 rfl) ?_
    refine x_gr (r := o + 1) hM hG xfl_X4_9 ho.1 (by decide) rfl dX4_wetColumn_13 ?_
    refine lv_iload_n hx hb dX4_wetColumn_16 rfl (lv_at hl 1 rfl) ?_
    refine x_iald hM hG ho.2.1 h dX4_wetColumn_17 (fun v_4 h => ?_)
    refine x_iadd hM h dX4_wetColumn_18 (fun v_5 h => ?_)
    refine lv_iconst (v := (1 : Int32)) hx hb dX4_wetColumn_19 (by decide) ?_
    refine x_isub hM h dX4_wetColumn_20 (fun v_6 h => ?_)
    refine lv_istore_n (lv' := [(2, .int v_6), (0, .ref (a o)), (1, .int x1)]) hx hb dX4_wetColumn_21 rfl hl (by decide) rfl (fun ls hl => ?_)
    refine lv_aload_n hx hb dX4_wetColumn_22 rfl (lv_at hl 1 rfl) ?_
    refine x_gr (r := o + 3) hM hG xfl_X4_18 ho.1 (by decide) rfl dX4_wetColumn_23 ?_
    refine lv_iload_n hx hb dX4_wetColumn_26 rfl (lv_at hl 0 rfl) ?_
    refine lv_bipush (v := (9 : Int32)) hx hb dX4_wetColumn_27 (by decide) ?_
    refine lv_aload_n hx hb dX4_wetColumn_29 rfl (lv_at hl 1 rfl) ?_
    refine x_gr (r := o + 3) hM hG xfl_X4_18 ho.1 (by decide) rfl dX4_wetColumn_30 ?_
    refine lv_iload_n hx hb dX4_wetColumn_33 rfl (lv_at hl 0 rfl) ?_
    refine x_iald hM hG ho.2.2.2.1 h dX4_wetColumn_34 (fun v_7 h => ?_)
    refine lv_iconst (v := (2 : Int32)) hx hb dX4_wetColumn_35 (by decide) ?_
    refine x_iadd hM h dX4_wetColumn_36 (fun v_8 h => ?_)
    refine x_mmin hM hl.1 xmm_X4_66 h (Nat.le_of_ble_eq_true rfl) (Nat.le_of_ble_eq_true rfl) dX4_wetColumn_37 (fun v_9 h => ?_)
    refine x_iast hM hG ho.2.2.2.1 h dX4_wetColumn_40 (fun S_10 H locs h hG => ?_)
    exact x_rv hM hG hr hlk (k0 _ (Option.some.inj h).symm) dX4_wetColumn_41
set_option maxHeartbeats 4000000 in
set_option maxRecDepth 100000 in
theorem c_X4_wetColumn {l : Launch} {D : va_G} {cy : Nat → ClassId} {a z : Nat → Nat} (hI : xI xtb a) {o : Nat} (ho : xIs_X4 o) {S : xSt} {x1 : Int32} {S' : xSt} {v' : Unit} (hf : f_X4_wetColumn o S x1 = some (S', v')) (sz : Nat) : Met l yX4_wetColumn (Cond.code yX4_wetColumn cX4_wetColumn 3 none :: xTB) ({ frames := 1, cells := 0, slots := 0, locals := 26 } : Room) (va_Pc [.ref (a o), .int x1] (xPre D cy xtb a z S sz)) (xQv D cy xtb a S' v' sz) 0 0 (xA xtb a sz) := by
  refine Met.ofW (cc := cX4_wetColumn) (maxL := 3) (ret := none) (by decide) rfl ?_
  intro p e s m args below meth c s₁ B hml hv
  obtain ⟨rfl, hsz, hP, hK, hE⟩ := hv
  subst hsz
  have hl := lv_entry ([.ref (a o), .int x1]) (n := 3) (Nat.le_of_ble_eq_true rfl)
  rw [lg_entry_eq]
  generalize (lg_sl ([.ref (a o), .int x1]) ++ List.replicate (3 - (lg_sl ([.ref (a o), .int x1])).length) Slot.unset).toArray = ls at hl ⊢
  have hl : lv_has ls 3 [(0, .ref (a o)), (1, .int x1)] := hl
  exact w_X4_wetColumn_0 ho ⟨B.exec, B.bytes, hml, findClass_of_methodNamed B.named, fun w hw => atoms_spec (ws := Cond.code yX4_wetColumn cX4_wetColumn 3 none :: xTB) B.pre w (List.mem_cons_of_mem _ hw), hK, hI, hE⟩ B.returns B.notSynchronized hf (fun t0 e => e.symm) ⟨hP, va_S.rf⟩ (lv_sub hl [0, 1] rfl)
end XWwalkX0
