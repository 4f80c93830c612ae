section XWwalkX2
variable {p : Program} {l : Launch} {e : Env} {s : State} {m : MethodId} {args : Array Value} {below : List Frame} {meth : Method} {c : Code} {D : va_G} {cy : Nat → ClassId} {a z : Nat → Nat}
set_option maxHeartbeats 4000000 in
set_option maxRecDepth 100000 in
theorem w_X9_clear_0 (hM : xM p c cX9_clear m s args RX9 1 D cy xtb a z) (hr : meth.sig.returnType = none) (hlk : meth.locks = false) {S' : xSt} {v' : Unit} {S : xSt} {q : (xSt × Unit)} (h : f_X9_clear_0 S = some q) (k0 : ∀ t0 : xSt × Unit, q = t0 → t0 = (S', v')) {H : Heap} {locs : List Loc} (hG : xG D cy xtb a S s H locs) {ls : Array Slot} (hl : lv_has ls 1 [(0, .ref (a 2))]) : W p l e ({ frames := 0, cells := 0, slots := 0, locals := 0 } : Room) s m args below meth c H locs 0 0 (MQ below (xQv D cy xtb a S' v' s.heap.size) args s 0 0 (xA xtb a s.heap.size)) (F0 m 0 ls []) := by
  have hx := hM.1
  have hb := hM.2.1
  refine lv_aload_n hx hb dX9_clear_0 rfl (lv_at hl 0 rfl) ?_
  refine lv_iconst (v := (0 : Int32)) hx hb dX9_clear_1 (by decide) ?_
  refine x_pi hM hG xfl_X9_27 xfp_X9_1 xct_2 (by decide) rfl rfl rfl h dX9_clear_2 (fun S_1 H locs h hG => ?_)
  exact x_rv hM hG hr hlk (k0 _ (Option.some.inj h).symm) dX9_clear_5
set_option maxHeartbeats 4000000 in
set_option maxRecDepth 100000 in
theorem c_X9_clear {l : Launch} {D : va_G} {cy : Nat → ClassId} {a z : Nat → Nat} (hI : xI xtb a) {S : xSt} {S' : xSt} {v' : Unit} (hf : f_X9_clear S = some (S', v')) (sz : Nat) : Met l yX9_clear (Cond.code yX9_clear cX9_clear 1 none :: xTB) ({ frames := 0, cells := 0, slots := 0, locals := 0 } : Room) (va_Pc [.ref (a 2)] (xPre D cy xtb a z S sz)) (xQv D cy xtb a S' v' sz) 0 0 (xA xtb a sz) := by
  refine Met.ofW (cc := cX9_clear) (maxL := 1) (ret := none) (by decide) rfl ?_
  intro p e s m args below meth c s₁ B hml hv
  obtain ⟨rfl, hsz, hP, hK, hE⟩ := hv
  subst hsz
  have hl := lv_entry ([.ref (a 2)]) (n := 1) (Nat.le_of_ble_eq_true rfl)
  rw [lg_entry_eq]
  generalize (lg_sl ([.ref (a 2)]) ++ List.replicate (1 - (lg_sl ([.ref (a 2)])).length) Slot.unset).toArray = ls at hl ⊢
  have hl : lv_has ls 1 [(0, .ref (a 2))] := hl
  exact w_X9_clear_0 ⟨B.exec, B.bytes, hml, findClass_of_methodNamed B.named, fun w hw => atoms_spec (ws := Cond.code yX9_clear cX9_clear 1 none :: xTB) B.pre w (List.mem_cons_of_mem _ hw), hK, hI, hE⟩ B.returns B.notSynchronized hf (fun t0 e => e.symm) ⟨hP, va_S.rf⟩ (lv_sub hl [0] rfl)
set_option maxHeartbeats 4000000 in
set_option maxRecDepth 100000 in
theorem w_X9_next_30 (hM : xM p c cX9_next m s args RX9 1 D cy xtb a z) (hr : meth.sig.returnType = (some .int)) (hlk : meth.locks = false) {S' : xSt} {v' : Int32} {S : xSt} {q : (xSt × Int32)} (h : f_X9_next_30 S = some q) (k0 : ∀ t0 : xSt × Int32, q = t0 → t0 = (S', v')) {H : Heap} {locs : List Loc} (hG : xG D cy xtb a S s H locs) {ls : Array Slot} (hl : lv_has ls 1 []) : W p l e ({ frames := 0, cells := 0, slots := 0, locals := 0 } : Room) s m args below meth c H locs 0 0 (MQ below (xQi D cy xtb a S' v' s.heap.size) args s 0 0 (xA xtb a s.heap.size)) (F0 m 30 ls []) := by
  have hx := hM.1
  have hb := hM.2.1
  refine lv_iconst (v := (-1 : Int32)) hx hb dX9_next_30 (by decide) ?_
  exact x_ri hM hG hr hlk rfl (k0 _ (Option.some.inj h).symm) dX9_next_31
set_option maxHeartbeats 4000000 in
set_option maxRecDepth 100000 in
theorem w_X9_next_0 (hM : xM p c cX9_next m s args RX9 1 D cy xtb a z) (hr : meth.sig.returnType = (some .int)) (hlk : meth.locks = false) {S' : xSt} {v' : Int32} {S : xSt} {q : (xSt × Int32)} (h : f_X9_next_0 S = some q) (k0 : ∀ t0 : xSt × Int32, q = t0 → t0 = (S', v')) {H : Heap} {locs : List Loc} (hG : xG D cy xtb a S s H locs) {ls : Array Slot} (hl : lv_has ls 1 [(0, .ref (a 2))]) : W p l e ({ frames := 0, cells := 0, slots := 0, locals := 0 } : Room) s m args below meth c H locs 0 0 (MQ below (xQi D cy xtb a S' v' s.heap.size) args s 0 0 (xA xtb a s.heap.size)) (F0 m 0 ls []) := by
  have hx := hM.1
  have hb := hM.2.1
  refine lv_aload_n hx hb dX9_next_0 rfl (lv_at hl 0 rfl) ?_
  refine x_gi hM hG xfl_X9_40 xct_2 (by decide) rfl h dX9_next_1 (fun v_1 h => ?_)
  refine x_if_ge (tgt := 30) hM h dX9_next_4 (by decide) (fun c_2 h => ?_) (fun c_2 h => ?_)
  · exact w_X9_next_30 hM hr hlk h (fun t0 e => k0 t0 e) hG (lv_sub hl [] rfl)
  · refine lv_aload_n hx hb dX9_next_7 rfl (lv_at hl 0 rfl) ?_
    refine x_gi hM hG xfl_X9_37 xct_2 (by decide) rfl h dX9_next_8 (fun v_3 h => ?_)
    refine lv_aload_n hx hb dX9_next_11 rfl (lv_at hl 0 rfl) ?_
    refine x_gi hM hG xfl_X9_27 xct_2 (by decide) rfl h dX9_next_12 (fun v_4 h => ?_)
    refine x_icmp_ge (tgt := 30) hM h dX9_next_15 (by decide) (fun c_5 h => ?_) (fun c_5 h => ?_)
    · exact w_X9_next_30 hM hr hlk h (fun t0 e => k0 t0 e) hG (lv_sub hl [] rfl)
    · refine lv_aload_n hx hb dX9_next_18 rfl (lv_at hl 0 rfl) ?_
      refine x_gr (r := 3) hM hG xfl_X9_11 xct_2 (by decide) rfl dX9_next_19 ?_
      refine lv_aload_n hx hb dX9_next_22 rfl (lv_at hl 0 rfl) ?_
      refine x_gi hM hG xfl_X9_37 xct_2 (by decide) rfl h dX9_next_23 (fun v_6 h => ?_)
      refine x_iald hM hG xct_3 h dX9_next_26 (fun v_7 h => ?_)
      refine lv_goto (tgt := 31) hx hb dX9_next_27 (by decide) ?_
      exact x_ri hM hG hr hlk rfl (k0 _ (Option.some.inj h).symm) dX9_next_31
set_option maxHeartbeats 4000000 in
set_option maxRecDepth 100000 in
theorem c_X9_next {l : Launch} {D : va_G} {cy : Nat → ClassId} {a z : Nat → Nat} (hI : xI xtb a) {S : xSt} {S' : xSt} {v' : Int32} (hf : f_X9_next S = some (S', v')) (sz : Nat) : Met l yX9_next (Cond.code yX9_next cX9_next 1 (some .int) :: xTB) ({ frames := 0, cells := 0, slots := 0, locals := 0 } : Room) (va_Pc [.ref (a 2)] (xPre D cy xtb a z S sz)) (xQi D cy xtb a S' v' sz) 0 0 (xA xtb a sz) := by
  refine Met.ofW (cc := cX9_next) (maxL := 1) (ret := (some .int)) (by decide) rfl ?_
  intro p e s m args below meth c s₁ B hml hv
  obtain ⟨rfl, hsz, hP, hK, hE⟩ := hv
  subst hsz
  have hl := lv_entry ([.ref (a 2)]) (n := 1) (Nat.le_of_ble_eq_true rfl)
  rw [lg_entry_eq]
  generalize (lg_sl ([.ref (a 2)]) ++ List.replicate (1 - (lg_sl ([.ref (a 2)])).length) Slot.unset).toArray = ls at hl ⊢
  have hl : lv_has ls 1 [(0, .ref (a 2))] := hl
  exact w_X9_next_0 ⟨B.exec, B.bytes, hml, findClass_of_methodNamed B.named, fun w hw => atoms_spec (ws := Cond.code yX9_next cX9_next 1 (some .int) :: xTB) B.pre w (List.mem_cons_of_mem _ hw), hK, hI, hE⟩ B.returns B.notSynchronized hf (fun t0 e => e.symm) ⟨hP, va_S.rf⟩ (lv_sub hl [0] rfl)
set_option maxHeartbeats 4000000 in
set_option maxRecDepth 100000 in
theorem w_X9_nameOf_0 {x0 : Int32} (hM : xM p c cX9_nameOf m s args RX9 1 D cy xtb a z) (hr : meth.sig.returnType = (some .int)) (hlk : meth.locks = false) {S' : xSt} {v' : Int32} {S : xSt} {q : (xSt × Int32)} (h : f_X9_nameOf_0 x0 S = some q) (k0 : ∀ t0 : xSt × Int32, q = t0 → t0 = (S', v')) {H : Heap} {locs : List Loc} (hG : xG D cy xtb a S s H locs) {ls : Array Slot} (hl : lv_has ls 1 [(0, .int x0)]) : W p l e ({ frames := 0, cells := 0, slots := 0, locals := 0 } : Room) s m args below meth c H locs 0 0 (MQ below (xQi D cy xtb a S' v' s.heap.size) args s 0 0 (xA xtb a s.heap.size)) (F0 m 0 ls []) := by
  have hx := hM.1
  have hb := hM.2.1
  refine lv_iload_n hx hb dX9_nameOf_0 rfl (lv_at hl 0 rfl) ?_
  by_cases c_1 : x0 = (97 : Int32)
  · have h := (if_pos c_1).symm.trans h
    refine lv_tableIn (off := 95) (tgt := 96) hx hb dX9_nameOf_1 (by rw [c_1]; decide) (by rw [c_1]; decide) (by rw [c_1]; rfl) (by decide) ?_
    refine lv_iconst (v := (2 : Int32)) hx hb dX9_nameOf_96 (by decide) ?_
    exact x_ri hM hG hr hlk rfl (k0 _ (Option.some.inj h).symm) dX9_nameOf_97
  · have h := (if_neg c_1).symm.trans h
    by_cases c_2 : x0 = (98 : Int32)
    · have h := (if_pos c_2).symm.trans h
      refine lv_tableIn (off := 103) (tgt := 104) hx hb dX9_nameOf_1 (by rw [c_2]; decide) (by rw [c_2]; decide) (by rw [c_2]; rfl) (by decide) ?_
      refine lv_iconst (v := (-1 : Int32)) hx hb dX9_nameOf_104 (by decide) ?_
      exact x_ri hM hG hr hlk rfl (k0 _ (Option.some.inj h).symm) dX9_nameOf_105
    · have h := (if_neg c_2).symm.trans h
      by_cases c_3 : x0 = (99 : Int32)
      · have h := (if_pos c_3).symm.trans h
        refine lv_tableIn (off := 103) (tgt := 104) hx hb dX9_nameOf_1 (by rw [c_3]; decide) (by rw [c_3]; decide) (by rw [c_3]; rfl) (by decide) ?_
        refine lv_iconst (v := (-1 : Int32)) hx hb dX9_nameOf_104 (by decide) ?_
        exact x_ri hM hG hr hlk rfl (k0 _ (Option.some.inj h).symm) dX9_nameOf_105
      · have h := (if_neg c_3).symm.trans h
        by_cases c_4 : x0 = (100 : Int32)
        · have h := (if_pos c_4).symm.trans h
          refine lv_tableIn (off := 91) (tgt := 92) hx hb dX9_nameOf_1 (by rw [c_4]; decide) (by rw [c_4]; decide) (by rw [c_4]; rfl) (by decide) ?_
          refine lv_iconst (v := (0 : Int32)) hx hb dX9_nameOf_92 (by decide) ?_
          exact x_ri hM hG hr hlk rfl (k0 _ (Option.some.inj h).symm) dX9_nameOf_93
        · have h := (if_neg c_4).symm.trans h
          by_cases c_5 : x0 = (101 : Int32)
          · have h := (if_pos c_5).symm.trans h
            refine lv_tableIn (off := 103) (tgt := 104) hx hb dX9_nameOf_1 (by rw [c_5]; decide) (by rw [c_5]; decide) (by rw [c_5]; rfl) (by decide) ?_
            refine lv_iconst (v := (-1 : Int32)) hx hb dX9_nameOf_104 (by decide) ?_
            exact x_ri hM hG hr hlk rfl (k0 _ (Option.some.inj h).symm) dX9_nameOf_105
          · have h := (if_neg c_5).symm.trans h
            by_cases c_6 : x0 = (102 : Int32)
            · have h := (if_pos c_6).symm.trans h
              refine lv_tableIn (off := 103) (tgt := 104) hx hb dX9_nameOf_1 (by rw [c_6]; decide) (by rw [c_6]; decide) (by rw [c_6]; rfl) (by decide) ?_
              refine lv_iconst (v := (-1 : Int32)) hx hb dX9_nameOf_104 (by decide) ?_
              exact x_ri hM hG hr hlk rfl (k0 _ (Option.some.inj h).symm) dX9_nameOf_105
            · have h := (if_neg c_6).symm.trans h
              by_cases c_7 : x0 = (103 : Int32)
              · have h := (if_pos c_7).symm.trans h
                refine lv_tableIn (off := 103) (tgt := 104) hx hb dX9_nameOf_1 (by rw [c_7]; decide) (by rw [c_7]; decide) (by rw [c_7]; rfl) (by decide) ?_
                refine lv_iconst (v := (-1 : Int32)) hx hb dX9_nameOf_104 (by decide) ?_
                exact x_ri hM hG hr hlk rfl (k0 _ (Option.some.inj h).symm) dX9_nameOf_105
              · have h := (if_neg c_7).symm.trans h
                by_cases c_8 : x0 = (104 : Int32)
                · have h := (if_pos c_8).symm.trans h
                  refine lv_tableIn (off := 93) (tgt := 94) hx hb dX9_nameOf_1 (by rw [c_8]; decide) (by rw [c_8]; decide) (by rw [c_8]; rfl) (by decide) ?_
                  refine lv_iconst (v := (1 : Int32)) hx hb dX9_nameOf_94 (by decide) ?_
                  exact x_ri hM hG hr hlk rfl (k0 _ (Option.some.inj h).symm) dX9_nameOf_95
                · have h := (if_neg c_8).symm.trans h
                  by_cases c_9 : x0 = (105 : Int32)
                  · have h := (if_pos c_9).symm.trans h
                    refine lv_tableIn (off := 103) (tgt := 104) hx hb dX9_nameOf_1 (by rw [c_9]; decide) (by rw [c_9]; decide) (by rw [c_9]; rfl) (by decide) ?_
                    refine lv_iconst (v := (-1 : Int32)) hx hb dX9_nameOf_104 (by decide) ?_
                    exact x_ri hM hG hr hlk rfl (k0 _ (Option.some.inj h).symm) dX9_nameOf_105
                  · have h := (if_neg c_9).symm.trans h
                    by_cases c_10 : x0 = (106 : Int32)
                    · have h := (if_pos c_10).symm.trans h
                      refine lv_tableIn (off := 103) (tgt := 104) hx hb dX9_nameOf_1 (by rw [c_10]; decide) (by rw [c_10]; decide) (by rw [c_10]; rfl) (by decide) ?_
                      refine lv_iconst (v := (-1 : Int32)) hx hb dX9_nameOf_104 (by decide) ?_
                      exact x_ri hM hG hr hlk rfl (k0 _ (Option.some.inj h).symm) dX9_nameOf_105
                    · have h := (if_neg c_10).symm.trans h
                      by_cases c_11 : x0 = (107 : Int32)
                      · have h := (if_pos c_11).symm.trans h
                        refine lv_tableIn (off := 103) (tgt := 104) hx hb dX9_nameOf_1 (by rw [c_11]; decide) (by rw [c_11]; decide) (by rw [c_11]; rfl) (by decide) ?_
                        refine lv_iconst (v := (-1 : Int32)) hx hb dX9_nameOf_104 (by decide) ?_
                        exact x_ri hM hG hr hlk rfl (k0 _ (Option.some.inj h).symm) dX9_nameOf_105
                      · have h := (if_neg c_11).symm.trans h
                        by_cases c_12 : x0 = (108 : Int32)
                        · have h := (if_pos c_12).symm.trans h
                          refine lv_tableIn (off := 101) (tgt := 102) hx hb dX9_nameOf_1 (by rw [c_12]; decide) (by rw [c_12]; decide) (by rw [c_12]; rfl) (by decide) ?_
                          refine lv_iconst (v := (5 : Int32)) hx hb dX9_nameOf_102 (by decide) ?_
                          exact x_ri hM hG hr hlk rfl (k0 _ (Option.some.inj h).symm) dX9_nameOf_103
                        · have h := (if_neg c_12).symm.trans h
                          by_cases c_13 : x0 = (109 : Int32)
                          · have h := (if_pos c_13).symm.trans h
                            refine lv_tableIn (off := 103) (tgt := 104) hx hb dX9_nameOf_1 (by rw [c_13]; decide) (by rw [c_13]; decide) (by rw [c_13]; rfl) (by decide) ?_
                            refine lv_iconst (v := (-1 : Int32)) hx hb dX9_nameOf_104 (by decide) ?_
                            exact x_ri hM hG hr hlk rfl (k0 _ (Option.some.inj h).symm) dX9_nameOf_105
                          · have h := (if_neg c_13).symm.trans h
                            by_cases c_14 : x0 = (110 : Int32)
                            · have h := (if_pos c_14).symm.trans h
                              refine lv_tableIn (off := 99) (tgt := 100) hx hb dX9_nameOf_1 (by rw [c_14]; decide) (by rw [c_14]; decide) (by rw [c_14]; rfl) (by decide) ?_
                              refine lv_iconst (v := (4 : Int32)) hx hb dX9_nameOf_100 (by decide) ?_
                              exact x_ri hM hG hr hlk rfl (k0 _ (Option.some.inj h).symm) dX9_nameOf_101
                            · have h := (if_neg c_14).symm.trans h
                              by_cases c_15 : x0 = (111 : Int32)
                              · have h := (if_pos c_15).symm.trans h
                                refine lv_tableIn (off := 103) (tgt := 104) hx hb dX9_nameOf_1 (by rw [c_15]; decide) (by rw [c_15]; decide) (by rw [c_15]; rfl) (by decide) ?_
                                refine lv_iconst (v := (-1 : Int32)) hx hb dX9_nameOf_104 (by decide) ?_
                                exact x_ri hM hG hr hlk rfl (k0 _ (Option.some.inj h).symm) dX9_nameOf_105
                              · have h := (if_neg c_15).symm.trans h
                                by_cases c_16 : x0 = (112 : Int32)
                                · have h := (if_pos c_16).symm.trans h
                                  refine lv_tableIn (off := 103) (tgt := 104) hx hb dX9_nameOf_1 (by rw [c_16]; decide) (by rw [c_16]; decide) (by rw [c_16]; rfl) (by decide) ?_
                                  refine lv_iconst (v := (-1 : Int32)) hx hb dX9_nameOf_104 (by decide) ?_
                                  exact x_ri hM hG hr hlk rfl (k0 _ (Option.some.inj h).symm) dX9_nameOf_105
                                · have h := (if_neg c_16).symm.trans h
                                  by_cases c_17 : x0 = (113 : Int32)
                                  · have h := (if_pos c_17).symm.trans h
                                    refine lv_tableIn (off := 103) (tgt := 104) hx hb dX9_nameOf_1 (by rw [c_17]; decide) (by rw [c_17]; decide) (by rw [c_17]; rfl) (by decide) ?_
                                    refine lv_iconst (v := (-1 : Int32)) hx hb dX9_nameOf_104 (by decide) ?_
                                    exact x_ri hM hG hr hlk rfl (k0 _ (Option.some.inj h).symm) dX9_nameOf_105
                                  · have h := (if_neg c_17).symm.trans h
                                    by_cases c_18 : x0 = (114 : Int32)
                                    · have h := (if_pos c_18).symm.trans h
                                      refine lv_tableIn (off := 103) (tgt := 104) hx hb dX9_nameOf_1 (by rw [c_18]; decide) (by rw [c_18]; decide) (by rw [c_18]; rfl) (by decide) ?_
                                      refine lv_iconst (v := (-1 : Int32)) hx hb dX9_nameOf_104 (by decide) ?_
                                      exact x_ri hM hG hr hlk rfl (k0 _ (Option.some.inj h).symm) dX9_nameOf_105
                                    · have h := (if_neg c_18).symm.trans h
                                      by_cases c_19 : x0 = (115 : Int32)
                                      · have h := (if_pos c_19).symm.trans h
                                        refine lv_tableIn (off := 97) (tgt := 98) hx hb dX9_nameOf_1 (by rw [c_19]; decide) (by rw [c_19]; decide) (by rw [c_19]; rfl) (by decide) ?_
                                        refine lv_iconst (v := (3 : Int32)) hx hb dX9_nameOf_98 (by decide) ?_
                                        exact x_ri hM hG hr hlk rfl (k0 _ (Option.some.inj h).symm) dX9_nameOf_99
                                      · have h := (if_neg c_19).symm.trans h
                                        refine lv_tableOut (tgt := 104) hx hb dX9_nameOf_1 (x_tout [(97 : Int32), (98 : Int32), (99 : Int32), (100 : Int32), (101 : Int32), (102 : Int32), (103 : Int32), (104 : Int32), (105 : Int32), (106 : Int32), (107 : Int32), (108 : Int32), (109 : Int32), (110 : Int32), (111 : Int32), (112 : Int32), (113 : Int32), (114 : Int32), (115 : Int32)] 97 (by decide) (by decide) (List.forall_mem_cons.mpr ⟨c_1, (List.forall_mem_cons.mpr ⟨c_2, (List.forall_mem_cons.mpr ⟨c_3, (List.forall_mem_cons.mpr ⟨c_4, (List.forall_mem_cons.mpr ⟨c_5, (List.forall_mem_cons.mpr ⟨c_6, (List.forall_mem_cons.mpr ⟨c_7, (List.forall_mem_cons.mpr ⟨c_8, (List.forall_mem_cons.mpr ⟨c_9, (List.forall_mem_cons.mpr ⟨c_10, (List.forall_mem_cons.mpr ⟨c_11, (List.forall_mem_cons.mpr ⟨c_12, (List.forall_mem_cons.mpr ⟨c_13, (List.forall_mem_cons.mpr ⟨c_14, (List.forall_mem_cons.mpr ⟨c_15, (List.forall_mem_cons.mpr ⟨c_16, (List.forall_mem_cons.mpr ⟨c_17, (List.forall_mem_cons.mpr ⟨c_18, (List.forall_mem_cons.mpr ⟨c_19, (fun _ h => absurd h List.not_mem_nil)⟩)⟩)⟩)⟩)⟩)⟩)⟩)⟩)⟩)⟩)⟩)⟩)⟩)⟩)⟩)⟩)⟩)⟩)⟩)) (by decide) ?_
                                        refine lv_iconst (v := (-1 : Int32)) hx hb dX9_nameOf_104 (by decide) ?_
                                        exact x_ri hM hG hr hlk rfl (k0 _ (Option.some.inj h).symm) dX9_nameOf_105
set_option maxHeartbeats 4000000 in
set_option maxRecDepth 100000 in
theorem c_X9_nameOf {l : Launch} {D : va_G} {cy : Nat → ClassId} {a z : Nat → Nat} (hI : xI xtb a) {S : xSt} {x0 : Int32} {S' : xSt} {v' : Int32} (hf : f_X9_nameOf S x0 = some (S', v')) (sz : Nat) : Met l yX9_nameOf (Cond.code yX9_nameOf cX9_nameOf 1 (some .int) :: xTB) ({ frames := 0, cells := 0, slots := 0, locals := 0 } : Room) (va_Pc [.int x0] (xPre D cy xtb a z S sz)) (xQi D cy xtb a S' v' sz) 0 0 (xA xtb a sz) := by
  refine Met.ofW (cc := cX9_nameOf) (maxL := 1) (ret := (some .int)) (by decide) rfl ?_
  intro p e s m args below meth c s₁ B hml hv
  obtain ⟨rfl, hsz, hP, hK, hE⟩ := hv
  subst hsz
  have hl := lv_entry ([.int x0]) (n := 1) (Nat.le_of_ble_eq_true rfl)
  rw [lg_entry_eq]
  generalize (lg_sl ([.int x0]) ++ List.replicate (1 - (lg_sl ([.int x0])).length) Slot.unset).toArray = ls at hl ⊢
  have hl : lv_has ls 1 [(0, .int x0)] := hl
  exact w_X9_nameOf_0 ⟨B.exec, B.bytes, hml, findClass_of_methodNamed B.named, fun w hw => atoms_spec (ws := Cond.code yX9_nameOf cX9_nameOf 1 (some .int) :: xTB) B.pre w (List.mem_cons_of_mem _ hw), hK, hI, hE⟩ B.returns B.notSynchronized hf (fun t0 e => e.symm) ⟨hP, va_S.rf⟩ (lv_sub hl [0] rfl)
set_option maxHeartbeats 4000000 in
set_option maxRecDepth 100000 in
theorem w_X9_emit_0 {x1 : Int32} {x2 : Int32} (hM : xM p c cX9_emit m s args RX9 3 D cy xtb a z) (hr : meth.sig.returnType = none) (hlk : meth.locks = false) {S' : xSt} {v' : Unit} {S : xSt} {q : (xSt × Unit)} (h : f_X9_emit_0 x1 x2 S = some q) (k0 : ∀ t0 : xSt × Unit, q = t0 → t0 = (S', v')) {H : Heap} {locs : List Loc} (hG : xG D cy xtb a S s H locs) {ls : Array Slot} (hl : lv_has ls 3 [(0, .ref (a 2)), (1, .int x1), (2, .int x2)]) : W p l e ({ frames := 0, cells := 0, slots := 0, locals := 0 } : Room) s m args below meth c H locs 0 0 (MQ below (xQv D cy xtb a S' v' s.heap.size) args s 0 0 (xA xtb a s.heap.size)) (F0 m 0 ls []) := by
  have hx := hM.1
  have hb := hM.2.1
  refine lv_aload_n hx hb dX9_emit_0 rfl (lv_at hl 0 rfl) ?_
  refine x_gi hM hG xfl_X9_31 xct_2 (by decide) rfl h dX9_emit_1 (fun v_1 h => ?_)
  refine lv_bipush (v := (120 : Int32)) hx hb dX9_emit_4 (by decide) ?_
  refine x_icmp_ge (tgt := 39) hM h dX9_emit_6 (by decide) (fun c_2 h => ?_) (fun c_2 h => ?_)
  · exact x_rv hM hG hr hlk (k0 _ (Option.some.inj h).symm) dX9_emit_39
  · refine lv_aload_n hx hb dX9_emit_9 rfl (lv_at hl 0 rfl) ?_
    refine x_gr (r := 4) hM hG xfl_X9_15 xct_2 (by decide) rfl dX9_emit_10 ?_
    refine lv_aload_n hx hb dX9_emit_13 rfl (lv_at hl 0 rfl) ?_
    refine x_gi hM hG xfl_X9_31 xct_2 (by decide) rfl h dX9_emit_14 (fun v_3 h => ?_)
    refine lv_iload_n hx hb dX9_emit_17 rfl (lv_at hl 1 rfl) ?_
    refine x_iast hM hG xct_4 h dX9_emit_18 (fun S_4 H locs h hG => ?_)
    refine lv_aload_n hx hb dX9_emit_19 rfl (lv_at hl 0 rfl) ?_
    refine x_gr (r := 5) hM hG xfl_X9_18 xct_2 (by decide) rfl dX9_emit_20 ?_
    refine lv_aload_n hx hb dX9_emit_23 rfl (lv_at hl 0 rfl) ?_
    refine x_gi hM hG xfl_X9_31 xct_2 (by decide) rfl h dX9_emit_24 (fun v_5 h => ?_)
    refine lv_iload_n hx hb dX9_emit_27 rfl (lv_at hl 2 rfl) ?_
    refine x_iast hM hG xct_5 h dX9_emit_28 (fun S_6 H locs h hG => ?_)
    refine lv_aload_n hx hb dX9_emit_29 rfl (lv_at hl 0 rfl) ?_
    refine lv_dup hx hb dX9_emit_30 rfl ?_
    refine x_gi hM hG xfl_X9_31 xct_2 (by decide) rfl h dX9_emit_31 (fun v_7 h => ?_)
    refine lv_iconst (v := (1 : Int32)) hx hb dX9_emit_34 (by decide) ?_
    refine x_iadd hM h dX9_emit_35 (fun v_8 h => ?_)
    refine x_pi hM hG xfl_X9_31 xfp_X9_4 xct_2 (by decide) rfl rfl rfl h dX9_emit_36 (fun S_9 H locs h hG => ?_)
    exact x_rv hM hG hr hlk (k0 _ (Option.some.inj h).symm) dX9_emit_39
set_option maxHeartbeats 4000000 in
set_option maxRecDepth 100000 in
theorem c_X9_emit {l : Launch} {D : va_G} {cy : Nat → ClassId} {a z : Nat → Nat} (hI : xI xtb a) {S : xSt} {x1 : Int32} {x2 : Int32} {S' : xSt} {v' : Unit} (hf : f_X9_emit S x1 x2 = some (S', v')) (sz : Nat) : Met l yX9_emit (Cond.code yX9_emit cX9_emit 3 none :: xTB) ({ frames := 0, cells := 0, slots := 0, locals := 0 } : Room) (va_Pc [.ref (a 2), .int x1, .int x2] (xPre D cy xtb a z S sz)) (xQv D cy xtb a S' v' sz) 0 0 (xA xtb a sz) := by
  refine Met.ofW (cc := cX9_emit) (maxL := 3) (ret := none) (by decide) rfl ?_
  intro p e s m args below meth c s₁ B hml hv
  obtain ⟨rfl, hsz, hP, hK, hE⟩ := hv
  subst hsz
  have hl := lv_entry ([.ref (a 2), .int x1, .int x2]) (n := 3) (Nat.le_of_ble_eq_true rfl)
  rw [lg_entry_eq]
  generalize (lg_sl ([.ref (a 2), .int x1, .int x2]) ++ List.replicate (3 - (lg_sl ([.ref (a 2), .int x1, .int x2])).length) Slot.unset).toArray = ls at hl ⊢
  have hl : lv_has ls 3 [(0, .ref (a 2)), (1, .int x1), (2, .int x2)] := hl
  exact w_X9_emit_0 ⟨B.exec, B.bytes, hml, findClass_of_methodNamed B.named, fun w hw => atoms_spec (ws := Cond.code yX9_emit cX9_emit 3 none :: xTB) B.pre w (List.mem_cons_of_mem _ hw), hK, hI, hE⟩ B.returns B.notSynchronized hf (fun t0 e => e.symm) ⟨hP, va_S.rf⟩ (lv_sub hl [0, 1, 2] rfl)
set_option maxHeartbeats 4000000 in
set_option maxRecDepth 100000 in
theorem w_X9_readNumber_56 {x1 : Int32} (hM : xM p c cX9_readNumber m s args RX9 3 D cy xtb a z) (hr : meth.sig.returnType = none) (hlk : meth.locks = false) {S' : xSt} {v' : Unit} {S : xSt} {q : (xSt × Unit)} (h : f_X9_readNumber_56 x1 S = some q) (k0 : ∀ t0 : xSt × Unit, q = t0 → t0 = (S', v')) {H : Heap} {locs : List Loc} (hG : xG D cy xtb a S s H locs) {ls : Array Slot} (hl : lv_has ls 3 [(0, .ref (a 2)), (1, .int x1)]) : W p l e ({ frames := 1, cells := 0, slots := 0, locals := 22 } : Room) s m args below meth c H locs 0 0 (MQ below (xQv D cy xtb a S' v' s.heap.size) args s 0 0 (xA xtb a s.heap.size)) (F0 m 56 ls []) := by
  have hx := hM.1
  have hb := hM.2.1
  refine lv_aload_n hx hb dX9_readNumber_56 rfl (lv_at hl 0 rfl) ?_
  refine lv_bipush (v := (35 : Int32)) hx hb dX9_readNumber_57 (by decide) ?_
  refine lv_iload_n hx hb dX9_readNumber_59 rfl (lv_at hl 1 rfl) ?_
  refine x_cVv (As := [.int (35 : Int32), .int x1]) (rest := []) hM hG xml_X9_65 xwi_X9_emit xws_X9_emit xct_2 (by decide) rfl h (fun S' v e => c_X9_emit hM.2.2.2.2.2.2.1 e _) ⟨Nat.le_of_ble_eq_true rfl, Nat.le_of_ble_eq_true rfl⟩ rfl hl.1 rfl (Nat.le_of_ble_eq_true rfl) dX9_readNumber_60 (fun S_1 v_2 H locs h hG => ?_)
  exact x_rv hM hG hr hlk (k0 _ (Option.some.inj h).symm) dX9_readNumber_63
set_option maxHeartbeats 4000000 in
set_option maxRecDepth 100000 in
theorem w_X9_readNumber_4 {x1 : Int32} {x2 : Int32} (hM : xM p c cX9_readNumber m s args RX9 3 D cy xtb a z) (hr : meth.sig.returnType = none) (hlk : meth.locks = false) {S' : xSt} {v' : Unit} {S : xSt} {q : ((xSt × Int32 × Int32) ⊕ (xSt × Unit))} (h : f_X9_readNumber_4 S x1 x2 = some q) (k0 : ∀ t0 : xSt × Unit, q = (.inr t0) → t0 = (S', v')) (k1 : ∀ (S : xSt) (x1 : Int32) (x2 : Int32), q = (.inl (S, x1, x2)) → ∀ (H : Heap) (locs : List Loc) (ls : Array Slot), xG D cy xtb a S s H locs → lv_has ls 3 [(0, .ref (a 2)), (1, .int x1), (2, .int x2)] → W p l e ({ frames := 1, cells := 0, slots := 0, locals := 22 } : Room) s m args below meth c H locs 0 0 (MQ below (xQv D cy xtb a S' v' s.heap.size) args s 0 0 (xA xtb a s.heap.size)) (F0 m 4 ls [])) {H : Heap} {locs : List Loc} (hG : xG D cy xtb a S s H locs) {ls : Array Slot} (hl : lv_has ls 3 [(0, .ref (a 2)), (1, .int x1), (2, .int x2)]) : W p l e ({ frames := 1, cells := 0, slots := 0, locals := 22 } : Room) s m args below meth c H locs 0 0 (MQ below (xQv D cy xtb a S' v' s.heap.size) args s 0 0 (xA xtb a s.heap.size)) (F0 m 4 ls []) := by
  have hx := hM.1
  have hb := hM.2.1
  refine lv_iload_n hx hb dX9_readNumber_4 rfl (lv_at hl 2 rfl) ?_
  refine lv_iconst (v := (4 : Int32)) hx hb dX9_readNumber_5 (by decide) ?_
  refine x_icmp_ge (tgt := 56) hM h dX9_readNumber_6 (by decide) (fun c_1 h => ?_) (fun c_1 h => ?_)
  · obtain ⟨q1, h, e1⟩ := xmr_at h
    exact w_X9_readNumber_56 hM hr hlk h (fun t0 e => k0 t0 (by rw [e1, e])) hG (lv_sub hl [0, 1] rfl)
  · refine lv_aload_n hx hb dX9_readNumber_9 rfl (lv_at hl 0 rfl) ?_
    refine x_cVi (As := []) (rest := []) hM hG xml_X9_46 xwi_X9_next xws_X9_next xct_2 (by decide) rfl h (fun S' v e => c_X9_next hM.2.2.2.2.2.2.1 e _) ⟨Nat.le_of_ble_eq_true rfl, Nat.le_of_ble_eq_true rfl⟩ rfl hl.1 rfl (Nat.le_of_ble_eq_true rfl) dX9_readNumber_10 (fun S_2 v_3 H locs h hG => ?_)
    refine lv_bipush (v := (48 : Int32)) hx hb dX9_readNumber_13 (by decide) ?_
    refine x_icmp_lt (tgt := 56) hM h dX9_readNumber_15 (by decide) (fun c_4 h => ?_) (fun c_4 h => ?_)
    · obtain ⟨q1, h, e1⟩ := xmr_at h
      exact w_X9_readNumber_56 hM hr hlk h (fun t0 e => k0 t0 (by rw [e1, e])) hG (lv_sub hl [0, 1] rfl)
    · refine lv_aload_n hx hb dX9_readNumber_18 rfl (lv_at hl 0 rfl) ?_
      refine x_cVi (As := []) (rest := []) hM hG xml_X9_46 xwi_X9_next xws_X9_next xct_2 (by decide) rfl h (fun S' v e => c_X9_next hM.2.2.2.2.2.2.1 e _) ⟨Nat.le_of_ble_eq_true rfl, Nat.le_of_ble_eq_true rfl⟩ rfl hl.1 rfl (Nat.le_of_ble_eq_true rfl) dX9_readNumber_19 (fun S_5 v_6 H locs h hG => ?_)
      refine lv_bipush (v := (57 : Int32)) hx hb dX9_readNumber_22 (by decide) ?_
      refine x_icmp_gt (tgt := 56) hM h dX9_readNumber_24 (by decide) (fun c_7 h => ?_) (fun c_7 h => ?_)
      · obtain ⟨q1, h, e1⟩ := xmr_at h
        exact w_X9_readNumber_56 hM hr hlk h (fun t0 e => k0 t0 (by rw [e1, e])) hG (lv_sub hl [0, 1] rfl)
      · refine lv_bipush (v := (10 : Int32)) hx hb dX9_readNumber_27 (by decide) ?_
        refine lv_iload_n hx hb dX9_readNumber_29 rfl (lv_at hl 1 rfl) ?_
        refine x_imul hM h dX9_readNumber_30 (fun v_8 h => ?_)
        refine lv_aload_n hx hb dX9_readNumber_31 rfl (lv_at hl 0 rfl) ?_
        refine x_cVi (As := []) (rest := [.int v_8]) hM hG xml_X9_46 xwi_X9_next xws_X9_next xct_2 (by decide) rfl h (fun S' v e => c_X9_next hM.2.2.2.2.2.2.1 e _) ⟨Nat.le_of_ble_eq_true rfl, Nat.le_of_ble_eq_true rfl⟩ rfl hl.1 rfl (Nat.le_of_ble_eq_true rfl) dX9_readNumber_32 (fun S_9 v_10 H locs h hG => ?_)
        refine x_iadd hM h dX9_readNumber_35 (fun v_11 h => ?_)
        refine lv_bipush (v := (48 : Int32)) hx hb dX9_readNumber_36 (by decide) ?_
        refine x_isub hM h dX9_readNumber_38 (fun v_12 h => ?_)
        refine lv_istore_n (lv' := [(1, .int v_12), (0, .ref (a 2)), (2, .int x2)]) hx hb dX9_readNumber_39 rfl hl (by decide) rfl (fun ls hl => ?_)
        refine lv_aload_n hx hb dX9_readNumber_40 rfl (lv_at hl 1 rfl) ?_
        refine lv_dup hx hb dX9_readNumber_41 rfl ?_
        refine x_gi hM hG xfl_X9_37 xct_2 (by decide) rfl h dX9_readNumber_42 (fun v_13 h => ?_)
        refine lv_iconst (v := (1 : Int32)) hx hb dX9_readNumber_45 (by decide) ?_
        refine x_iadd hM h dX9_readNumber_46 (fun v_14 h => ?_)
        refine x_pi hM hG xfl_X9_37 xfp_X9_8 xct_2 (by decide) rfl rfl rfl h dX9_readNumber_47 (fun S_15 H locs h hG => ?_)
        refine x_iinc hM (fun v => [(2, .int v), (1, .int v_12), (0, .ref (a 2))]) h dX9_readNumber_50 hl (k := 2) rfl (by decide) (by decide) (fun _ => rfl) (fun v_16 ls h hl => ?_)
        refine lv_goto (tgt := 4) hx hb dX9_readNumber_53 (by decide) ?_
        exact k1 _ _ _ (Option.some.inj h).symm _ _ _ hG (lv_sub hl [2, 1, 0] rfl)
theorem wl_X9_readNumber_4 (hM : xM p c cX9_readNumber m s args RX9 3 D cy xtb a z) (hr : meth.sig.returnType = none) (hlk : meth.locks = false) {S' : xSt} {v' : Unit} {q : (xSt × Unit)} (k0 : ∀ t0 : xSt × Unit, q = t0 → t0 = (S', v')) (n : Nat) : ∀ (S : xSt) (x1 : Int32) (x2 : Int32) (H : Heap) (locs : List Loc) (ls : Array Slot), xlp (fun q : (xSt × Int32 × Int32) => f_X9_readNumber_4 q.1 q.2.1 q.2.2) n (S, x1, x2) = some q → xG D cy xtb a S s H locs → lv_has ls 3 [(0, .ref (a 2)), (1, .int x1), (2, .int x2)] → W p l e ({ frames := 1, cells := 0, slots := 0, locals := 22 } : Room) s m args below meth c H locs 0 0 (MQ below (xQv D cy xtb a S' v' s.heap.size) args s 0 0 (xA xtb a s.heap.size)) (F0 m 4 ls []) := by
  induction n with
  | zero => intro S x1 x2 H locs ls h; exact (xlp_0 h).elim
  | succ n ih =>
    intro S x1 x2 H locs ls h hG hl
    obtain ⟨q1, hq, hc, he⟩ := xlp_at h
    exact w_X9_readNumber_4 hM hr hlk (q := q1) hq (fun t0 e => k0 t0 (he _ e).symm) (fun S x1 x2 e H locs ls hG hl => ih S x1 x2 H locs ls (hc _ e) hG hl) hG hl
set_option maxHeartbeats 4000000 in
set_option maxRecDepth 100000 in
theorem w_X9_readNumber_0 (hM : xM p c cX9_readNumber m s args RX9 3 D cy xtb a z) (hr : meth.sig.returnType = none) (hlk : meth.locks = false) {S' : xSt} {v' : Unit} {S : xSt} {q : (xSt × Unit)} (h : f_X9_readNumber_0 S = some q) (k0 : ∀ t0 : xSt × Unit, q = t0 → t0 = (S', v')) {H : Heap} {locs : List Loc} (hG : xG D cy xtb a S s H locs) {ls : Array Slot} (hl : lv_has ls 3 [(0, .ref (a 2))]) : W p l e ({ frames := 1, cells := 0, slots := 0, locals := 22 } : Room) s m args below meth c H locs 0 0 (MQ below (xQv D cy xtb a S' v' s.heap.size) args s 0 0 (xA xtb a s.heap.size)) (F0 m 0 ls []) := by
  have hx := hM.1
  have hb := hM.2.1
  refine lv_iconst (v := (0 : Int32)) hx hb dX9_readNumber_0 (by decide) ?_
  refine lv_istore_n (lv' := [(1, .int (0 : Int32)), (0, .ref (a 2))]) hx hb dX9_readNumber_1 rfl hl (by decide) rfl (fun ls hl => ?_)
  refine lv_iconst (v := (0 : Int32)) hx hb dX9_readNumber_2 (by decide) ?_
  refine lv_istore_n (lv' := [(2, .int (0 : Int32)), (1, .int (0 : Int32)), (0, .ref (a 2))]) hx hb dX9_readNumber_3 rfl hl (by decide) rfl (fun ls hl => ?_)
  exact wl_X9_readNumber_4 hM hr hlk (fun t0 e => k0 t0 e) 5000 _ _ _ _ _ _ h hG (lv_sub hl [2, 1, 0] rfl)
set_option maxHeartbeats 4000000 in
set_option maxRecDepth 100000 in
theorem c_X9_readNumber {l : Launch} {D : va_G} {cy : Nat → ClassId} {a z : Nat → Nat} (hI : xI xtb a) {S : xSt} {S' : xSt} {v' : Unit} (hf : f_X9_readNumber S = some (S', v')) (sz : Nat) : Met l yX9_readNumber (Cond.code yX9_readNumber cX9_readNumber 3 none :: xTB) ({ frames := 1, cells := 0, slots := 0, locals := 22 } : Room) (va_Pc [.ref (a 2)] (xPre D cy xtb a z S sz)) (xQv D cy xtb a S' v' sz) 0 0 (xA xtb a sz) := by
  refine Met.ofW (cc := cX9_readNumber) (maxL := 3) (ret := none) (by decide) rfl ?_
  intro p e s m args below meth c s₁ B hml hv
  obtain ⟨rfl, hsz, hP, hK, hE⟩ := hv
  subst hsz
  have hl := lv_entry ([.ref (a 2)]) (n := 3) (Nat.le_of_ble_eq_true rfl)
  rw [lg_entry_eq]
  generalize (lg_sl ([.ref (a 2)]) ++ List.replicate (3 - (lg_sl ([.ref (a 2)])).length) Slot.unset).toArray = ls at hl ⊢
  have hl : lv_has ls 3 [(0, .ref (a 2))] := hl
  exact w_X9_readNumber_0 ⟨B.exec, B.bytes, hml, findClass_of_methodNamed B.named, fun w hw => atoms_spec (ws := Cond.code yX9_readNumber cX9_readNumber 3 none :: xTB) B.pre w (List.mem_cons_of_mem _ hw), hK, hI, hE⟩ B.returns B.notSynchronized hf (fun t0 e => e.symm) ⟨hP, va_S.rf⟩ (lv_sub hl [0] rfl)
set_option maxHeartbeats 4000000 in
set_option maxRecDepth 100000 in
theorem w_X9_failHere_0 (hM : xM p c cX9_failHere m s args RX9 1 D cy xtb a z) (hr : meth.sig.returnType = none) (hlk : meth.locks = false) {S' : xSt} {v' : Unit} {S : xSt} {q : (xSt × Unit)} (h : f_X9_failHere_0 S = some q) (k0 : ∀ t0 : xSt × Unit, q = t0 → t0 = (S', v')) {H : Heap} {locs : List Loc} (hG : xG D cy xtb a S s H locs) {ls : Array Slot} (hl : lv_has ls 1 [(0, .ref (a 2))]) : W p l e ({ frames := 0, cells := 0, slots := 0, locals := 0 } : Room) s m args below meth c H locs 0 0 (MQ below (xQv D cy xtb a S' v' s.heap.size) args s 0 0 (xA xtb a s.heap.size)) (F0 m 0 ls []) := by
  have hx := hM.1
  have hb := hM.2.1
  refine lv_aload_n hx hb dX9_failHere_0 rfl (lv_at hl 0 rfl) ?_
  refine x_gi hM hG xfl_X9_40 xct_2 (by decide) rfl h dX9_failHere_1 (fun v_1 h => ?_)
  refine x_if_ge (tgt := 15) hM h dX9_failHere_4 (by decide) (fun c_2 h => ?_) (fun c_2 h => ?_)
  · exact x_rv hM hG hr hlk (k0 _ (Option.some.inj h).symm) dX9_failHere_15
  · refine lv_aload_n hx hb dX9_failHere_7 rfl (lv_at hl 0 rfl) ?_
    refine lv_aload_n hx hb dX9_failHere_8 rfl (lv_at hl 0 rfl) ?_
    refine x_gi hM hG xfl_X9_37 xct_2 (by decide) rfl h dX9_failHere_9 (fun v_3 h => ?_)
    refine x_pi hM hG xfl_X9_40 xfp_X9_9 xct_2 (by decide) rfl rfl rfl h dX9_failHere_12 (fun S_4 H locs h hG => ?_)
    exact x_rv hM hG hr hlk (k0 _ (Option.some.inj h).symm) dX9_failHere_15
set_option maxHeartbeats 4000000 in
set_option maxRecDepth 100000 in
theorem c_X9_failHere {l : Launch} {D : va_G} {cy : Nat → ClassId} {a z : Nat → Nat} (hI : xI xtb a) {S : xSt} {S' : xSt} {v' : Unit} (hf : f_X9_failHere S = some (S', v')) (sz : Nat) : Met l yX9_failHere (Cond.code yX9_failHere cX9_failHere 1 none :: xTB) ({ frames := 0, cells := 0, slots := 0, locals := 0 } : Room) (va_Pc [.ref (a 2)] (xPre D cy xtb a z S sz)) (xQv D cy xtb a S' v' sz) 0 0 (xA xtb a sz) := by
  refine Met.ofW (cc := cX9_failHere) (maxL := 1) (ret := none) (by decide) rfl ?_
  intro p e s m args below meth c s₁ B hml hv
  obtain ⟨rfl, hsz, hP, hK, hE⟩ := hv
  subst hsz
  have hl := lv_entry ([.ref (a 2)]) (n := 1) (Nat.le_of_ble_eq_true rfl)
  rw [lg_entry_eq]
  generalize (lg_sl ([.ref (a 2)]) ++ List.replicate (1 - (lg_sl ([.ref (a 2)])).length) Slot.unset).toArray = ls at hl ⊢
  have hl : lv_has ls 1 [(0, .ref (a 2))] := hl
  exact w_X9_failHere_0 ⟨B.exec, B.bytes, hml, findClass_of_methodNamed B.named, fun w hw => atoms_spec (ws := Cond.code yX9_failHere cX9_failHere 1 none :: xTB) B.pre w (List.mem_cons_of_mem _ hw), hK, hI, hE⟩ B.returns B.notSynchronized hf (fun t0 e => e.symm) ⟨hP, va_S.rf⟩ (lv_sub hl [0] rfl)
set_option maxHeartbeats 4000000 in
set_option maxRecDepth 100000 in
theorem w_X9_levelOf_0 {x0 : Int32} (hM : xM p c cX9_levelOf m s args RX9 1 D cy xtb a z) (hr : meth.sig.returnType = (some .int)) (hlk : meth.locks = false) {S' : xSt} {v' : Int32} {S : xSt} {q : (xSt × Int32)} (h : f_X9_levelOf_0 x0 S = some q) (k0 : ∀ t0 : xSt × Int32, q = t0 → t0 = (S', v')) {H : Heap} {locs : List Loc} (hG : xG D cy xtb a S s H locs) {ls : Array Slot} (hl : lv_has ls 1 [(0, .int x0)]) : W p l e ({ frames := 0, cells := 0, slots := 0, locals := 0 } : Room) s m args below meth c H locs 0 0 (MQ below (xQi D cy xtb a S' v' s.heap.size) args s 0 0 (xA xtb a s.heap.size)) (F0 m 0 ls []) := by
  have hx := hM.1
  have hb := hM.2.1
  refine lv_iload_n hx hb dX9_levelOf_0 rfl (lv_at hl 0 rfl) ?_
  by_cases c_1 : x0 = (37 : Int32)
  · have h := (if_pos c_1).symm.trans h
    refine lv_lookup (off := 99) (tgt := 100) hx hb dX9_levelOf_1 (by decide) (by rw [c_1]; rfl) (by decide) ?_
    refine lv_iconst (v := (4 : Int32)) hx hb dX9_levelOf_100 (by decide) ?_
    exact x_ri hM hG hr hlk rfl (k0 _ (Option.some.inj h).symm) dX9_levelOf_101
  · have h := (if_neg c_1).symm.trans h
    by_cases c_2 : x0 = (38 : Int32)
    · have h := (if_pos c_2).symm.trans h
      refine lv_lookup (off := 93) (tgt := 94) hx hb dX9_levelOf_1 (by decide) (by rw [c_2]; rfl) (by decide) ?_
      refine lv_iconst (v := (1 : Int32)) hx hb dX9_levelOf_94 (by decide) ?_
      exact x_ri hM hG hr hlk rfl (k0 _ (Option.some.inj h).symm) dX9_levelOf_95
    · have h := (if_neg c_2).symm.trans h
      by_cases c_3 : x0 = (42 : Int32)
      · have h := (if_pos c_3).symm.trans h
        refine lv_lookup (off := 99) (tgt := 100) hx hb dX9_levelOf_1 (by decide) (by rw [c_3]; rfl) (by decide) ?_
        refine lv_iconst (v := (4 : Int32)) hx hb dX9_levelOf_100 (by decide) ?_
        exact x_ri hM hG hr hlk rfl (k0 _ (Option.some.inj h).symm) dX9_levelOf_101
      · have h := (if_neg c_3).symm.trans h
        by_cases c_4 : x0 = (43 : Int32)
        · have h := (if_pos c_4).symm.trans h
          refine lv_lookup (off := 97) (tgt := 98) hx hb dX9_levelOf_1 (by decide) (by rw [c_4]; rfl) (by decide) ?_
          refine lv_iconst (v := (3 : Int32)) hx hb dX9_levelOf_98 (by decide) ?_
          exact x_ri hM hG hr hlk rfl (k0 _ (Option.some.inj h).symm) dX9_levelOf_99
        · have h := (if_neg c_4).symm.trans h
          by_cases c_5 : x0 = (45 : Int32)
          · have h := (if_pos c_5).symm.trans h
            refine lv_lookup (off := 97) (tgt := 98) hx hb dX9_levelOf_1 (by decide) (by rw [c_5]; rfl) (by decide) ?_
            refine lv_iconst (v := (3 : Int32)) hx hb dX9_levelOf_98 (by decide) ?_
            exact x_ri hM hG hr hlk rfl (k0 _ (Option.some.inj h).symm) dX9_levelOf_99
          · have h := (if_neg c_5).symm.trans h
            by_cases c_6 : x0 = (47 : Int32)
            · have h := (if_pos c_6).symm.trans h
              refine lv_lookup (off := 99) (tgt := 100) hx hb dX9_levelOf_1 (by decide) (by rw [c_6]; rfl) (by decide) ?_
              refine lv_iconst (v := (4 : Int32)) hx hb dX9_levelOf_100 (by decide) ?_
              exact x_ri hM hG hr hlk rfl (k0 _ (Option.some.inj h).symm) dX9_levelOf_101
            · have h := (if_neg c_6).symm.trans h
              by_cases c_7 : x0 = (60 : Int32)
              · have h := (if_pos c_7).symm.trans h
                refine lv_lookup (off := 95) (tgt := 96) hx hb dX9_levelOf_1 (by decide) (by rw [c_7]; rfl) (by decide) ?_
                refine lv_iconst (v := (2 : Int32)) hx hb dX9_levelOf_96 (by decide) ?_
                exact x_ri hM hG hr hlk rfl (k0 _ (Option.some.inj h).symm) dX9_levelOf_97
              · have h := (if_neg c_7).symm.trans h
                by_cases c_8 : x0 = (61 : Int32)
                · have h := (if_pos c_8).symm.trans h
                  refine lv_lookup (off := 95) (tgt := 96) hx hb dX9_levelOf_1 (by decide) (by rw [c_8]; rfl) (by decide) ?_
                  refine lv_iconst (v := (2 : Int32)) hx hb dX9_levelOf_96 (by decide) ?_
                  exact x_ri hM hG hr hlk rfl (k0 _ (Option.some.inj h).symm) dX9_levelOf_97
                · have h := (if_neg c_8).symm.trans h
                  by_cases c_9 : x0 = (62 : Int32)
                  · have h := (if_pos c_9).symm.trans h
                    refine lv_lookup (off := 95) (tgt := 96) hx hb dX9_levelOf_1 (by decide) (by rw [c_9]; rfl) (by decide) ?_
                    refine lv_iconst (v := (2 : Int32)) hx hb dX9_levelOf_96 (by decide) ?_
                    exact x_ri hM hG hr hlk rfl (k0 _ (Option.some.inj h).symm) dX9_levelOf_97
                  · have h := (if_neg c_9).symm.trans h
                    by_cases c_10 : x0 = (124 : Int32)
                    · have h := (if_pos c_10).symm.trans h
                      refine lv_lookup (off := 91) (tgt := 92) hx hb dX9_levelOf_1 (by decide) (by rw [c_10]; rfl) (by decide) ?_
                      refine lv_iconst (v := (0 : Int32)) hx hb dX9_levelOf_92 (by decide) ?_
                      exact x_ri hM hG hr hlk rfl (k0 _ (Option.some.inj h).symm) dX9_levelOf_93
                    · have h := (if_neg c_10).symm.trans h
                      refine lv_lookup (off := 101) (tgt := 102) hx hb dX9_levelOf_1 (by decide) (by refine (lv_osw c_1 (by decide)).trans ?_; refine (lv_osw c_2 (by decide)).trans ?_; refine (lv_osw c_3 (by decide)).trans ?_; refine (lv_osw c_4 (by decide)).trans ?_; refine (lv_osw c_5 (by decide)).trans ?_; refine (lv_osw c_6 (by decide)).trans ?_; refine (lv_osw c_7 (by decide)).trans ?_; refine (lv_osw c_8 (by decide)).trans ?_; refine (lv_osw c_9 (by decide)).trans ?_; refine (lv_osw c_10 (by decide)).trans ?_; rfl) (by decide) ?_
                      refine lv_iconst (v := (-1 : Int32)) hx hb dX9_levelOf_102 (by decide) ?_
                      exact x_ri hM hG hr hlk rfl (k0 _ (Option.some.inj h).symm) dX9_levelOf_103
set_option maxHeartbeats 4000000 in
set_option maxRecDepth 100000 in
theorem c_X9_levelOf {l : Launch} {D : va_G} {cy : Nat → ClassId} {a z : Nat → Nat} (hI : xI xtb a) {S : xSt} {x0 : Int32} {S' : xSt} {v' : Int32} (hf : f_X9_levelOf S x0 = some (S', v')) (sz : Nat) : Met l yX9_levelOf (Cond.code yX9_levelOf cX9_levelOf 1 (some .int) :: xTB) ({ frames := 0, cells := 0, slots := 0, locals := 0 } : Room) (va_Pc [.int x0] (xPre D cy xtb a z S sz)) (xQi D cy xtb a S' v' sz) 0 0 (xA xtb a sz) := by
  refine Met.ofW (cc := cX9_levelOf) (maxL := 1) (ret := (some .int)) (by decide) rfl ?_
  intro p e s m args below meth c s₁ B hml hv
  obtain ⟨rfl, hsz, hP, hK, hE⟩ := hv
  subst hsz
  have hl := lv_entry ([.int x0]) (n := 1) (Nat.le_of_ble_eq_true rfl)
  rw [lg_entry_eq]
  generalize (lg_sl ([.int x0]) ++ List.replicate (1 - (lg_sl ([.int x0])).length) Slot.unset).toArray = ls at hl ⊢
  have hl : lv_has ls 1 [(0, .int x0)] := hl
  exact w_X9_levelOf_0 ⟨B.exec, B.bytes, hml, findClass_of_methodNamed B.named, fun w hw => atoms_spec (ws := Cond.code yX9_levelOf cX9_levelOf 1 (some .int) :: xTB) B.pre w (List.mem_cons_of_mem _ hw), hK, hI, hE⟩ B.returns B.notSynchronized hf (fun t0 e => e.symm) ⟨hP, va_S.rf⟩ (lv_sub hl [0] rfl)
set_option maxHeartbeats 4000000 in
set_option maxRecDepth 100000 in
theorem w_X9_readLevel_34 {d : Nat} {g_X9_readLevel : xSt → Int32 → Int32 → Option (xSt × Unit)} {g_X9_readOpened : xSt → Int32 → Int32 → Option (xSt × Unit)} {g_X9_readUnit : xSt → Int32 → Option (xSt × Unit)} (hg_X9_readLevel : ∀ (S : xSt) (x1 : Int32) (x2 : Int32) (S' : xSt) (v' : Unit), g_X9_readLevel S x1 x2 = some (S', v') → ∀ sz : Nat, Met l yX9_readLevel (Cond.code yX9_readLevel cX9_readLevel 6 none :: xTB) ({ frames := 2 + d, cells := 0, slots := 0, locals := 44 + d * 25 } : Room) (va_Pc [.ref (a 2), .int x1, .int x2] (xPre D cy xtb a z S sz)) (xQv D cy xtb a S' v' sz) 0 0 (xA xtb a sz)) (hg_X9_readOpened : ∀ (S : xSt) (x1 : Int32) (x2 : Int32) (S' : xSt) (v' : Unit), g_X9_readOpened S x1 x2 = some (S', v') → ∀ sz : Nat, Met l yX9_readOpened (Cond.code yX9_readOpened cX9_readOpened 3 none :: xTB) ({ frames := 2 + d, cells := 0, slots := 0, locals := 44 + d * 25 } : Room) (va_Pc [.ref (a 2), .int x1, .int x2] (xPre D cy xtb a z S sz)) (xQv D cy xtb a S' v' sz) 0 0 (xA xtb a sz)) (hg_X9_readUnit : ∀ (S : xSt) (x1 : Int32) (S' : xSt) (v' : Unit), g_X9_readUnit S x1 = some (S', v') → ∀ sz : Nat, Met l yX9_readUnit (Cond.code yX9_readUnit cX9_readUnit 4 none :: xTB) ({ frames := 2 + d, cells := 0, slots := 0, locals := 44 + d * 25 } : Room) (va_Pc [.ref (a 2), .int x1] (xPre D cy xtb a z S sz)) (xQv D cy xtb a S' v' sz) 0 0 (xA xtb a sz)) {x1 : Int32} {x2 : Int32} {x3 : Int32} {x4 : Int32} (hM : xM p c cX9_readLevel m s args RX9 6 D cy xtb a z) (hr : meth.sig.returnType = none) (hlk : meth.locks = false) {S' : xSt} {v' : Unit} {S : xSt} {q : ((xSt × Int32) ⊕ (xSt × Unit))} (h : f_X9_readLevel_34 g_X9_readLevel g_X9_readOpened g_X9_readUnit x1 x2 x3 S x4 = some q) (k0 : ∀ t0 : xSt × Unit, q = (.inr t0) → t0 = (S', v')) (k1 : ∀ (S : xSt) (x4 : Int32), q = (.inl (S, x4)) → ∀ (H : Heap) (locs : List Loc) (ls : Array Slot), xG D cy xtb a S s H locs → lv_has ls 6 [(0, .ref (a 2)), (1, .int x1), (2, .int x2), (3, .int x3), (4, .int x4)] → W p l e ({ frames := 2 + (d + 1), cells := 0, slots := 0, locals := 44 + (d + 1) * 25 } : Room) s m args below meth c H locs 0 0 (MQ below (xQv D cy xtb a S' v' s.heap.size) args s 0 0 (xA xtb a s.heap.size)) (F0 m 34 ls [])) {H : Heap} {locs : List Loc} (hG : xG D cy xtb a S s H locs) {ls : Array Slot} (hl : lv_has ls 6 [(0, .ref (a 2)), (1, .int x1), (2, .int x2), (3, .int x3), (4, .int x4)]) : W p l e ({ frames := 2 + (d + 1), cells := 0, slots := 0, locals := 44 + (d + 1) * 25 } : Room) s m args below meth c H locs 0 0 (MQ below (xQv D cy xtb a S' v' s.heap.size) args s 0 0 (xA xtb a s.heap.size)) (F0 m 34 ls []) := by
  have hx := hM.1
  have hb := hM.2.1
  refine lv_iload hx hb dX9_readLevel_34 (lv_at hl 4 rfl) ?_
  refine lv_iload_n hx hb dX9_readLevel_36 rfl (lv_at hl 3 rfl) ?_
  refine x_icmp_ge (tgt := 88) hM h dX9_readLevel_37 (by decide) (fun c_1 h => ?_) (fun c_1 h => ?_)
  · exact x_rv hM hG hr hlk (k0 _ (Option.some.inj h).symm) dX9_readLevel_88
  · refine lv_aload_n hx hb dX9_readLevel_40 rfl (lv_at hl 0 rfl) ?_
    refine x_cVi (As := []) (rest := []) hM hG xml_X9_46 xwi_X9_next xws_X9_next xct_2 (by decide) rfl h (fun S' v e => c_X9_next hM.2.2.2.2.2.2.1 e _) ⟨by show _ ≤ 2 + (d + 1); omega, by show _ ≤ 44 + (d + 1) * 25; omega⟩ rfl hl.1 rfl (Nat.le_of_ble_eq_true rfl) dX9_readLevel_41 (fun S_2 v_3 H locs h hG => ?_)
    refine x_cSi (As := [.int v_3]) (rest := []) hM hG xml_X9_61 xwt_X9_levelOf h (fun S' v e => c_X9_levelOf hM.2.2.2.2.2.2.1 e _) ⟨by show _ ≤ 2 + (d + 1); omega, by show _ ≤ 44 + (d + 1) * 25; omega⟩ rfl hl.1 rfl (Nat.le_of_ble_eq_true rfl) dX9_readLevel_44 (fun S_4 v_5 H locs h hG => ?_)
    refine lv_iload_n hx hb dX9_readLevel_47 rfl (lv_at hl 1 rfl) ?_
    refine x_icmp_ne (tgt := 88) hM h dX9_readLevel_48 (by decide) (fun c_6 h => ?_) (fun c_6 h => ?_)
    · exact x_rv hM hG hr hlk (k0 _ (Option.some.inj h).symm) dX9_readLevel_88
    · refine lv_aload_n hx hb dX9_readLevel_51 rfl (lv_at hl 0 rfl) ?_
      refine x_cVi (As := []) (rest := []) hM hG xml_X9_46 xwi_X9_next xws_X9_next xct_2 (by decide) rfl h (fun S' v e => c_X9_next hM.2.2.2.2.2.2.1 e _) ⟨by show _ ≤ 2 + (d + 1); omega, by show _ ≤ 44 + (d + 1) * 25; omega⟩ rfl hl.1 rfl (Nat.le_of_ble_eq_true rfl) dX9_readLevel_52 (fun S_7 v_8 H locs h hG => ?_)
      refine lv_istore (lv' := [(5, .int v_8), (0, .ref (a 2)), (1, .int x1), (2, .int x2), (3, .int x3), (4, .int x4)]) hx hb dX9_readLevel_55 hl (by decide) rfl (fun ls hl => ?_)
      refine lv_aload_n hx hb dX9_readLevel_57 rfl (lv_at hl 1 rfl) ?_
      refine lv_dup hx hb dX9_readLevel_58 rfl ?_
      refine x_gi hM hG xfl_X9_37 xct_2 (by decide) rfl h dX9_readLevel_59 (fun v_9 h => ?_)
      refine lv_iconst (v := (1 : Int32)) hx hb dX9_readLevel_62 (by decide) ?_
      refine x_iadd hM h dX9_readLevel_63 (fun v_10 h => ?_)
      refine x_pi hM hG xfl_X9_37 xfp_X9_8 xct_2 (by decide) rfl rfl rfl h dX9_readLevel_64 (fun S_11 H locs h hG => ?_)
      refine lv_aload_n hx hb dX9_readLevel_67 rfl (lv_at hl 1 rfl) ?_
      refine lv_iload_n hx hb dX9_readLevel_68 rfl (lv_at hl 2 rfl) ?_
      refine lv_iconst (v := (1 : Int32)) hx hb dX9_readLevel_69 (by decide) ?_
      refine x_iadd hM h dX9_readLevel_70 (fun v_12 h => ?_)
      refine lv_iload_n hx hb dX9_readLevel_71 rfl (lv_at hl 3 rfl) ?_
      refine x_cVv (As := [.int v_12, .int x2]) (rest := []) hM hG xml_X9_53 xwi_X9_readLevel xws_X9_readLevel xct_2 (by decide) rfl h (fun S' v e => hg_X9_readLevel _ _ _ _ _ e _) ⟨by show _ ≤ 2 + (d + 1); omega, by show _ ≤ 44 + (d + 1) * 25; omega⟩ rfl hl.1 rfl (Nat.le_of_ble_eq_true rfl) dX9_readLevel_72 (fun S_13 v_14 H locs h hG => ?_)
      refine lv_aload_n hx hb dX9_readLevel_75 rfl (lv_at hl 1 rfl) ?_
      refine lv_iload hx hb dX9_readLevel_76 (lv_at hl 0 rfl) ?_
      refine lv_iconst (v := (0 : Int32)) hx hb dX9_readLevel_78 (by decide) ?_
      refine x_cVv (As := [.int v_8, .int (0 : Int32)]) (rest := []) hM hG xml_X9_65 xwi_X9_emit xws_X9_emit xct_2 (by decide) rfl h (fun S' v e => c_X9_emit hM.2.2.2.2.2.2.1 e _) ⟨by show _ ≤ 2 + (d + 1); omega, by show _ ≤ 44 + (d + 1) * 25; omega⟩ rfl hl.1 rfl (Nat.le_of_ble_eq_true rfl) dX9_readLevel_79 (fun S_15 v_16 H locs h hG => ?_)
      refine x_iinc hM (fun v => [(4, .int v), (5, .int v_8), (0, .ref (a 2)), (1, .int x1), (2, .int x2), (3, .int x3)]) h dX9_readLevel_82 hl (k := 5) rfl (by decide) (by decide) (fun _ => rfl) (fun v_17 ls h hl => ?_)
      refine lv_goto (tgt := 34) hx hb dX9_readLevel_85 (by decide) ?_
      exact k1 _ _ (Option.some.inj h).symm _ _ _ hG (lv_sub hl [2, 3, 4, 5, 0] rfl)
theorem wl_X9_readLevel_34 {d : Nat} {g_X9_readLevel : xSt → Int32 → Int32 → Option (xSt × Unit)} {g_X9_readOpened : xSt → Int32 → Int32 → Option (xSt × Unit)} {g_X9_readUnit : xSt → Int32 → Option (xSt × Unit)} (hg_X9_readLevel : ∀ (S : xSt) (x1 : Int32) (x2 : Int32) (S' : xSt) (v' : Unit), g_X9_readLevel S x1 x2 = some (S', v') → ∀ sz : Nat, Met l yX9_readLevel (Cond.code yX9_readLevel cX9_readLevel 6 none :: xTB) ({ frames := 2 + d, cells := 0, slots := 0, locals := 44 + d * 25 } : Room) (va_Pc [.ref (a 2), .int x1, .int x2] (xPre D cy xtb a z S sz)) (xQv D cy xtb a S' v' sz) 0 0 (xA xtb a sz)) (hg_X9_readOpened : ∀ (S : xSt) (x1 : Int32) (x2 : Int32) (S' : xSt) (v' : Unit), g_X9_readOpened S x1 x2 = some (S', v') → ∀ sz : Nat, Met l yX9_readOpened (Cond.code yX9_readOpened cX9_readOpened 3 none :: xTB) ({ frames := 2 + d, cells := 0, slots := 0, locals := 44 + d * 25 } : Room) (va_Pc [.ref (a 2), .int x1, .int x2] (xPre D cy xtb a z S sz)) (xQv D cy xtb a S' v' sz) 0 0 (xA xtb a sz)) (hg_X9_readUnit : ∀ (S : xSt) (x1 : Int32) (S' : xSt) (v' : Unit), g_X9_readUnit S x1 = some (S', v') → ∀ sz : Nat, Met l yX9_readUnit (Cond.code yX9_readUnit cX9_readUnit 4 none :: xTB) ({ frames := 2 + d, cells := 0, slots := 0, locals := 44 + d * 25 } : Room) (va_Pc [.ref (a 2), .int x1] (xPre D cy xtb a z S sz)) (xQv D cy xtb a S' v' sz) 0 0 (xA xtb a sz)) {x1 : Int32} {x2 : Int32} {x3 : Int32} (hM : xM p c cX9_readLevel m s args RX9 6 D cy xtb a z) (hr : meth.sig.returnType = none) (hlk : meth.locks = false) {S' : xSt} {v' : Unit} {q : (xSt × Unit)} (k0 : ∀ t0 : xSt × Unit, q = t0 → t0 = (S', v')) (n : Nat) : ∀ (S : xSt) (x4 : Int32) (H : Heap) (locs : List Loc) (ls : Array Slot), xlp (fun q : (xSt × Int32) => f_X9_readLevel_34 g_X9_readLevel g_X9_readOpened g_X9_readUnit x1 x2 x3 q.1 q.2) n (S, x4) = some q → xG D cy xtb a S s H locs → lv_has ls 6 [(0, .ref (a 2)), (1, .int x1), (2, .int x2), (3, .int x3), (4, .int x4)] → W p l e ({ frames := 2 + (d + 1), cells := 0, slots := 0, locals := 44 + (d + 1) * 25 } : Room) s m args below meth c H locs 0 0 (MQ below (xQv D cy xtb a S' v' s.heap.size) args s 0 0 (xA xtb a s.heap.size)) (F0 m 34 ls []) := by
  induction n with
  | zero => intro S x4 H locs ls h; exact (xlp_0 h).elim
  | succ n ih =>
    intro S x4 H locs ls h hG hl
    obtain ⟨q1, hq, hc, he⟩ := xlp_at h
    exact w_X9_readLevel_34 hg_X9_readLevel hg_X9_readOpened hg_X9_readUnit hM hr hlk (q := q1) hq (fun t0 e => k0 t0 (he _ e).symm) (fun S x4 e H locs ls hG hl => ih S x4 H locs ls (hc _ e) hG hl) hG hl
set_option maxHeartbeats 4000000 in
set_option maxRecDepth 100000 in
theorem w_X9_readLevel_30 {d : Nat} {g_X9_readLevel : xSt → Int32 → Int32 → Option (xSt × Unit)} {g_X9_readOpened : xSt → Int32 → Int32 → Option (xSt × Unit)} {g_X9_readUnit : xSt → Int32 → Option (xSt × Unit)} (hg_X9_readLevel : ∀ (S : xSt) (x1 : Int32) (x2 : Int32) (S' : xSt) (v' : Unit), g_X9_readLevel S x1 x2 = some (S', v') → ∀ sz : Nat, Met l yX9_readLevel (Cond.code yX9_readLevel cX9_readLevel 6 none :: xTB) ({ frames := 2 + d, cells := 0, slots := 0, locals := 44 + d * 25 } : Room) (va_Pc [.ref (a 2), .int x1, .int x2] (xPre D cy xtb a z S sz)) (xQv D cy xtb a S' v' sz) 0 0 (xA xtb a sz)) (hg_X9_readOpened : ∀ (S : xSt) (x1 : Int32) (x2 : Int32) (S' : xSt) (v' : Unit), g_X9_readOpened S x1 x2 = some (S', v') → ∀ sz : Nat, Met l yX9_readOpened (Cond.code yX9_readOpened cX9_readOpened 3 none :: xTB) ({ frames := 2 + d, cells := 0, slots := 0, locals := 44 + d * 25 } : Room) (va_Pc [.ref (a 2), .int x1, .int x2] (xPre D cy xtb a z S sz)) (xQv D cy xtb a S' v' sz) 0 0 (xA xtb a sz)) (hg_X9_readUnit : ∀ (S : xSt) (x1 : Int32) (S' : xSt) (v' : Unit), g_X9_readUnit S x1 = some (S', v') → ∀ sz : Nat, Met l yX9_readUnit (Cond.code yX9_readUnit cX9_readUnit 4 none :: xTB) ({ frames := 2 + d, cells := 0, slots := 0, locals := 44 + d * 25 } : Room) (va_Pc [.ref (a 2), .int x1] (xPre D cy xtb a z S sz)) (xQv D cy xtb a S' v' sz) 0 0 (xA xtb a sz)) {x1 : Int32} {x2 : Int32} {y0 : Int32} (hM : xM p c cX9_readLevel m s args RX9 6 D cy xtb a z) (hr : meth.sig.returnType = none) (hlk : meth.locks = false) {S' : xSt} {v' : Unit} {S : xSt} {q : (xSt × Unit)} (h : f_X9_readLevel_30 g_X9_readLevel g_X9_readOpened g_X9_readUnit x1 x2 y0 S = some q) (k0 : ∀ t0 : xSt × Unit, q = t0 → t0 = (S', v')) {H : Heap} {locs : List Loc} (hG : xG D cy xtb a S s H locs) {ls : Array Slot} (hl : lv_has ls 6 [(0, .ref (a 2)), (1, .int x1), (2, .int x2)]) : W p l e ({ frames := 2 + (d + 1), cells := 0, slots := 0, locals := 44 + (d + 1) * 25 } : Room) s m args below meth c H locs 0 0 (MQ below (xQv D cy xtb a S' v' s.heap.size) args s 0 0 (xA xtb a s.heap.size)) (F0 m 30 ls [.int y0]) := by
  have hx := hM.1
  have hb := hM.2.1
  refine lv_istore_n (lv' := [(3, .int y0), (0, .ref (a 2)), (1, .int x1), (2, .int x2)]) hx hb dX9_readLevel_30 rfl hl (by decide) rfl (fun ls hl => ?_)
  refine lv_iconst (v := (0 : Int32)) hx hb dX9_readLevel_31 (by decide) ?_
  refine lv_istore (lv' := [(4, .int (0 : Int32)), (3, .int y0), (0, .ref (a 2)), (1, .int x1), (2, .int x2)]) hx hb dX9_readLevel_32 hl (by decide) rfl (fun ls hl => ?_)
  exact wl_X9_readLevel_34 hg_X9_readLevel hg_X9_readOpened hg_X9_readUnit hM hr hlk (fun t0 e => k0 t0 e) 5000 _ _ _ _ _ h hG (lv_sub hl [2, 3, 4, 1, 0] rfl)
set_option maxHeartbeats 4000000 in
set_option maxRecDepth 100000 in
theorem w_X9_readLevel_0 {d : Nat} {g_X9_readLevel : xSt → Int32 → Int32 → Option (xSt × Unit)} {g_X9_readOpened : xSt → Int32 → Int32 → Option (xSt × Unit)} {g_X9_readUnit : xSt → Int32 → Option (xSt × Unit)} (hg_X9_readLevel : ∀ (S : xSt) (x1 : Int32) (x2 : Int32) (S' : xSt) (v' : Unit), g_X9_readLevel S x1 x2 = some (S', v') → ∀ sz : Nat, Met l yX9_readLevel (Cond.code yX9_readLevel cX9_readLevel 6 none :: xTB) ({ frames := 2 + d, cells := 0, slots := 0, locals := 44 + d * 25 } : Room) (va_Pc [.ref (a 2), .int x1, .int x2] (xPre D cy xtb a z S sz)) (xQv D cy xtb a S' v' sz) 0 0 (xA xtb a sz)) (hg_X9_readOpened : ∀ (S : xSt) (x1 : Int32) (x2 : Int32) (S' : xSt) (v' : Unit), g_X9_readOpened S x1 x2 = some (S', v') → ∀ sz : Nat, Met l yX9_readOpened (Cond.code yX9_readOpened cX9_readOpened 3 none :: xTB) ({ frames := 2 + d, cells := 0, slots := 0, locals := 44 + d * 25 } : Room) (va_Pc [.ref (a 2), .int x1, .int x2] (xPre D cy xtb a z S sz)) (xQv D cy xtb a S' v' sz) 0 0 (xA xtb a sz)) (hg_X9_readUnit : ∀ (S : xSt) (x1 : Int32) (S' : xSt) (v' : Unit), g_X9_readUnit S x1 = some (S', v') → ∀ sz : Nat, Met l yX9_readUnit (Cond.code yX9_readUnit cX9_readUnit 4 none :: xTB) ({ frames := 2 + d, cells := 0, slots := 0, locals := 44 + d * 25 } : Room) (va_Pc [.ref (a 2), .int x1] (xPre D cy xtb a z S sz)) (xQv D cy xtb a S' v' sz) 0 0 (xA xtb a sz)) {x1 : Int32} {x2 : Int32} (hM : xM p c cX9_readLevel m s args RX9 6 D cy xtb a z) (hr : meth.sig.returnType = none) (hlk : meth.locks = false) {S' : xSt} {v' : Unit} {S : xSt} {q : (xSt × Unit)} (h : f_X9_readLevel_0 g_X9_readLevel g_X9_readOpened g_X9_readUnit x1 x2 S = some q) (k0 : ∀ t0 : xSt × Unit, q = t0 → t0 = (S', v')) {H : Heap} {locs : List Loc} (hG : xG D cy xtb a S s H locs) {ls : Array Slot} (hl : lv_has ls 6 [(0, .ref (a 2)), (1, .int x1), (2, .int x2)]) : W p l e ({ frames := 2 + (d + 1), cells := 0, slots := 0, locals := 44 + (d + 1) * 25 } : Room) s m args below meth c H locs 0 0 (MQ below (xQv D cy xtb a S' v' s.heap.size) args s 0 0 (xA xtb a s.heap.size)) (F0 m 0 ls []) := by
  have hx := hM.1
  have hb := hM.2.1
  refine lv_iload_n hx hb dX9_readLevel_0 rfl (lv_at hl 1 rfl) ?_
  refine lv_iconst (v := (5 : Int32)) hx hb dX9_readLevel_1 (by decide) ?_
  refine x_icmp_lt (tgt := 11) hM h dX9_readLevel_2 (by decide) (fun c_1 h => ?_) (fun c_1 h => ?_)
  · refine lv_aload_n hx hb dX9_readLevel_11 rfl (lv_at hl 0 rfl) ?_
    refine lv_iload_n hx hb dX9_readLevel_12 rfl (lv_at hl 1 rfl) ?_
    refine lv_iconst (v := (1 : Int32)) hx hb dX9_readLevel_13 (by decide) ?_
    refine x_iadd hM h dX9_readLevel_14 (fun v_2 h => ?_)
    refine lv_iload_n hx hb dX9_readLevel_15 rfl (lv_at hl 2 rfl) ?_
    refine x_cVv (As := [.int v_2, .int x2]) (rest := []) hM hG xml_X9_53 xwi_X9_readLevel xws_X9_readLevel xct_2 (by decide) rfl h (fun S' v e => hg_X9_readLevel _ _ _ _ _ e _) ⟨by show _ ≤ 2 + (d + 1); omega, by show _ ≤ 44 + (d + 1) * 25; omega⟩ rfl hl.1 rfl (Nat.le_of_ble_eq_true rfl) dX9_readLevel_16 (fun S_3 v_4 H locs h hG => ?_)
    refine lv_iload_n hx hb dX9_readLevel_19 rfl (lv_at hl 1 rfl) ?_
    refine lv_iconst (v := (2 : Int32)) hx hb dX9_readLevel_20 (by decide) ?_
    refine x_icmp_ne (tgt := 28) hM h dX9_readLevel_21 (by decide) (fun c_5 h => ?_) (fun c_5 h => ?_)
    · refine lv_bipush (v := (120 : Int32)) hx hb dX9_readLevel_28 (by decide) ?_
      exact w_X9_readLevel_30 hg_X9_readLevel hg_X9_readOpened hg_X9_readUnit hM hr hlk h (fun t0 e => k0 t0 e) hG (lv_sub hl [0, 1, 2] rfl)
    · refine lv_iconst (v := (1 : Int32)) hx hb dX9_readLevel_24 (by decide) ?_
      refine lv_goto (tgt := 30) hx hb dX9_readLevel_25 (by decide) ?_
      exact w_X9_readLevel_30 hg_X9_readLevel hg_X9_readOpened hg_X9_readUnit hM hr hlk h (fun t0 e => k0 t0 e) hG (lv_sub hl [0, 1, 2] rfl)
  · refine lv_aload_n hx hb dX9_readLevel_5 rfl (lv_at hl 0 rfl) ?_
    refine lv_iload_n hx hb dX9_readLevel_6 rfl (lv_at hl 2 rfl) ?_
    refine x_cVv (As := [.int x2]) (rest := []) hM hG xml_X9_57 xwi_X9_readUnit xws_X9_readUnit xct_2 (by decide) rfl h (fun S' v e => hg_X9_readUnit _ _ _ _ e _) ⟨by show _ ≤ 2 + (d + 1); omega, by show _ ≤ 44 + (d + 1) * 25; omega⟩ rfl hl.1 rfl (Nat.le_of_ble_eq_true rfl) dX9_readLevel_7 (fun S_6 v_7 H locs h hG => ?_)
    exact x_rv hM hG hr hlk (k0 _ (Option.some.inj h).symm) dX9_readLevel_10
set_option maxHeartbeats 4000000 in
set_option maxRecDepth 100000 in
theorem w_X9_readOpened_60 {d : Nat} {g_X9_readLevel : xSt → Int32 → Int32 → Option (xSt × Unit)} {g_X9_readOpened : xSt → Int32 → Int32 → Option (xSt × Unit)} {g_X9_readUnit : xSt → Int32 → Option (xSt × Unit)} (hg_X9_readLevel : ∀ (S : xSt) (x1 : Int32) (x2 : Int32) (S' : xSt) (v' : Unit), g_X9_readLevel S x1 x2 = some (S', v') → ∀ sz : Nat, Met l yX9_readLevel (Cond.code yX9_readLevel cX9_readLevel 6 none :: xTB) ({ frames := 2 + d, cells := 0, slots := 0, locals := 44 + d * 25 } : Room) (va_Pc [.ref (a 2), .int x1, .int x2] (xPre D cy xtb a z S sz)) (xQv D cy xtb a S' v' sz) 0 0 (xA xtb a sz)) (hg_X9_readOpened : ∀ (S : xSt) (x1 : Int32) (x2 : Int32) (S' : xSt) (v' : Unit), g_X9_readOpened S x1 x2 = some (S', v') → ∀ sz : Nat, Met l yX9_readOpened (Cond.code yX9_readOpened cX9_readOpened 3 none :: xTB) ({ frames := 2 + d, cells := 0, slots := 0, locals := 44 + d * 25 } : Room) (va_Pc [.ref (a 2), .int x1, .int x2] (xPre D cy xtb a z S sz)) (xQv D cy xtb a S' v' sz) 0 0 (xA xtb a sz)) (hg_X9_readUnit : ∀ (S : xSt) (x1 : Int32) (S' : xSt) (v' : Unit), g_X9_readUnit S x1 = some (S', v') → ∀ sz : Nat, Met l yX9_readUnit (Cond.code yX9_readUnit cX9_readUnit 4 none :: xTB) ({ frames := 2 + d, cells := 0, slots := 0, locals := 44 + d * 25 } : Room) (va_Pc [.ref (a 2), .int x1] (xPre D cy xtb a z S sz)) (xQv D cy xtb a S' v' sz) 0 0 (xA xtb a sz)) {y1 : Int32} (hM : xM p c cX9_readOpened m s args RX9 3 D cy xtb a z) (hr : meth.sig.returnType = none) (hlk : meth.locks = false) {S' : xSt} {v' : Unit} {S : xSt} {q : (xSt × Unit)} (h : f_X9_readOpened_60 g_X9_readLevel g_X9_readOpened g_X9_readUnit y1 S = some q) (k0 : ∀ t0 : xSt × Unit, q = t0 → t0 = (S', v')) {H : Heap} {locs : List Loc} (hG : xG D cy xtb a S s H locs) {ls : Array Slot} (hl : lv_has ls 3 []) : W p l e ({ frames := 2 + (d + 1), cells := 0, slots := 0, locals := 44 + (d + 1) * 25 } : Room) s m args below meth c H locs 0 0 (MQ below (xQv D cy xtb a S' v' s.heap.size) args s 0 0 (xA xtb a s.heap.size)) (F0 m 60 ls [.int y1, .ref (a 2)]) := by
  have hx := hM.1
  have hb := hM.2.1
  refine lv_iconst (v := (0 : Int32)) hx hb dX9_readOpened_60 (by decide) ?_
  refine x_cVv (As := [.int y1, .int (0 : Int32)]) (rest := []) hM hG xml_X9_65 xwi_X9_emit xws_X9_emit xct_2 (by decide) rfl h (fun S' v e => c_X9_emit hM.2.2.2.2.2.2.1 e _) ⟨by show _ ≤ 2 + (d + 1); omega, by show _ ≤ 44 + (d + 1) * 25; omega⟩ rfl hl.1 rfl (Nat.le_of_ble_eq_true rfl) dX9_readOpened_61 (fun S_1 v_2 H locs h hG => ?_)
  exact x_rv hM hG hr hlk (k0 _ (Option.some.inj h).symm) dX9_readOpened_64
set_option maxHeartbeats 4000000 in
set_option maxRecDepth 100000 in
theorem w_X9_readOpened_0 {d : Nat} {g_X9_readLevel : xSt → Int32 → Int32 → Option (xSt × Unit)} {g_X9_readOpened : xSt → Int32 → Int32 → Option (xSt × Unit)} {g_X9_readUnit : xSt → Int32 → Option (xSt × Unit)} (hg_X9_readLevel : ∀ (S : xSt) (x1 : Int32) (x2 : Int32) (S' : xSt) (v' : Unit), g_X9_readLevel S x1 x2 = some (S', v') → ∀ sz : Nat, Met l yX9_readLevel (Cond.code yX9_readLevel cX9_readLevel 6 none :: xTB) ({ frames := 2 + d, cells := 0, slots := 0, locals := 44 + d * 25 } : Room) (va_Pc [.ref (a 2), .int x1, .int x2] (xPre D cy xtb a z S sz)) (xQv D cy xtb a S' v' sz) 0 0 (xA xtb a sz)) (hg_X9_readOpened : ∀ (S : xSt) (x1 : Int32) (x2 : Int32) (S' : xSt) (v' : Unit), g_X9_readOpened S x1 x2 = some (S', v') → ∀ sz : Nat, Met l yX9_readOpened (Cond.code yX9_readOpened cX9_readOpened 3 none :: xTB) ({ frames := 2 + d, cells := 0, slots := 0, locals := 44 + d * 25 } : Room) (va_Pc [.ref (a 2), .int x1, .int x2] (xPre D cy xtb a z S sz)) (xQv D cy xtb a S' v' sz) 0 0 (xA xtb a sz)) (hg_X9_readUnit : ∀ (S : xSt) (x1 : Int32) (S' : xSt) (v' : Unit), g_X9_readUnit S x1 = some (S', v') → ∀ sz : Nat, Met l yX9_readUnit (Cond.code yX9_readUnit cX9_readUnit 4 none :: xTB) ({ frames := 2 + d, cells := 0, slots := 0, locals := 44 + d * 25 } : Room) (va_Pc [.ref (a 2), .int x1] (xPre D cy xtb a z S sz)) (xQv D cy xtb a S' v' sz) 0 0 (xA xtb a sz)) {x1 : Int32} {x2 : Int32} (hM : xM p c cX9_readOpened m s args RX9 3 D cy xtb a z) (hr : meth.sig.returnType = none) (hlk : meth.locks = false) {S' : xSt} {v' : Unit} {S : xSt} {q : (xSt × Unit)} (h : f_X9_readOpened_0 g_X9_readLevel g_X9_readOpened g_X9_readUnit x1 x2 S = some q) (k0 : ∀ t0 : xSt × Unit, q = t0 → t0 = (S', v')) {H : Heap} {locs : List Loc} (hG : xG D cy xtb a S s H locs) {ls : Array Slot} (hl : lv_has ls 3 [(0, .ref (a 2)), (1, .int x1), (2, .int x2)]) : W p l e ({ frames := 2 + (d + 1), cells := 0, slots := 0, locals := 44 + (d + 1) * 25 } : Room) s m args below meth c H locs 0 0 (MQ below (xQv D cy xtb a S' v' s.heap.size) args s 0 0 (xA xtb a s.heap.size)) (F0 m 0 ls []) := by
  have hx := hM.1
  have hb := hM.2.1
  refine lv_iload_n hx hb dX9_readOpened_0 rfl (lv_at hl 1 rfl) ?_
  refine lv_bipush (v := (40 : Int32)) hx hb dX9_readOpened_1 (by decide) ?_
  refine x_icmp_ne (tgt := 41) hM h dX9_readOpened_3 (by decide) (fun c_1 h => ?_) (fun c_1 h => ?_)
  · refine lv_aload_n hx hb dX9_readOpened_41 rfl (lv_at hl 0 rfl) ?_
    refine lv_iload_n hx hb dX9_readOpened_42 rfl (lv_at hl 2 rfl) ?_
    refine x_cVv (As := [.int x2]) (rest := []) hM hG xml_X9_57 xwi_X9_readUnit xws_X9_readUnit xct_2 (by decide) rfl h (fun S' v e => hg_X9_readUnit _ _ _ _ e _) ⟨by show _ ≤ 2 + (d + 1); omega, by show _ ≤ 44 + (d + 1) * 25; omega⟩ rfl hl.1 rfl (Nat.le_of_ble_eq_true rfl) dX9_readOpened_43 (fun S_2 v_3 H locs h hG => ?_)
    refine lv_aload_n hx hb dX9_readOpened_46 rfl (lv_at hl 0 rfl) ?_
    refine lv_iload_n hx hb dX9_readOpened_47 rfl (lv_at hl 1 rfl) ?_
    refine lv_bipush (v := (33 : Int32)) hx hb dX9_readOpened_48 (by decide) ?_
    refine x_icmp_ne (tgt := 58) hM h dX9_readOpened_50 (by decide) (fun c_4 h => ?_) (fun c_4 h => ?_)
    · refine lv_bipush (v := (126 : Int32)) hx hb dX9_readOpened_58 (by decide) ?_
      exact w_X9_readOpened_60 hg_X9_readLevel hg_X9_readOpened hg_X9_readUnit hM hr hlk h (fun t0 e => k0 t0 e) hG (lv_sub hl [] rfl)
    · refine lv_bipush (v := (33 : Int32)) hx hb dX9_readOpened_53 (by decide) ?_
      refine lv_goto (tgt := 60) hx hb dX9_readOpened_55 (by decide) ?_
      exact w_X9_readOpened_60 hg_X9_readLevel hg_X9_readOpened hg_X9_readUnit hM hr hlk h (fun t0 e => k0 t0 e) hG (lv_sub hl [] rfl)
  · refine lv_aload_n hx hb dX9_readOpened_6 rfl (lv_at hl 0 rfl) ?_
    refine lv_iconst (v := (0 : Int32)) hx hb dX9_readOpened_7 (by decide) ?_
    refine lv_iload_n hx hb dX9_readOpened_8 rfl (lv_at hl 2 rfl) ?_
    refine x_cVv (As := [.int (0 : Int32), .int x2]) (rest := []) hM hG xml_X9_53 xwi_X9_readLevel xws_X9_readLevel xct_2 (by decide) rfl h (fun S' v e => hg_X9_readLevel _ _ _ _ _ e _) ⟨by show _ ≤ 2 + (d + 1); omega, by show _ ≤ 44 + (d + 1) * 25; omega⟩ rfl hl.1 rfl (Nat.le_of_ble_eq_true rfl) dX9_readOpened_9 (fun S_5 v_6 H locs h hG => ?_)
    refine lv_aload_n hx hb dX9_readOpened_12 rfl (lv_at hl 0 rfl) ?_
    refine x_cVi (As := []) (rest := []) hM hG xml_X9_46 xwi_X9_next xws_X9_next xct_2 (by decide) rfl h (fun S' v e => c_X9_next hM.2.2.2.2.2.2.1 e _) ⟨by show _ ≤ 2 + (d + 1); omega, by show _ ≤ 44 + (d + 1) * 25; omega⟩ rfl hl.1 rfl (Nat.le_of_ble_eq_true rfl) dX9_readOpened_13 (fun S_7 v_8 H locs h hG => ?_)
    refine lv_bipush (v := (41 : Int32)) hx hb dX9_readOpened_16 (by decide) ?_
    refine x_icmp_ne (tgt := 34) hM h dX9_readOpened_18 (by decide) (fun c_9 h => ?_) (fun c_9 h => ?_)
    · refine lv_aload_n hx hb dX9_readOpened_34 rfl (lv_at hl 0 rfl) ?_
      refine x_cVv (As := []) (rest := []) hM hG xml_X9_50 xwi_X9_failHere xws_X9_failHere xct_2 (by decide) rfl h (fun S' v e => c_X9_failHere hM.2.2.2.2.2.2.1 e _) ⟨by show _ ≤ 2 + (d + 1); omega, by show _ ≤ 44 + (d + 1) * 25; omega⟩ rfl hl.1 rfl (Nat.le_of_ble_eq_true rfl) dX9_readOpened_35 (fun S_10 v_11 H locs h hG => ?_)
      refine lv_goto (tgt := 64) hx hb dX9_readOpened_38 (by decide) ?_
      exact x_rv hM hG hr hlk (k0 _ (Option.some.inj h).symm) dX9_readOpened_64
    · refine lv_aload_n hx hb dX9_readOpened_21 rfl (lv_at hl 0 rfl) ?_
      refine lv_dup hx hb dX9_readOpened_22 rfl ?_
      refine x_gi hM hG xfl_X9_37 xct_2 (by decide) rfl h dX9_readOpened_23 (fun v_12 h => ?_)
      refine lv_iconst (v := (1 : Int32)) hx hb dX9_readOpened_26 (by decide) ?_
      refine x_iadd hM h dX9_readOpened_27 (fun v_13 h => ?_)
      refine x_pi hM hG xfl_X9_37 xfp_X9_8 xct_2 (by decide) rfl rfl rfl h dX9_readOpened_28 (fun S_14 H locs h hG => ?_)
      refine lv_goto (tgt := 64) hx hb dX9_readOpened_31 (by decide) ?_
      exact x_rv hM hG hr hlk (k0 _ (Option.some.inj h).symm) dX9_readOpened_64
set_option maxHeartbeats 4000000 in
set_option maxRecDepth 100000 in
theorem w_X9_readUnit_98 {d : Nat} {g_X9_readLevel : xSt → Int32 → Int32 → Option (xSt × Unit)} {g_X9_readOpened : xSt → Int32 → Int32 → Option (xSt × Unit)} {g_X9_readUnit : xSt → Int32 → Option (xSt × Unit)} (hg_X9_readLevel : ∀ (S : xSt) (x1 : Int32) (x2 : Int32) (S' : xSt) (v' : Unit), g_X9_readLevel S x1 x2 = some (S', v') → ∀ sz : Nat, Met l yX9_readLevel (Cond.code yX9_readLevel cX9_readLevel 6 none :: xTB) ({ frames := 2 + d, cells := 0, slots := 0, locals := 44 + d * 25 } : Room) (va_Pc [.ref (a 2), .int x1, .int x2] (xPre D cy xtb a z S sz)) (xQv D cy xtb a S' v' sz) 0 0 (xA xtb a sz)) (hg_X9_readOpened : ∀ (S : xSt) (x1 : Int32) (x2 : Int32) (S' : xSt) (v' : Unit), g_X9_readOpened S x1 x2 = some (S', v') → ∀ sz : Nat, Met l yX9_readOpened (Cond.code yX9_readOpened cX9_readOpened 3 none :: xTB) ({ frames := 2 + d, cells := 0, slots := 0, locals := 44 + d * 25 } : Room) (va_Pc [.ref (a 2), .int x1, .int x2] (xPre D cy xtb a z S sz)) (xQv D cy xtb a S' v' sz) 0 0 (xA xtb a sz)) (hg_X9_readUnit : ∀ (S : xSt) (x1 : Int32) (S' : xSt) (v' : Unit), g_X9_readUnit S x1 = some (S', v') → ∀ sz : Nat, Met l yX9_readUnit (Cond.code yX9_readUnit cX9_readUnit 4 none :: xTB) ({ frames := 2 + d, cells := 0, slots := 0, locals := 44 + d * 25 } : Room) (va_Pc [.ref (a 2), .int x1] (xPre D cy xtb a z S sz)) (xQv D cy xtb a S' v' sz) 0 0 (xA xtb a sz)) (hM : xM p c cX9_readUnit m s args RX9 4 D cy xtb a z) (hr : meth.sig.returnType = none) (hlk : meth.locks = false) {S' : xSt} {v' : Unit} {S : xSt} {q : (xSt × Unit)} (h : f_X9_readUnit_98 g_X9_readLevel g_X9_readOpened g_X9_readUnit S = some q) (k0 : ∀ t0 : xSt × Unit, q = t0 → t0 = (S', v')) {H : Heap} {locs : List Loc} (hG : xG D cy xtb a S s H locs) {ls : Array Slot} (hl : lv_has ls 4 [(0, .ref (a 2))]) : W p l e ({ frames := 2 + (d + 1), cells := 0, slots := 0, locals := 44 + (d + 1) * 25 } : Room) s m args below meth c H locs 0 0 (MQ below (xQv D cy xtb a S' v' s.heap.size) args s 0 0 (xA xtb a s.heap.size)) (F0 m 98 ls []) := by
  have hx := hM.1
  have hb := hM.2.1
  refine lv_aload_n hx hb dX9_readUnit_98 rfl (lv_at hl 0 rfl) ?_
  refine x_cVv (As := []) (rest := []) hM hG xml_X9_50 xwi_X9_failHere xws_X9_failHere xct_2 (by decide) rfl h (fun S' v e => c_X9_failHere hM.2.2.2.2.2.2.1 e _) ⟨by show _ ≤ 2 + (d + 1); omega, by show _ ≤ 44 + (d + 1) * 25; omega⟩ rfl hl.1 rfl (Nat.le_of_ble_eq_true rfl) dX9_readUnit_99 (fun S_1 v_2 H locs h hG => ?_)
  exact x_rv hM hG hr hlk (k0 _ (Option.some.inj h).symm) dX9_readUnit_102
set_option maxHeartbeats 4000000 in
set_option maxRecDepth 100000 in
theorem w_X9_readUnit_71 {d : Nat} {g_X9_readLevel : xSt → Int32 → Int32 → Option (xSt × Unit)} {g_X9_readOpened : xSt → Int32 → Int32 → Option (xSt × Unit)} {g_X9_readUnit : xSt → Int32 → Option (xSt × Unit)} (hg_X9_readLevel : ∀ (S : xSt) (x1 : Int32) (x2 : Int32) (S' : xSt) (v' : Unit), g_X9_readLevel S x1 x2 = some (S', v') → ∀ sz : Nat, Met l yX9_readLevel (Cond.code yX9_readLevel cX9_readLevel 6 none :: xTB) ({ frames := 2 + d, cells := 0, slots := 0, locals := 44 + d * 25 } : Room) (va_Pc [.ref (a 2), .int x1, .int x2] (xPre D cy xtb a z S sz)) (xQv D cy xtb a S' v' sz) 0 0 (xA xtb a sz)) (hg_X9_readOpened : ∀ (S : xSt) (x1 : Int32) (x2 : Int32) (S' : xSt) (v' : Unit), g_X9_readOpened S x1 x2 = some (S', v') → ∀ sz : Nat, Met l yX9_readOpened (Cond.code yX9_readOpened cX9_readOpened 3 none :: xTB) ({ frames := 2 + d, cells := 0, slots := 0, locals := 44 + d * 25 } : Room) (va_Pc [.ref (a 2), .int x1, .int x2] (xPre D cy xtb a z S sz)) (xQv D cy xtb a S' v' sz) 0 0 (xA xtb a sz)) (hg_X9_readUnit : ∀ (S : xSt) (x1 : Int32) (S' : xSt) (v' : Unit), g_X9_readUnit S x1 = some (S', v') → ∀ sz : Nat, Met l yX9_readUnit (Cond.code yX9_readUnit cX9_readUnit 4 none :: xTB) ({ frames := 2 + d, cells := 0, slots := 0, locals := 44 + d * 25 } : Room) (va_Pc [.ref (a 2), .int x1] (xPre D cy xtb a z S sz)) (xQv D cy xtb a S' v' sz) 0 0 (xA xtb a sz)) {x1 : Int32} {x2 : Int32} (hM : xM p c cX9_readUnit m s args RX9 4 D cy xtb a z) (hr : meth.sig.returnType = none) (hlk : meth.locks = false) {S' : xSt} {v' : Unit} {S : xSt} {q : (xSt × Unit)} (h : f_X9_readUnit_71 g_X9_readLevel g_X9_readOpened g_X9_readUnit x1 x2 S = some q) (k0 : ∀ t0 : xSt × Unit, q = t0 → t0 = (S', v')) {H : Heap} {locs : List Loc} (hG : xG D cy xtb a S s H locs) {ls : Array Slot} (hl : lv_has ls 4 [(0, .ref (a 2)), (1, .int x1), (2, .int x2)]) : W p l e ({ frames := 2 + (d + 1), cells := 0, slots := 0, locals := 44 + (d + 1) * 25 } : Room) s m args below meth c H locs 0 0 (MQ below (xQv D cy xtb a S' v' s.heap.size) args s 0 0 (xA xtb a s.heap.size)) (F0 m 71 ls []) := by
  have hx := hM.1
  have hb := hM.2.1
  refine lv_iload_n hx hb dX9_readUnit_71 rfl (lv_at hl 1 rfl) ?_
  refine lv_bipush (v := (6 : Int32)) hx hb dX9_readUnit_72 (by decide) ?_
  refine x_icmp_ge (tgt := 98) hM h dX9_readUnit_74 (by decide) (fun c_1 h => ?_) (fun c_1 h => ?_)
  · exact w_X9_readUnit_98 hg_X9_readLevel hg_X9_readOpened hg_X9_readUnit hM hr hlk h (fun t0 e => k0 t0 e) hG (lv_sub hl [0] rfl)
  · refine lv_aload_n hx hb dX9_readUnit_77 rfl (lv_at hl 0 rfl) ?_
    refine lv_dup hx hb dX9_readUnit_78 rfl ?_
    refine x_gi hM hG xfl_X9_37 xct_2 (by decide) rfl h dX9_readUnit_79 (fun v_2 h => ?_)
    refine lv_iconst (v := (1 : Int32)) hx hb dX9_readUnit_82 (by decide) ?_
    refine x_iadd hM h dX9_readUnit_83 (fun v_3 h => ?_)
    refine x_pi hM hG xfl_X9_37 xfp_X9_8 xct_2 (by decide) rfl rfl rfl h dX9_readUnit_84 (fun S_4 H locs h hG => ?_)
    refine lv_aload_n hx hb dX9_readUnit_87 rfl (lv_at hl 0 rfl) ?_
    refine lv_iload_n hx hb dX9_readUnit_88 rfl (lv_at hl 2 rfl) ?_
    refine lv_iload_n hx hb dX9_readUnit_89 rfl (lv_at hl 1 rfl) ?_
    refine lv_iconst (v := (1 : Int32)) hx hb dX9_readUnit_90 (by decide) ?_
    refine x_iadd hM h dX9_readUnit_91 (fun v_5 h => ?_)
    refine x_cVv (As := [.int x2, .int v_5]) (rest := []) hM hG xml_X9_74 xwi_X9_readOpened xws_X9_readOpened xct_2 (by decide) rfl h (fun S' v e => hg_X9_readOpened _ _ _ _ _ e _) ⟨by show _ ≤ 2 + (d + 1); omega, by show _ ≤ 44 + (d + 1) * 25; omega⟩ rfl hl.1 rfl (Nat.le_of_ble_eq_true rfl) dX9_readUnit_92 (fun S_6 v_7 H locs h hG => ?_)
    refine lv_goto (tgt := 102) hx hb dX9_readUnit_95 (by decide) ?_
    exact x_rv hM hG hr hlk (k0 _ (Option.some.inj h).symm) dX9_readUnit_102
set_option maxHeartbeats 4000000 in
set_option maxRecDepth 100000 in
theorem w_X9_readUnit_29 {d : Nat} {g_X9_readLevel : xSt → Int32 → Int32 → Option (xSt × Unit)} {g_X9_readOpened : xSt → Int32 → Int32 → Option (xSt × Unit)} {g_X9_readUnit : xSt → Int32 → Option (xSt × Unit)} (hg_X9_readLevel : ∀ (S : xSt) (x1 : Int32) (x2 : Int32) (S' : xSt) (v' : Unit), g_X9_readLevel S x1 x2 = some (S', v') → ∀ sz : Nat, Met l yX9_readLevel (Cond.code yX9_readLevel cX9_readLevel 6 none :: xTB) ({ frames := 2 + d, cells := 0, slots := 0, locals := 44 + d * 25 } : Room) (va_Pc [.ref (a 2), .int x1, .int x2] (xPre D cy xtb a z S sz)) (xQv D cy xtb a S' v' sz) 0 0 (xA xtb a sz)) (hg_X9_readOpened : ∀ (S : xSt) (x1 : Int32) (x2 : Int32) (S' : xSt) (v' : Unit), g_X9_readOpened S x1 x2 = some (S', v') → ∀ sz : Nat, Met l yX9_readOpened (Cond.code yX9_readOpened cX9_readOpened 3 none :: xTB) ({ frames := 2 + d, cells := 0, slots := 0, locals := 44 + d * 25 } : Room) (va_Pc [.ref (a 2), .int x1, .int x2] (xPre D cy xtb a z S sz)) (xQv D cy xtb a S' v' sz) 0 0 (xA xtb a sz)) (hg_X9_readUnit : ∀ (S : xSt) (x1 : Int32) (S' : xSt) (v' : Unit), g_X9_readUnit S x1 = some (S', v') → ∀ sz : Nat, Met l yX9_readUnit (Cond.code yX9_readUnit cX9_readUnit 4 none :: xTB) ({ frames := 2 + d, cells := 0, slots := 0, locals := 44 + d * 25 } : Room) (va_Pc [.ref (a 2), .int x1] (xPre D cy xtb a z S sz)) (xQv D cy xtb a S' v' sz) 0 0 (xA xtb a sz)) {x1 : Int32} {x2 : Int32} {x3 : Int32} (hM : xM p c cX9_readUnit m s args RX9 4 D cy xtb a z) (hr : meth.sig.returnType = none) (hlk : meth.locks = false) {S' : xSt} {v' : Unit} {S : xSt} {q : (xSt × Unit)} (h : f_X9_readUnit_29 g_X9_readLevel g_X9_readOpened g_X9_readUnit x1 x2 x3 S = some q) (k0 : ∀ t0 : xSt × Unit, q = t0 → t0 = (S', v')) {H : Heap} {locs : List Loc} (hG : xG D cy xtb a S s H locs) {ls : Array Slot} (hl : lv_has ls 4 [(0, .ref (a 2)), (1, .int x1), (2, .int x2), (3, .int x3)]) : W p l e ({ frames := 2 + (d + 1), cells := 0, slots := 0, locals := 44 + (d + 1) * 25 } : Room) s m args below meth c H locs 0 0 (MQ below (xQv D cy xtb a S' v' s.heap.size) args s 0 0 (xA xtb a s.heap.size)) (F0 m 29 ls []) := by
  have hx := hM.1
  have hb := hM.2.1
  refine lv_iload_n hx hb dX9_readUnit_29 rfl (lv_at hl 3 rfl) ?_
  refine x_if_lt (tgt := 53) hM h dX9_readUnit_30 (by decide) (fun c_1 h => ?_) (fun c_1 h => ?_)
  · refine lv_iload_n hx hb dX9_readUnit_53 rfl (lv_at hl 2 rfl) ?_
    refine lv_bipush (v := (40 : Int32)) hx hb dX9_readUnit_54 (by decide) ?_
    refine x_icmp_eq (tgt := 71) hM h dX9_readUnit_56 (by decide) (fun c_2 h => ?_) (fun c_2 h => ?_)
    · exact w_X9_readUnit_71 hg_X9_readLevel hg_X9_readOpened hg_X9_readUnit hM hr hlk h (fun t0 e => k0 t0 e) hG (lv_sub hl [0, 1, 2] rfl)
    · refine lv_iload_n hx hb dX9_readUnit_59 rfl (lv_at hl 2 rfl) ?_
      refine lv_bipush (v := (33 : Int32)) hx hb dX9_readUnit_60 (by decide) ?_
      refine x_icmp_eq (tgt := 71) hM h dX9_readUnit_62 (by decide) (fun c_3 h => ?_) (fun c_3 h => ?_)
      · exact w_X9_readUnit_71 hg_X9_readLevel hg_X9_readOpened hg_X9_readUnit hM hr hlk h (fun t0 e => k0 t0 e) hG (lv_sub hl [0, 1, 2] rfl)
      · refine lv_iload_n hx hb dX9_readUnit_65 rfl (lv_at hl 2 rfl) ?_
        refine lv_bipush (v := (45 : Int32)) hx hb dX9_readUnit_66 (by decide) ?_
        refine x_icmp_ne (tgt := 98) hM h dX9_readUnit_68 (by decide) (fun c_4 h => ?_) (fun c_4 h => ?_)
        · exact w_X9_readUnit_98 hg_X9_readLevel hg_X9_readOpened hg_X9_readUnit hM hr hlk h (fun t0 e => k0 t0 e) hG (lv_sub hl [0] rfl)
        · exact w_X9_readUnit_71 hg_X9_readLevel hg_X9_readOpened hg_X9_readUnit hM hr hlk h (fun t0 e => k0 t0 e) hG (lv_sub hl [0, 1, 2] rfl)
  · refine lv_aload_n hx hb dX9_readUnit_33 rfl (lv_at hl 0 rfl) ?_
    refine lv_dup hx hb dX9_readUnit_34 rfl ?_
    refine x_gi hM hG xfl_X9_37 xct_2 (by decide) rfl h dX9_readUnit_35 (fun v_5 h => ?_)
    refine lv_iconst (v := (1 : Int32)) hx hb dX9_readUnit_38 (by decide) ?_
    refine x_iadd hM h dX9_readUnit_39 (fun v_6 h => ?_)
    refine x_pi hM hG xfl_X9_37 xfp_X9_8 xct_2 (by decide) rfl rfl rfl h dX9_readUnit_40 (fun S_7 H locs h hG => ?_)
    refine lv_aload_n hx hb dX9_readUnit_43 rfl (lv_at hl 0 rfl) ?_
    refine lv_bipush (v := (64 : Int32)) hx hb dX9_readUnit_44 (by decide) ?_
    refine lv_iload_n hx hb dX9_readUnit_46 rfl (lv_at hl 3 rfl) ?_
    refine x_cVv (As := [.int (64 : Int32), .int x3]) (rest := []) hM hG xml_X9_65 xwi_X9_emit xws_X9_emit xct_2 (by decide) rfl h (fun S' v e => c_X9_emit hM.2.2.2.2.2.2.1 e _) ⟨by show _ ≤ 2 + (d + 1); omega, by show _ ≤ 44 + (d + 1) * 25; omega⟩ rfl hl.1 rfl (Nat.le_of_ble_eq_true rfl) dX9_readUnit_47 (fun S_8 v_9 H locs h hG => ?_)
    refine lv_goto (tgt := 102) hx hb dX9_readUnit_50 (by decide) ?_
    exact x_rv hM hG hr hlk (k0 _ (Option.some.inj h).symm) dX9_readUnit_102
set_option maxHeartbeats 4000000 in
set_option maxRecDepth 100000 in
theorem w_X9_readUnit_0 {d : Nat} {g_X9_readLevel : xSt → Int32 → Int32 → Option (xSt × Unit)} {g_X9_readOpened : xSt → Int32 → Int32 → Option (xSt × Unit)} {g_X9_readUnit : xSt → Int32 → Option (xSt × Unit)} (hg_X9_readLevel : ∀ (S : xSt) (x1 : Int32) (x2 : Int32) (S' : xSt) (v' : Unit), g_X9_readLevel S x1 x2 = some (S', v') → ∀ sz : Nat, Met l yX9_readLevel (Cond.code yX9_readLevel cX9_readLevel 6 none :: xTB) ({ frames := 2 + d, cells := 0, slots := 0, locals := 44 + d * 25 } : Room) (va_Pc [.ref (a 2), .int x1, .int x2] (xPre D cy xtb a z S sz)) (xQv D cy xtb a S' v' sz) 0 0 (xA xtb a sz)) (hg_X9_readOpened : ∀ (S : xSt) (x1 : Int32) (x2 : Int32) (S' : xSt) (v' : Unit), g_X9_readOpened S x1 x2 = some (S', v') → ∀ sz : Nat, Met l yX9_readOpened (Cond.code yX9_readOpened cX9_readOpened 3 none :: xTB) ({ frames := 2 + d, cells := 0, slots := 0, locals := 44 + d * 25 } : Room) (va_Pc [.ref (a 2), .int x1, .int x2] (xPre D cy xtb a z S sz)) (xQv D cy xtb a S' v' sz) 0 0 (xA xtb a sz)) (hg_X9_readUnit : ∀ (S : xSt) (x1 : Int32) (S' : xSt) (v' : Unit), g_X9_readUnit S x1 = some (S', v') → ∀ sz : Nat, Met l yX9_readUnit (Cond.code yX9_readUnit cX9_readUnit 4 none :: xTB) ({ frames := 2 + d, cells := 0, slots := 0, locals := 44 + d * 25 } : Room) (va_Pc [.ref (a 2), .int x1] (xPre D cy xtb a z S sz)) (xQv D cy xtb a S' v' sz) 0 0 (xA xtb a sz)) {x1 : Int32} (hM : xM p c cX9_readUnit m s args RX9 4 D cy xtb a z) (hr : meth.sig.returnType = none) (hlk : meth.locks = false) {S' : xSt} {v' : Unit} {S : xSt} {q : (xSt × Unit)} (h : f_X9_readUnit_0 g_X9_readLevel g_X9_readOpened g_X9_readUnit x1 S = some q) (k0 : ∀ t0 : xSt × Unit, q = t0 → t0 = (S', v')) {H : Heap} {locs : List Loc} (hG : xG D cy xtb a S s H locs) {ls : Array Slot} (hl : lv_has ls 4 [(0, .ref (a 2)), (1, .int x1)]) : W p l e ({ frames := 2 + (d + 1), cells := 0, slots := 0, locals := 44 + (d + 1) * 25 } : Room) s m args below meth c H locs 0 0 (MQ below (xQv D cy xtb a S' v' s.heap.size) args s 0 0 (xA xtb a s.heap.size)) (F0 m 0 ls []) := by
  have hx := hM.1
  have hb := hM.2.1
  refine lv_aload_n hx hb dX9_readUnit_0 rfl (lv_at hl 0 rfl) ?_
  refine x_cVi (As := []) (rest := []) hM hG xml_X9_46 xwi_X9_next xws_X9_next xct_2 (by decide) rfl h (fun S' v e => c_X9_next hM.2.2.2.2.2.2.1 e _) ⟨by show _ ≤ 2 + (d + 1); omega, by show _ ≤ 44 + (d + 1) * 25; omega⟩ rfl hl.1 rfl (Nat.le_of_ble_eq_true rfl) dX9_readUnit_1 (fun S_1 v_2 H locs h hG => ?_)
  refine lv_istore_n (lv' := [(2, .int v_2), (0, .ref (a 2)), (1, .int x1)]) hx hb dX9_readUnit_4 rfl hl (by decide) rfl (fun ls hl => ?_)
  refine lv_iload_n hx hb dX9_readUnit_5 rfl (lv_at hl 0 rfl) ?_
  refine x_cSi (As := [.int v_2]) (rest := []) hM hG xml_X9_68 xwt_X9_nameOf h (fun S' v e => c_X9_nameOf hM.2.2.2.2.2.2.1 e _) ⟨by show _ ≤ 2 + (d + 1); omega, by show _ ≤ 44 + (d + 1) * 25; omega⟩ rfl hl.1 rfl (Nat.le_of_ble_eq_true rfl) dX9_readUnit_6 (fun S_3 v_4 H locs h hG => ?_)
  refine lv_istore_n (lv' := [(3, .int v_4), (2, .int v_2), (0, .ref (a 2)), (1, .int x1)]) hx hb dX9_readUnit_9 rfl hl (by decide) rfl (fun ls hl => ?_)
  refine lv_iload_n hx hb dX9_readUnit_10 rfl (lv_at hl 1 rfl) ?_
  refine lv_bipush (v := (48 : Int32)) hx hb dX9_readUnit_11 (by decide) ?_
  refine x_icmp_lt (tgt := 29) hM h dX9_readUnit_13 (by decide) (fun c_5 h => ?_) (fun c_5 h => ?_)
  · exact w_X9_readUnit_29 hg_X9_readLevel hg_X9_readOpened hg_X9_readUnit hM hr hlk h (fun t0 e => k0 t0 e) hG (lv_sub hl [2, 3, 1, 0] rfl)
  · refine lv_iload_n hx hb dX9_readUnit_16 rfl (lv_at hl 1 rfl) ?_
    refine lv_bipush (v := (57 : Int32)) hx hb dX9_readUnit_17 (by decide) ?_
    refine x_icmp_gt (tgt := 29) hM h dX9_readUnit_19 (by decide) (fun c_6 h => ?_) (fun c_6 h => ?_)
    · exact w_X9_readUnit_29 hg_X9_readLevel hg_X9_readOpened hg_X9_readUnit hM hr hlk h (fun t0 e => k0 t0 e) hG (lv_sub hl [2, 3, 1, 0] rfl)
    · refine lv_aload_n hx hb dX9_readUnit_22 rfl (lv_at hl 2 rfl) ?_
      refine x_cVv (As := []) (rest := []) hM hG xml_X9_71 xwi_X9_readNumber xws_X9_readNumber xct_2 (by decide) rfl h (fun S' v e => c_X9_readNumber hM.2.2.2.2.2.2.1 e _) ⟨by show _ ≤ 2 + (d + 1); omega, by show _ ≤ 44 + (d + 1) * 25; omega⟩ rfl hl.1 rfl (Nat.le_of_ble_eq_true rfl) dX9_readUnit_23 (fun S_7 v_8 H locs h hG => ?_)
      refine lv_goto (tgt := 102) hx hb dX9_readUnit_26 (by decide) ?_
      exact x_rv hM hG hr hlk (k0 _ (Option.some.inj h).symm) dX9_readUnit_102
set_option maxHeartbeats 4000000 in
set_option maxRecDepth 100000 in
theorem cr_F_X9_readLevel {l : Launch} {D : va_G} {cy : Nat → ClassId} {a z : Nat → Nat} (hI : xI xtb a) : ∀ d : Nat, (∀ (S : xSt) (x1 : Int32) (x2 : Int32) (S' : xSt) (v' : Unit), f_X9_readLevel d S x1 x2 = some (S', v') → ∀ sz : Nat, Met l yX9_readLevel (Cond.code yX9_readLevel cX9_readLevel 6 none :: xTB) ({ frames := 2 + d, cells := 0, slots := 0, locals := 44 + d * 25 } : Room) (va_Pc [.ref (a 2), .int x1, .int x2] (xPre D cy xtb a z S sz)) (xQv D cy xtb a S' v' sz) 0 0 (xA xtb a sz)) ∧ (∀ (S : xSt) (x1 : Int32) (x2 : Int32) (S' : xSt) (v' : Unit), f_X9_readOpened d S x1 x2 = some (S', v') → ∀ sz : Nat, Met l yX9_readOpened (Cond.code yX9_readOpened cX9_readOpened 3 none :: xTB) ({ frames := 2 + d, cells := 0, slots := 0, locals := 44 + d * 25 } : Room) (va_Pc [.ref (a 2), .int x1, .int x2] (xPre D cy xtb a z S sz)) (xQv D cy xtb a S' v' sz) 0 0 (xA xtb a sz)) ∧ (∀ (S : xSt) (x1 : Int32) (S' : xSt) (v' : Unit), f_X9_readUnit d S x1 = some (S', v') → ∀ sz : Nat, Met l yX9_readUnit (Cond.code yX9_readUnit cX9_readUnit 4 none :: xTB) ({ frames := 2 + d, cells := 0, slots := 0, locals := 44 + d * 25 } : Room) (va_Pc [.ref (a 2), .int x1] (xPre D cy xtb a z S sz)) (xQv D cy xtb a S' v' sz) 0 0 (xA xtb a sz)) := by
  intro d
  induction d with
  | zero => exact ⟨(fun _ _ _ _ _ h => by cases h), (fun _ _ _ _ _ h => by cases h), (fun _ _ _ _ h => by cases h)⟩
  | succ d ih =>
    obtain ⟨ih0, ih1, ih2⟩ := ih
    refine ⟨?_, ?_, ?_⟩
    · intro S x1 x2 S' v' hf sz
      refine Met.ofW (cc := cX9_readLevel) (maxL := 6) (ret := none) (by decide) rfl ?_
      intro p e s m args below meth c s₁ B hml hv
      obtain ⟨rfl, hsz, hP, hK, hE⟩ := hv
      subst hsz
      have hl := lv_entry ([.ref (a 2), .int x1, .int x2]) (n := 6) (Nat.le_of_ble_eq_true rfl)
      rw [lg_entry_eq]
      generalize (lg_sl ([.ref (a 2), .int x1, .int x2]) ++ List.replicate (6 - (lg_sl ([.ref (a 2), .int x1, .int x2])).length) Slot.unset).toArray = ls at hl ⊢
      have hl : lv_has ls 6 [(0, .ref (a 2)), (1, .int x1), (2, .int x2)] := hl
      exact w_X9_readLevel_0 ih0 ih1 ih2 ⟨B.exec, B.bytes, hml, findClass_of_methodNamed B.named, fun w hw => atoms_spec (ws := Cond.code yX9_readLevel cX9_readLevel 6 none :: xTB) B.pre w (List.mem_cons_of_mem _ hw), hK, hI, hE⟩ B.returns B.notSynchronized hf (fun t0 e => e.symm) ⟨hP, va_S.rf⟩ (lv_sub hl [0, 1, 2] rfl)
    · intro S x1 x2 S' v' hf sz
      refine Met.ofW (cc := cX9_readOpened) (maxL := 3) (ret := none) (by decide) rfl ?_
      intro p e s m args below meth c s₁ B hml hv
      obtain ⟨rfl, hsz, hP, hK, hE⟩ := hv
      subst hsz
      have hl := lv_entry ([.ref (a 2), .int x1, .int x2]) (n := 3) (Nat.le_of_ble_eq_true rfl)
      rw [lg_entry_eq]
      generalize (lg_sl ([.ref (a 2), .int x1, .int x2]) ++ List.replicate (3 - (lg_sl ([.ref (a 2), .int x1, .int x2])).length) Slot.unset).toArray = ls at hl ⊢
      have hl : lv_has ls 3 [(0, .ref (a 2)), (1, .int x1), (2, .int x2)] := hl
      exact w_X9_readOpened_0 ih0 ih1 ih2 ⟨B.exec, B.bytes, hml, findClass_of_methodNamed B.named, fun w hw => atoms_spec (ws := Cond.code yX9_readOpened cX9_readOpened 3 none :: xTB) B.pre w (List.mem_cons_of_mem _ hw), hK, hI, hE⟩ B.returns B.notSynchronized hf (fun t0 e => e.symm) ⟨hP, va_S.rf⟩ (lv_sub hl [0, 1, 2] rfl)
    · intro S x1 S' v' hf sz
      refine Met.ofW (cc := cX9_readUnit) (maxL := 4) (ret := none) (by decide) rfl ?_
      intro p e s m args below meth c s₁ B hml hv
      obtain ⟨rfl, hsz, hP, hK, hE⟩ := hv
      subst hsz
      have hl := lv_entry ([.ref (a 2), .int x1]) (n := 4) (Nat.le_of_ble_eq_true rfl)
      rw [lg_entry_eq]
      generalize (lg_sl ([.ref (a 2), .int x1]) ++ List.replicate (4 - (lg_sl ([.ref (a 2), .int x1])).length) Slot.unset).toArray = ls at hl ⊢
      have hl : lv_has ls 4 [(0, .ref (a 2)), (1, .int x1)] := hl
      exact w_X9_readUnit_0 ih0 ih1 ih2 ⟨B.exec, B.bytes, hml, findClass_of_methodNamed B.named, fun w hw => atoms_spec (ws := Cond.code yX9_readUnit cX9_readUnit 4 none :: xTB) B.pre w (List.mem_cons_of_mem _ hw), hK, hI, hE⟩ B.returns B.notSynchronized hf (fun t0 e => e.symm) ⟨hP, va_S.rf⟩ (lv_sub hl [0, 1] rfl)
theorem c_X9_readLevel {l : Launch} {D : va_G} {cy : Nat → ClassId} {a z : Nat → Nat} (hI : xI xtb a) (d : Nat) {S : xSt} {x1 : Int32} {x2 : Int32} {S' : xSt} {v' : Unit} (hf : f_X9_readLevel d S x1 x2 = some (S', v')) (sz : Nat) : Met l yX9_readLevel (Cond.code yX9_readLevel cX9_readLevel 6 none :: xTB) ({ frames := 2 + d, cells := 0, slots := 0, locals := 44 + d * 25 } : Room) (va_Pc [.ref (a 2), .int x1, .int x2] (xPre D cy xtb a z S sz)) (xQv D cy xtb a S' v' sz) 0 0 (xA xtb a sz) := (cr_F_X9_readLevel hI d).1 _ _ _ _ _ hf sz
theorem c_X9_readOpened {l : Launch} {D : va_G} {cy : Nat → ClassId} {a z : Nat → Nat} (hI : xI xtb a) (d : Nat) {S : xSt} {x1 : Int32} {x2 : Int32} {S' : xSt} {v' : Unit} (hf : f_X9_readOpened d S x1 x2 = some (S', v')) (sz : Nat) : Met l yX9_readOpened (Cond.code yX9_readOpened cX9_readOpened 3 none :: xTB) ({ frames := 2 + d, cells := 0, slots := 0, locals := 44 + d * 25 } : Room) (va_Pc [.ref (a 2), .int x1, .int x2] (xPre D cy xtb a z S sz)) (xQv D cy xtb a S' v' sz) 0 0 (xA xtb a sz) := (cr_F_X9_readLevel hI d).2.1 _ _ _ _ _ hf sz
theorem c_X9_readUnit {l : Launch} {D : va_G} {cy : Nat → ClassId} {a z : Nat → Nat} (hI : xI xtb a) (d : Nat) {S : xSt} {x1 : Int32} {S' : xSt} {v' : Unit} (hf : f_X9_readUnit d S x1 = some (S', v')) (sz : Nat) : Met l yX9_readUnit (Cond.code yX9_readUnit cX9_readUnit 4 none :: xTB) ({ frames := 2 + d, cells := 0, slots := 0, locals := 44 + d * 25 } : Room) (va_Pc [.ref (a 2), .int x1] (xPre D cy xtb a z S sz)) (xQv D cy xtb a S' v' sz) 0 0 (xA xtb a sz) := (cr_F_X9_readLevel hI d).2.2 _ _ _ _ hf sz
set_option maxHeartbeats 4000000 in
set_option maxRecDepth 100000 in
theorem w_X9_readLine_41 {x1 : Int32} (hM : xM p c cX9_readLine m s args RX9 2 D cy xtb a z) (hr : meth.sig.returnType = none) (hlk : meth.locks = false) {S' : xSt} {v' : Unit} {S : xSt} {q : (xSt × Unit)} (h : f_X9_readLine_41 x1 S = some q) (k0 : ∀ t0 : xSt × Unit, q = t0 → t0 = (S', v')) {H : Heap} {locs : List Loc} (hG : xG D cy xtb a S s H locs) {ls : Array Slot} (hl : lv_has ls 2 [(0, .ref (a 2)), (1, .int x1)]) : W p l e ({ frames := 73, cells := 0, slots := 0, locals := 1819 } : Room) s m args below meth c H locs 0 0 (MQ below (xQv D cy xtb a S' v' s.heap.size) args s 0 0 (xA xtb a s.heap.size)) (F0 m 41 ls []) := by
  have hx := hM.1
  have hb := hM.2.1
  refine lv_aload_n hx hb dX9_readLine_41 rfl (lv_at hl 0 rfl) ?_
  refine x_gi hM hG xfl_X9_34 xct_2 (by decide) rfl h dX9_readLine_42 (fun v_1 h => ?_)
  refine lv_bipush (v := (120 : Int32)) hx hb dX9_readLine_45 (by decide) ?_
  refine x_icmp_ge (tgt := 83) hM h dX9_readLine_47 (by decide) (fun c_2 h => ?_) (fun c_2 h => ?_)
  · exact x_rv hM hG hr hlk (k0 _ (Option.some.inj h).symm) dX9_readLine_83
  · refine lv_aload_n hx hb dX9_readLine_50 rfl (lv_at hl 0 rfl) ?_
    refine x_gr (r := 6) hM hG xfl_X9_21 xct_2 (by decide) rfl dX9_readLine_51 ?_
    refine lv_aload_n hx hb dX9_readLine_54 rfl (lv_at hl 0 rfl) ?_
    refine x_gi hM hG xfl_X9_34 xct_2 (by decide) rfl h dX9_readLine_55 (fun v_3 h => ?_)
    refine lv_iload_n hx hb dX9_readLine_58 rfl (lv_at hl 1 rfl) ?_
    refine x_iast hM hG xct_6 h dX9_readLine_59 (fun S_4 H locs h hG => ?_)
    refine lv_aload_n hx hb dX9_readLine_60 rfl (lv_at hl 0 rfl) ?_
    refine x_gr (r := 7) hM hG xfl_X9_24 xct_2 (by decide) rfl dX9_readLine_61 ?_
    refine lv_aload_n hx hb dX9_readLine_64 rfl (lv_at hl 0 rfl) ?_
    refine x_gi hM hG xfl_X9_34 xct_2 (by decide) rfl h dX9_readLine_65 (fun v_5 h => ?_)
    refine lv_aload_n hx hb dX9_readLine_68 rfl (lv_at hl 0 rfl) ?_
    refine x_gi hM hG xfl_X9_31 xct_2 (by decide) rfl h dX9_readLine_69 (fun v_6 h => ?_)
    refine x_iast hM hG xct_7 h dX9_readLine_72 (fun S_7 H locs h hG => ?_)
    refine lv_aload_n hx hb dX9_readLine_73 rfl (lv_at hl 0 rfl) ?_
    refine lv_dup hx hb dX9_readLine_74 rfl ?_
    refine x_gi hM hG xfl_X9_34 xct_2 (by decide) rfl h dX9_readLine_75 (fun v_8 h => ?_)
    refine lv_iconst (v := (1 : Int32)) hx hb dX9_readLine_78 (by decide) ?_
    refine x_iadd hM h dX9_readLine_79 (fun v_9 h => ?_)
    refine x_pi hM hG xfl_X9_34 xfp_X9_7 xct_2 (by decide) rfl rfl rfl h dX9_readLine_80 (fun S_10 H locs h hG => ?_)
    exact x_rv hM hG hr hlk (k0 _ (Option.some.inj h).symm) dX9_readLine_83
set_option maxHeartbeats 4000000 in
set_option maxRecDepth 100000 in
theorem w_X9_readLine_0 (hM : xM p c cX9_readLine m s args RX9 2 D cy xtb a z) (hr : meth.sig.returnType = none) (hlk : meth.locks = false) {S' : xSt} {v' : Unit} {S : xSt} {q : (xSt × Unit)} (h : f_X9_readLine_0 S = some q) (k0 : ∀ t0 : xSt × Unit, q = t0 → t0 = (S', v')) {H : Heap} {locs : List Loc} (hG : xG D cy xtb a S s H locs) {ls : Array Slot} (hl : lv_has ls 2 [(0, .ref (a 2))]) : W p l e ({ frames := 73, cells := 0, slots := 0, locals := 1819 } : Room) s m args below meth c H locs 0 0 (MQ below (xQv D cy xtb a S' v' s.heap.size) args s 0 0 (xA xtb a s.heap.size)) (F0 m 0 ls []) := by
  have hx := hM.1
  have hb := hM.2.1
  refine lv_aload_n hx hb dX9_readLine_0 rfl (lv_at hl 0 rfl) ?_
  refine x_gi hM hG xfl_X9_31 xct_2 (by decide) rfl h dX9_readLine_1 (fun v_1 h => ?_)
  refine lv_istore_n (lv' := [(1, .int v_1), (0, .ref (a 2))]) hx hb dX9_readLine_4 rfl hl (by decide) rfl (fun ls hl => ?_)
  refine lv_aload_n hx hb dX9_readLine_5 rfl (lv_at hl 1 rfl) ?_
  refine lv_iconst (v := (0 : Int32)) hx hb dX9_readLine_6 (by decide) ?_
  refine lv_iconst (v := (0 : Int32)) hx hb dX9_readLine_7 (by decide) ?_
  refine x_cVv (As := [.int (0 : Int32), .int (0 : Int32)]) (rest := []) hM hG xml_X9_53 xwi_X9_readLevel xws_X9_readLevel xct_2 (by decide) rfl h (fun S' v e => c_X9_readLevel hM.2.2.2.2.2.2.1 70 e _) ⟨Nat.le_of_ble_eq_true rfl, Nat.le_of_ble_eq_true rfl⟩ rfl hl.1 rfl (Nat.le_of_ble_eq_true rfl) dX9_readLine_8 (fun S_2 v_3 H locs h hG => ?_)
  refine lv_aload_n hx hb dX9_readLine_11 rfl (lv_at hl 1 rfl) ?_
  refine x_cVi (As := []) (rest := []) hM hG xml_X9_46 xwi_X9_next xws_X9_next xct_2 (by decide) rfl h (fun S' v e => c_X9_next hM.2.2.2.2.2.2.1 e _) ⟨Nat.le_of_ble_eq_true rfl, Nat.le_of_ble_eq_true rfl⟩ rfl hl.1 rfl (Nat.le_of_ble_eq_true rfl) dX9_readLine_12 (fun S_4 v_5 H locs h hG => ?_)
  refine lv_bipush (v := (63 : Int32)) hx hb dX9_readLine_15 (by decide) ?_
  refine x_icmp_ne (tgt := 41) hM h dX9_readLine_17 (by decide) (fun c_6 h => ?_) (fun c_6 h => ?_)
  · exact w_X9_readLine_41 hM hr hlk h (fun t0 e => k0 t0 e) hG (lv_sub hl [1, 0] rfl)
  · refine lv_aload_n hx hb dX9_readLine_20 rfl (lv_at hl 1 rfl) ?_
    refine lv_dup hx hb dX9_readLine_21 rfl ?_
    refine x_gi hM hG xfl_X9_37 xct_2 (by decide) rfl h dX9_readLine_22 (fun v_7 h => ?_)
    refine lv_iconst (v := (1 : Int32)) hx hb dX9_readLine_25 (by decide) ?_
    refine x_iadd hM h dX9_readLine_26 (fun v_8 h => ?_)
    refine x_pi hM hG xfl_X9_37 xfp_X9_8 xct_2 (by decide) rfl rfl rfl h dX9_readLine_27 (fun S_9 H locs h hG => ?_)
    refine lv_aload_n hx hb dX9_readLine_30 rfl (lv_at hl 1 rfl) ?_
    refine x_gi hM hG xfl_X9_31 xct_2 (by decide) rfl h dX9_readLine_31 (fun v_10 h => ?_)
    refine lv_istore_n (lv' := [(1, .int v_10), (0, .ref (a 2))]) hx hb dX9_readLine_34 rfl hl (by decide) rfl (fun ls hl => ?_)
    refine lv_aload_n hx hb dX9_readLine_35 rfl (lv_at hl 1 rfl) ?_
    refine lv_iconst (v := (0 : Int32)) hx hb dX9_readLine_36 (by decide) ?_
    refine lv_iconst (v := (0 : Int32)) hx hb dX9_readLine_37 (by decide) ?_
    refine x_cVv (As := [.int (0 : Int32), .int (0 : Int32)]) (rest := []) hM hG xml_X9_53 xwi_X9_readLevel xws_X9_readLevel xct_2 (by decide) rfl h (fun S' v e => c_X9_readLevel hM.2.2.2.2.2.2.1 70 e _) ⟨Nat.le_of_ble_eq_true rfl, Nat.le_of_ble_eq_true rfl⟩ rfl hl.1 rfl (Nat.le_of_ble_eq_true rfl) dX9_readLine_38 (fun S_11 v_12 H locs h hG => ?_)
    exact w_X9_readLine_41 hM hr hlk h (fun t0 e => k0 t0 e) hG (lv_sub hl [1, 0] rfl)
set_option maxHeartbeats 4000000 in
set_option maxRecDepth 100000 in
theorem c_X9_readLine {l : Launch} {D : va_G} {cy : Nat → ClassId} {a z : Nat → Nat} (hI : xI xtb a) {S : xSt} {S' : xSt} {v' : Unit} (hf : f_X9_readLine S = some (S', v')) (sz : Nat) : Met l yX9_readLine (Cond.code yX9_readLine cX9_readLine 2 none :: xTB) ({ frames := 73, cells := 0, slots := 0, locals := 1819 } : Room) (va_Pc [.ref (a 2)] (xPre D cy xtb a z S sz)) (xQv D cy xtb a S' v' sz) 0 0 (xA xtb a sz) := by
  refine Met.ofW (cc := cX9_readLine) (maxL := 2) (ret := none) (by decide) rfl ?_
  intro p e s m args below meth c s₁ B hml hv
  obtain ⟨rfl, hsz, hP, hK, hE⟩ := hv
  subst hsz
  have hl := lv_entry ([.ref (a 2)]) (n := 2) (Nat.le_of_ble_eq_true rfl)
  rw [lg_entry_eq]
  generalize (lg_sl ([.ref (a 2)]) ++ List.replicate (2 - (lg_sl ([.ref (a 2)])).length) Slot.unset).toArray = ls at hl ⊢
  have hl : lv_has ls 2 [(0, .ref (a 2))] := hl
  exact w_X9_readLine_0 ⟨B.exec, B.bytes, hml, findClass_of_methodNamed B.named, fun w hw => atoms_spec (ws := Cond.code yX9_readLine cX9_readLine 2 none :: xTB) B.pre w (List.mem_cons_of_mem _ hw), hK, hI, hE⟩ B.returns B.notSynchronized hf (fun t0 e => e.symm) ⟨hP, va_S.rf⟩ (lv_sub hl [0] rfl)
set_option maxHeartbeats 4000000 in
set_option maxRecDepth 100000 in
theorem w_X9_understand_67 {x1 : Int32} {x2 : Int32} (hM : xM p c cX9_understand m s args RX9 3 D cy xtb a z) (hr : meth.sig.returnType = (some .int)) (hlk : meth.locks = false) {S' : xSt} {v' : Int32} {S : xSt} {q : ((xSt × Int32 × Int32) ⊕ (xSt × Int32))} (h : f_X9_understand_67 x1 x2 S = some q) (k0 : ∀ t0 : xSt × Int32, q = (.inr t0) → t0 = (S', v')) (k1 : ∀ (S : xSt) (x1 : Int32) (x2 : Int32), q = (.inl (S, x1, x2)) → ∀ (H : Heap) (locs : List Loc) (ls : Array Slot), xG D cy xtb a S s H locs → lv_has ls 3 [(0, .ref (a 2)), (1, .int x1), (2, .int x2)] → W p l e ({ frames := 74, cells := 0, slots := 0, locals := 1840 } : Room) s m args below meth c H locs 0 0 (MQ below (xQi D cy xtb a S' v' s.heap.size) args s 0 0 (xA xtb a s.heap.size)) (F0 m 24 ls [])) {H : Heap} {locs : List Loc} (hG : xG D cy xtb a S s H locs) {ls : Array Slot} (hl : lv_has ls 3 [(0, .ref (a 2)), (1, .int x1), (2, .int x2)]) : W p l e ({ frames := 74, cells := 0, slots := 0, locals := 1840 } : Room) s m args below meth c H locs 0 0 (MQ below (xQi D cy xtb a S' v' s.heap.size) args s 0 0 (xA xtb a s.heap.size)) (F0 m 67 ls []) := by
  have hx := hM.1
  have hb := hM.2.1
  refine x_iinc hM (fun v => [(2, .int v), (0, .ref (a 2)), (1, .int x1)]) h dX9_understand_67 hl (k := 2) rfl (by decide) (by decide) (fun _ => rfl) (fun v_1 ls h hl => ?_)
  refine lv_goto (tgt := 24) hx hb dX9_understand_70 (by decide) ?_
  exact k1 _ _ _ (Option.some.inj h).symm _ _ _ hG (lv_sub hl [1, 2, 0] rfl)
set_option maxHeartbeats 4000000 in
set_option maxRecDepth 100000 in
theorem w_X9_understand_52 {x2 : Int32} {y0 : Int32} (hM : xM p c cX9_understand m s args RX9 3 D cy xtb a z) (hr : meth.sig.returnType = (some .int)) (hlk : meth.locks = false) {S' : xSt} {v' : Int32} {S : xSt} {q : ((xSt × Int32 × Int32) ⊕ (xSt × Int32))} (h : f_X9_understand_52 x2 y0 S = some q) (k0 : ∀ t0 : xSt × Int32, q = (.inr t0) → t0 = (S', v')) (k1 : ∀ (S : xSt) (x1 : Int32) (x2 : Int32), q = (.inl (S, x1, x2)) → ∀ (H : Heap) (locs : List Loc) (ls : Array Slot), xG D cy xtb a S s H locs → lv_has ls 3 [(0, .ref (a 2)), (1, .int x1), (2, .int x2)] → W p l e ({ frames := 74, cells := 0, slots := 0, locals := 1840 } : Room) s m args below meth c H locs 0 0 (MQ below (xQi D cy xtb a S' v' s.heap.size) args s 0 0 (xA xtb a s.heap.size)) (F0 m 24 ls [])) {H : Heap} {locs : List Loc} (hG : xG D cy xtb a S s H locs) {ls : Array Slot} (hl : lv_has ls 3 [(0, .ref (a 2)), (2, .int x2)]) : W p l e ({ frames := 74, cells := 0, slots := 0, locals := 1840 } : Room) s m args below meth c H locs 0 0 (MQ below (xQi D cy xtb a S' v' s.heap.size) args s 0 0 (xA xtb a s.heap.size)) (F0 m 52 ls [.int y0]) := by
  have hx := hM.1
  have hb := hM.2.1
  refine lv_istore_n (lv' := [(1, .int y0), (0, .ref (a 2)), (2, .int x2)]) hx hb dX9_understand_52 rfl hl (by decide) rfl (fun ls hl => ?_)
  refine lv_iload_n hx hb dX9_understand_53 rfl (lv_at hl 0 rfl) ?_
  refine x_if_eq (tgt := 67) hM h dX9_understand_54 (by decide) (fun c_1 h => ?_) (fun c_1 h => ?_)
  · exact w_X9_understand_67 hM hr hlk h (fun t0 e => k0 t0 e) (fun S x1 x2 e => k1 S x1 x2 e) hG (lv_sub hl [1, 0, 2] rfl)
  · refine lv_aload_n hx hb dX9_understand_57 rfl (lv_at hl 1 rfl) ?_
    refine lv_dup hx hb dX9_understand_58 rfl ?_
    refine x_gi hM hG xfl_X9_37 xct_2 (by decide) rfl h dX9_understand_59 (fun v_2 h => ?_)
    refine lv_iconst (v := (1 : Int32)) hx hb dX9_understand_62 (by decide) ?_
    refine x_iadd hM h dX9_understand_63 (fun v_3 h => ?_)
    refine x_pi hM hG xfl_X9_37 xfp_X9_8 xct_2 (by decide) rfl rfl rfl h dX9_understand_64 (fun S_4 H locs h hG => ?_)
    exact w_X9_understand_67 hM hr hlk h (fun t0 e => k0 t0 e) (fun S x1 x2 e => k1 S x1 x2 e) hG (lv_sub hl [1, 0, 2] rfl)
set_option maxHeartbeats 4000000 in
set_option maxRecDepth 100000 in
theorem w_X9_understand_73 (hM : xM p c cX9_understand m s args RX9 3 D cy xtb a z) (hr : meth.sig.returnType = (some .int)) (hlk : meth.locks = false) {S' : xSt} {v' : Int32} {S : xSt} {q : (xSt × Int32)} (h : f_X9_understand_73 S = some q) (k0 : ∀ t0 : xSt × Int32, q = t0 → t0 = (S', v')) {H : Heap} {locs : List Loc} (hG : xG D cy xtb a S s H locs) {ls : Array Slot} (hl : lv_has ls 3 [(0, .ref (a 2))]) : W p l e ({ frames := 74, cells := 0, slots := 0, locals := 1840 } : Room) s m args below meth c H locs 0 0 (MQ below (xQi D cy xtb a S' v' s.heap.size) args s 0 0 (xA xtb a s.heap.size)) (F0 m 73 ls []) := by
  have hx := hM.1
  have hb := hM.2.1
  refine lv_aload_n hx hb dX9_understand_73 rfl (lv_at hl 0 rfl) ?_
  refine x_gi hM hG xfl_X9_37 xct_2 (by decide) rfl h dX9_understand_74 (fun v_1 h => ?_)
  refine lv_aload_n hx hb dX9_understand_77 rfl (lv_at hl 0 rfl) ?_
  refine x_gi hM hG xfl_X9_27 xct_2 (by decide) rfl h dX9_understand_78 (fun v_2 h => ?_)
  refine x_icmp_ge (tgt := 88) hM h dX9_understand_81 (by decide) (fun c_3 h => ?_) (fun c_3 h => ?_)
  · refine lv_aload_n hx hb dX9_understand_88 rfl (lv_at hl 0 rfl) ?_
    refine x_gi hM hG xfl_X9_40 xct_2 (by decide) rfl h dX9_understand_89 (fun v_4 h => ?_)
    exact x_ri hM hG hr hlk rfl (k0 _ (Option.some.inj h).symm) dX9_understand_92
  · refine lv_aload_n hx hb dX9_understand_84 rfl (lv_at hl 0 rfl) ?_
    refine x_cVv (As := []) (rest := []) hM hG xml_X9_50 xwi_X9_failHere xws_X9_failHere xct_2 (by decide) rfl h (fun S' v e => c_X9_failHere hM.2.2.2.2.2.2.1 e _) ⟨Nat.le_of_ble_eq_true rfl, Nat.le_of_ble_eq_true rfl⟩ rfl hl.1 rfl (Nat.le_of_ble_eq_true rfl) dX9_understand_85 (fun S_5 v_6 H locs h hG => ?_)
    refine lv_aload_n hx hb dX9_understand_88 rfl (lv_at hl 0 rfl) ?_
    refine x_gi hM hG xfl_X9_40 xct_2 (by decide) rfl h dX9_understand_89 (fun v_7 h => ?_)
    exact x_ri hM hG hr hlk rfl (k0 _ (Option.some.inj h).symm) dX9_understand_92
set_option maxHeartbeats 4000000 in
set_option maxRecDepth 100000 in
theorem w_X9_understand_24 {x1 : Int32} {x2 : Int32} (hM : xM p c cX9_understand m s args RX9 3 D cy xtb a z) (hr : meth.sig.returnType = (some .int)) (hlk : meth.locks = false) {S' : xSt} {v' : Int32} {S : xSt} {q : ((xSt × Int32 × Int32) ⊕ (xSt × Int32))} (h : f_X9_understand_24 S x1 x2 = some q) (k0 : ∀ t0 : xSt × Int32, q = (.inr t0) → t0 = (S', v')) (k1 : ∀ (S : xSt) (x1 : Int32) (x2 : Int32), q = (.inl (S, x1, x2)) → ∀ (H : Heap) (locs : List Loc) (ls : Array Slot), xG D cy xtb a S s H locs → lv_has ls 3 [(0, .ref (a 2)), (1, .int x1), (2, .int x2)] → W p l e ({ frames := 74, cells := 0, slots := 0, locals := 1840 } : Room) s m args below meth c H locs 0 0 (MQ below (xQi D cy xtb a S' v' s.heap.size) args s 0 0 (xA xtb a s.heap.size)) (F0 m 24 ls [])) {H : Heap} {locs : List Loc} (hG : xG D cy xtb a S s H locs) {ls : Array Slot} (hl : lv_has ls 3 [(0, .ref (a 2)), (1, .int x1), (2, .int x2)]) : W p l e ({ frames := 74, cells := 0, slots := 0, locals := 1840 } : Room) s m args below meth c H locs 0 0 (MQ below (xQi D cy xtb a S' v' s.heap.size) args s 0 0 (xA xtb a s.heap.size)) (F0 m 24 ls []) := by
  have hx := hM.1
  have hb := hM.2.1
  refine lv_iload_n hx hb dX9_understand_24 rfl (lv_at hl 2 rfl) ?_
  refine lv_bipush (v := (120 : Int32)) hx hb dX9_understand_25 (by decide) ?_
  refine x_icmp_gt (tgt := 73) hM h dX9_understand_27 (by decide) (fun c_1 h => ?_) (fun c_1 h => ?_)
  · obtain ⟨q1, h, e1⟩ := xmr_at h
    exact w_X9_understand_73 hM hr hlk h (fun t0 e => k0 t0 (by rw [e1, e])) hG (lv_sub hl [0] rfl)
  · refine lv_iload_n hx hb dX9_understand_30 rfl (lv_at hl 1 rfl) ?_
    refine x_if_eq (tgt := 73) hM h dX9_understand_31 (by decide) (fun c_2 h => ?_) (fun c_2 h => ?_)
    · obtain ⟨q1, h, e1⟩ := xmr_at h
      exact w_X9_understand_73 hM hr hlk h (fun t0 e => k0 t0 (by rw [e1, e])) hG (lv_sub hl [0] rfl)
    · refine lv_aload_n hx hb dX9_understand_34 rfl (lv_at hl 0 rfl) ?_
      refine x_cVv (As := []) (rest := []) hM hG xml_X9_43 xwi_X9_readLine xws_X9_readLine xct_2 (by decide) rfl h (fun S' v e => c_X9_readLine hM.2.2.2.2.2.2.1 e _) ⟨Nat.le_of_ble_eq_true rfl, Nat.le_of_ble_eq_true rfl⟩ rfl hl.1 rfl (Nat.le_of_ble_eq_true rfl) dX9_understand_35 (fun S_3 v_4 H locs h hG => ?_)
      refine lv_aload_n hx hb dX9_understand_38 rfl (lv_at hl 0 rfl) ?_
      refine x_cVi (As := []) (rest := []) hM hG xml_X9_46 xwi_X9_next xws_X9_next xct_2 (by decide) rfl h (fun S' v e => c_X9_next hM.2.2.2.2.2.2.1 e _) ⟨Nat.le_of_ble_eq_true rfl, Nat.le_of_ble_eq_true rfl⟩ rfl hl.1 rfl (Nat.le_of_ble_eq_true rfl) dX9_understand_39 (fun S_5 v_6 H locs h hG => ?_)
      refine lv_bipush (v := (59 : Int32)) hx hb dX9_understand_42 (by decide) ?_
      refine x_icmp_ne (tgt := 51) hM h dX9_understand_44 (by decide) (fun c_7 h => ?_) (fun c_7 h => ?_)
      · refine lv_iconst (v := (0 : Int32)) hx hb dX9_understand_51 (by decide) ?_
        exact w_X9_understand_52 hM hr hlk h (fun t0 e => k0 t0 e) (fun S x1 x2 e => k1 S x1 x2 e) hG (lv_sub hl [0, 2] rfl)
      · refine lv_iconst (v := (1 : Int32)) hx hb dX9_understand_47 (by decide) ?_
        refine lv_goto (tgt := 52) hx hb dX9_understand_48 (by decide) ?_
        exact w_X9_understand_52 hM hr hlk h (fun t0 e => k0 t0 e) (fun S x1 x2 e => k1 S x1 x2 e) hG (lv_sub hl [0, 2] rfl)
theorem wl_X9_understand_24 (hM : xM p c cX9_understand m s args RX9 3 D cy xtb a z) (hr : meth.sig.returnType = (some .int)) (hlk : meth.locks = false) {S' : xSt} {v' : Int32} {q : (xSt × Int32)} (k0 : ∀ t0 : xSt × Int32, q = t0 → t0 = (S', v')) (n : Nat) : ∀ (S : xSt) (x1 : Int32) (x2 : Int32) (H : Heap) (locs : List Loc) (ls : Array Slot), xlp (fun q : (xSt × Int32 × Int32) => f_X9_understand_24 q.1 q.2.1 q.2.2) n (S, x1, x2) = some q → xG D cy xtb a S s H locs → lv_has ls 3 [(0, .ref (a 2)), (1, .int x1), (2, .int x2)] → W p l e ({ frames := 74, cells := 0, slots := 0, locals := 1840 } : Room) s m args below meth c H locs 0 0 (MQ below (xQi D cy xtb a S' v' s.heap.size) args s 0 0 (xA xtb a s.heap.size)) (F0 m 24 ls []) := by
  induction n with
  | zero => intro S x1 x2 H locs ls h; exact (xlp_0 h).elim
  | succ n ih =>
    intro S x1 x2 H locs ls h hG hl
    obtain ⟨q1, hq, hc, he⟩ := xlp_at h
    exact w_X9_understand_24 hM hr hlk (q := q1) hq (fun t0 e => k0 t0 (he _ e).symm) (fun S x1 x2 e H locs ls hG hl => ih S x1 x2 H locs ls (hc _ e) hG hl) hG hl
set_option maxHeartbeats 4000000 in
set_option maxRecDepth 100000 in
theorem w_X9_understand_0 (hM : xM p c cX9_understand m s args RX9 3 D cy xtb a z) (hr : meth.sig.returnType = (some .int)) (hlk : meth.locks = false) {S' : xSt} {v' : Int32} {S : xSt} {q : (xSt × Int32)} (h : f_X9_understand_0 S = some q) (k0 : ∀ t0 : xSt × Int32, q = t0 → t0 = (S', v')) {H : Heap} {locs : List Loc} (hG : xG D cy xtb a S s H locs) {ls : Array Slot} (hl : lv_has ls 3 [(0, .ref (a 2))]) : W p l e ({ frames := 74, cells := 0, slots := 0, locals := 1840 } : Room) s m args below meth c H locs 0 0 (MQ below (xQi D cy xtb a S' v' s.heap.size) args s 0 0 (xA xtb a s.heap.size)) (F0 m 0 ls []) := by
  have hx := hM.1
  have hb := hM.2.1
  refine lv_aload_n hx hb dX9_understand_0 rfl (lv_at hl 0 rfl) ?_
  refine lv_iconst (v := (0 : Int32)) hx hb dX9_understand_1 (by decide) ?_
  refine x_pi hM hG xfl_X9_31 xfp_X9_4 xct_2 (by decide) rfl rfl rfl h dX9_understand_2 (fun S_1 H locs h hG => ?_)
  refine lv_aload_n hx hb dX9_understand_5 rfl (lv_at hl 0 rfl) ?_
  refine lv_iconst (v := (0 : Int32)) hx hb dX9_understand_6 (by decide) ?_
  refine x_pi hM hG xfl_X9_34 xfp_X9_7 xct_2 (by decide) rfl rfl rfl h dX9_understand_7 (fun S_2 H locs h hG => ?_)
  refine lv_aload_n hx hb dX9_understand_10 rfl (lv_at hl 0 rfl) ?_
  refine lv_iconst (v := (0 : Int32)) hx hb dX9_understand_11 (by decide) ?_
  refine x_pi hM hG xfl_X9_37 xfp_X9_8 xct_2 (by decide) rfl rfl rfl h dX9_understand_12 (fun S_3 H locs h hG => ?_)
  refine lv_aload_n hx hb dX9_understand_15 rfl (lv_at hl 0 rfl) ?_
  refine lv_iconst (v := (-1 : Int32)) hx hb dX9_understand_16 (by decide) ?_
  refine x_pi hM hG xfl_X9_40 xfp_X9_9 xct_2 (by decide) rfl rfl rfl h dX9_understand_17 (fun S_4 H locs h hG => ?_)
  refine lv_iconst (v := (1 : Int32)) hx hb dX9_understand_20 (by decide) ?_
  refine lv_istore_n (lv' := [(1, .int (1 : Int32)), (0, .ref (a 2))]) hx hb dX9_understand_21 rfl hl (by decide) rfl (fun ls hl => ?_)
  refine lv_iconst (v := (0 : Int32)) hx hb dX9_understand_22 (by decide) ?_
  refine lv_istore_n (lv' := [(2, .int (0 : Int32)), (1, .int (1 : Int32)), (0, .ref (a 2))]) hx hb dX9_understand_23 rfl hl (by decide) rfl (fun ls hl => ?_)
  exact wl_X9_understand_24 hM hr hlk (fun t0 e => k0 t0 e) 5000 _ _ _ _ _ _ h hG (lv_sub hl [2, 1, 0] rfl)
set_option maxHeartbeats 4000000 in
set_option maxRecDepth 100000 in
theorem c_X9_understand {l : Launch} {D : va_G} {cy : Nat → ClassId} {a z : Nat → Nat} (hI : xI xtb a) {S : xSt} {S' : xSt} {v' : Int32} (hf : f_X9_understand S = some (S', v')) (sz : Nat) : Met l yX9_understand (Cond.code yX9_understand cX9_understand 3 (some .int) :: xTB) ({ frames := 74, cells := 0, slots := 0, locals := 1840 } : Room) (va_Pc [.ref (a 2)] (xPre D cy xtb a z S sz)) (xQi D cy xtb a S' v' sz) 0 0 (xA xtb a sz) := by
  refine Met.ofW (cc := cX9_understand) (maxL := 3) (ret := (some .int)) (by decide) rfl ?_
  intro p e s m args below meth c s₁ B hml hv
  obtain ⟨rfl, hsz, hP, hK, hE⟩ := hv
  subst hsz
  have hl := lv_entry ([.ref (a 2)]) (n := 3) (Nat.le_of_ble_eq_true rfl)
  rw [lg_entry_eq]
  generalize (lg_sl ([.ref (a 2)]) ++ List.replicate (3 - (lg_sl ([.ref (a 2)])).length) Slot.unset).toArray = ls at hl ⊢
  have hl : lv_has ls 3 [(0, .ref (a 2))] := hl
  exact w_X9_understand_0 ⟨B.exec, B.bytes, hml, findClass_of_methodNamed B.named, fun w hw => atoms_spec (ws := Cond.code yX9_understand cX9_understand 3 (some .int) :: xTB) B.pre w (List.mem_cons_of_mem _ hw), hK, hI, hE⟩ B.returns B.notSynchronized hf (fun t0 e => e.symm) ⟨hP, va_S.rf⟩ (lv_sub hl [0] rfl)
set_option maxHeartbeats 4000000 in
set_option maxRecDepth 100000 in
theorem w_X10_behind_13 {x1 : Int32} {x2 : Int32} (hM : xM p c cX10_behind m s args RX10 3 D cy xtb a z) (hr : meth.sig.returnType = (some (.object "HotStack$Hay"))) (hlk : meth.locks = false) {S' : xSt} {v' : Nat} {S : xSt} {q : ((xSt × Int32) ⊕ (xSt × Nat))} (h : f_X10_behind_13 x1 S x2 = some q) (k0 : ∀ t0 : xSt × Nat, q = (.inr t0) → t0 = (S', v')) (k1 : ∀ (S : xSt) (x2 : Int32), q = (.inl (S, x2)) → ∀ (H : Heap) (locs : List Loc) (ls : Array Slot), xG D cy xtb a S s H locs → lv_has ls 3 [(0, .ref (a 86)), (1, .int x1), (2, .int x2)] → W p l e ({ frames := 4, cells := 0, slots := 0, locals := 102 } : Room) s m args below meth c H locs 0 0 (MQ below (xQr D cy xtb a S' v' s.heap.size) args s 0 0 (xA xtb a s.heap.size)) (F0 m 13 ls [])) {H : Heap} {locs : List Loc} (hG : xG D cy xtb a S s H locs) {ls : Array Slot} (hl : lv_has ls 3 [(0, .ref (a 86)), (1, .int x1), (2, .int x2)]) : W p l e ({ frames := 4, cells := 0, slots := 0, locals := 102 } : Room) s m args below meth c H locs 0 0 (MQ below (xQr D cy xtb a S' v' s.heap.size) args s 0 0 (xA xtb a s.heap.size)) (F0 m 13 ls []) := by
  have hx := hM.1
  have hb := hM.2.1
  refine lv_iload_n hx hb dX10_behind_13 rfl (lv_at hl 2 rfl) ?_
  refine lv_iload_n hx hb dX10_behind_14 rfl (lv_at hl 1 rfl) ?_
  refine x_icmp_ge (tgt := 31) hM h dX10_behind_15 (by decide) (fun c_1 h => ?_) (fun c_1 h => ?_)
  · refine lv_aload_n hx hb dX10_behind_31 rfl (lv_at hl 0 rfl) ?_
    refine x_gr (r := 36) hM hG xfl_X10_15 xct_86 (by decide) rfl dX10_behind_32 ?_
    exact x_rr hM hG hr hlk (k0 _ (Option.some.inj h).symm) dX10_behind_35
  · refine lv_aload_n hx hb dX10_behind_18 rfl (lv_at hl 0 rfl) ?_
    refine x_gr (r := 36) hM hG xfl_X10_15 xct_86 (by decide) rfl dX10_behind_19 ?_
    refine x_cVv (As := []) (rest := []) hM hG xml_X10_24 xwi_X4_passDay xws_X4_passDay xih_mind.1 (by decide) rfl h (fun S' v e => c_X4_passDay hM.2.2.2.2.2.2.1 xih_mind e _) ⟨Nat.le_of_ble_eq_true rfl, Nat.le_of_ble_eq_true rfl⟩ rfl hl.1 rfl (Nat.le_of_ble_eq_true rfl) dX10_behind_22 (fun S_2 v_3 H locs h hG => ?_)
    refine x_iinc hM (fun v => [(2, .int v), (0, .ref (a 86)), (1, .int x1)]) h dX10_behind_25 hl (k := 2) rfl (by decide) (by decide) (fun _ => rfl) (fun v_4 ls h hl => ?_)
    refine lv_goto (tgt := 13) hx hb dX10_behind_28 (by decide) ?_
    exact k1 _ _ (Option.some.inj h).symm _ _ _ hG (lv_sub hl [1, 2, 0] rfl)
theorem wl_X10_behind_13 {x1 : Int32} (hM : xM p c cX10_behind m s args RX10 3 D cy xtb a z) (hr : meth.sig.returnType = (some (.object "HotStack$Hay"))) (hlk : meth.locks = false) {S' : xSt} {v' : Nat} {q : (xSt × Nat)} (k0 : ∀ t0 : xSt × Nat, q = t0 → t0 = (S', v')) (n : Nat) : ∀ (S : xSt) (x2 : Int32) (H : Heap) (locs : List Loc) (ls : Array Slot), xlp (fun q : (xSt × Int32) => f_X10_behind_13 x1 q.1 q.2) n (S, x2) = some q → xG D cy xtb a S s H locs → lv_has ls 3 [(0, .ref (a 86)), (1, .int x1), (2, .int x2)] → W p l e ({ frames := 4, cells := 0, slots := 0, locals := 102 } : Room) s m args below meth c H locs 0 0 (MQ below (xQr D cy xtb a S' v' s.heap.size) args s 0 0 (xA xtb a s.heap.size)) (F0 m 13 ls []) := by
  induction n with
  | zero => intro S x2 H locs ls h; exact (xlp_0 h).elim
  | succ n ih =>
    intro S x2 H locs ls h hG hl
    obtain ⟨q1, hq, hc, he⟩ := xlp_at h
    exact w_X10_behind_13 hM hr hlk (q := q1) hq (fun t0 e => k0 t0 (he _ e).symm) (fun S x2 e H locs ls hG hl => ih S x2 H locs ls (hc _ e) hG hl) hG hl
set_option maxHeartbeats 4000000 in
set_option maxRecDepth 100000 in
theorem w_X10_behind_0 {x1 : Int32} (hM : xM p c cX10_behind m s args RX10 3 D cy xtb a z) (hr : meth.sig.returnType = (some (.object "HotStack$Hay"))) (hlk : meth.locks = false) {S' : xSt} {v' : Nat} {S : xSt} {q : (xSt × Nat)} (h : f_X10_behind_0 x1 S = some q) (k0 : ∀ t0 : xSt × Nat, q = t0 → t0 = (S', v')) {H : Heap} {locs : List Loc} (hG : xG D cy xtb a S s H locs) {ls : Array Slot} (hl : lv_has ls 3 [(0, .ref (a 86)), (1, .int x1)]) : W p l e ({ frames := 4, cells := 0, slots := 0, locals := 102 } : Room) s m args below meth c H locs 0 0 (MQ below (xQr D cy xtb a S' v' s.heap.size) args s 0 0 (xA xtb a s.heap.size)) (F0 m 0 ls []) := by
  have hx := hM.1
  have hb := hM.2.1
  refine lv_aload_n hx hb dX10_behind_0 rfl (lv_at hl 0 rfl) ?_
  refine x_gr (r := 36) hM hG xfl_X10_15 xct_86 (by decide) rfl dX10_behind_1 ?_
  refine lv_aload_n hx hb dX10_behind_4 rfl (lv_at hl 0 rfl) ?_
  refine x_gr (r := 16) hM hG xfl_X10_9 xct_86 (by decide) rfl dX10_behind_5 ?_
  refine x_cVv (As := [.ref (a 16)]) (rest := []) hM hG xml_X10_18 xwi_X4_takeAll xws_X4_takeAll xih_mind.1 (by decide) rfl h (fun S' v e => c_X4_takeAll hM.2.2.2.2.2.2.1 xih_mind xih_hay e _) ⟨Nat.le_of_ble_eq_true rfl, Nat.le_of_ble_eq_true rfl⟩ rfl hl.1 rfl (Nat.le_of_ble_eq_true rfl) dX10_behind_8 (fun S_1 v_2 H locs h hG => ?_)
  refine lv_iconst (v := (0 : Int32)) hx hb dX10_behind_11 (by decide) ?_
  refine lv_istore_n (lv' := [(2, .int (0 : Int32)), (0, .ref (a 86)), (1, .int x1)]) hx hb dX10_behind_12 rfl hl (by decide) rfl (fun ls hl => ?_)
  exact wl_X10_behind_13 hM hr hlk (fun t0 e => k0 t0 e) 5000 _ _ _ _ _ h hG (lv_sub hl [1, 2, 0] rfl)
set_option maxHeartbeats 4000000 in
set_option maxRecDepth 100000 in
theorem c_X10_behind {l : Launch} {D : va_G} {cy : Nat → ClassId} {a z : Nat → Nat} (hI : xI xtb a) {S : xSt} {x1 : Int32} {S' : xSt} {v' : Nat} (hf : f_X10_behind S x1 = some (S', v')) (sz : Nat) : Met l yX10_behind (Cond.code yX10_behind cX10_behind 3 (some (.object "HotStack$Hay")) :: xTB) ({ frames := 4, cells := 0, slots := 0, locals := 102 } : Room) (va_Pc [.ref (a 86), .int x1] (xPre D cy xtb a z S sz)) (xQr D cy xtb a S' v' sz) 0 0 (xA xtb a sz) := by
  refine Met.ofW (cc := cX10_behind) (maxL := 3) (ret := (some (.object "HotStack$Hay"))) (by decide) rfl ?_
  intro p e s m args below meth c s₁ B hml hv
  obtain ⟨rfl, hsz, hP, hK, hE⟩ := hv
  subst hsz
  have hl := lv_entry ([.ref (a 86), .int x1]) (n := 3) (Nat.le_of_ble_eq_true rfl)
  rw [lg_entry_eq]
  generalize (lg_sl ([.ref (a 86), .int x1]) ++ List.replicate (3 - (lg_sl ([.ref (a 86), .int x1])).length) Slot.unset).toArray = ls at hl ⊢
  have hl : lv_has ls 3 [(0, .ref (a 86)), (1, .int x1)] := hl
  exact w_X10_behind_0 ⟨B.exec, B.bytes, hml, findClass_of_methodNamed B.named, fun w hw => atoms_spec (ws := Cond.code yX10_behind cX10_behind 3 (some (.object "HotStack$Hay")) :: xTB) B.pre w (List.mem_cons_of_mem _ hw), hK, hI, hE⟩ B.returns B.notSynchronized hf (fun t0 e => e.symm) ⟨hP, va_S.rf⟩ (lv_sub hl [0, 1] rfl)
set_option maxHeartbeats 4000000 in
set_option maxRecDepth 100000 in
theorem w_X10_firstDay_42 {x1 : Int32} {x2 : Int32} {x3 : Int32} {y0 : Int32} (hM : xM p c cX10_firstDay m s args RX10 5 D cy xtb a z) (hr : meth.sig.returnType = (some .int)) (hlk : meth.locks = false) {S' : xSt} {v' : Int32} {S : xSt} {q : ((xSt × Int32) ⊕ (xSt × Int32))} (h : f_X10_firstDay_42 x1 x2 x3 y0 S = some q) (k0 : ∀ t0 : xSt × Int32, q = (.inr t0) → t0 = (S', v')) (k1 : ∀ (S : xSt) (x3 : Int32), q = (.inl (S, x3)) → ∀ (H : Heap) (locs : List Loc) (ls : Array Slot), xG D cy xtb a S s H locs → lv_has ls 5 [(0, .ref (a 86)), (1, .int x1), (2, .int x2), (3, .int x3)] → W p l e ({ frames := 4, cells := 0, slots := 0, locals := 102 } : Room) s m args below meth c H locs 0 0 (MQ below (xQi D cy xtb a S' v' s.heap.size) args s 0 0 (xA xtb a s.heap.size)) (F0 m 13 ls [])) {H : Heap} {locs : List Loc} (hG : xG D cy xtb a S s H locs) {ls : Array Slot} (hl : lv_has ls 5 [(0, .ref (a 86)), (1, .int x1), (2, .int x2), (3, .int x3)]) : W p l e ({ frames := 4, cells := 0, slots := 0, locals := 102 } : Room) s m args below meth c H locs 0 0 (MQ below (xQi D cy xtb a S' v' s.heap.size) args s 0 0 (xA xtb a s.heap.size)) (F0 m 42 ls [.int y0]) := by
  have hx := hM.1
  have hb := hM.2.1
  refine lv_istore (lv' := [(4, .int y0), (0, .ref (a 86)), (1, .int x1), (2, .int x2), (3, .int x3)]) hx hb dX10_firstDay_42 hl (by decide) rfl (fun ls hl => ?_)
  refine lv_iload hx hb dX10_firstDay_44 (lv_at hl 0 rfl) ?_
  refine lv_iload_n hx hb dX10_firstDay_46 rfl (lv_at hl 3 rfl) ?_
  refine x_icmp_lt (tgt := 52) hM h dX10_firstDay_47 (by decide) (fun c_1 h => ?_) (fun c_1 h => ?_)
  · refine lv_aload_n hx hb dX10_firstDay_52 rfl (lv_at hl 1 rfl) ?_
    refine x_gr (r := 36) hM hG xfl_X10_15 xct_86 (by decide) rfl dX10_firstDay_53 ?_
    refine x_cVv (As := []) (rest := []) hM hG xml_X10_24 xwi_X4_passDay xws_X4_passDay xih_mind.1 (by decide) rfl h (fun S' v e => c_X4_passDay hM.2.2.2.2.2.2.1 xih_mind e _) ⟨Nat.le_of_ble_eq_true rfl, Nat.le_of_ble_eq_true rfl⟩ rfl hl.1 rfl (Nat.le_of_ble_eq_true rfl) dX10_firstDay_56 (fun S_2 v_3 H locs h hG => ?_)
    refine x_iinc hM (fun v => [(3, .int v), (4, .int y0), (0, .ref (a 86)), (1, .int x1), (2, .int x2)]) h dX10_firstDay_59 hl (k := 4) rfl (by decide) (by decide) (fun _ => rfl) (fun v_4 ls h hl => ?_)
    refine lv_goto (tgt := 13) hx hb dX10_firstDay_62 (by decide) ?_
    exact k1 _ _ (Option.some.inj h).symm _ _ _ hG (lv_sub hl [2, 3, 4, 0] rfl)
  · refine lv_iload_n hx hb dX10_firstDay_50 rfl (lv_at hl 4 rfl) ?_
    exact x_ri hM hG hr hlk rfl (k0 _ (Option.some.inj h).symm) dX10_firstDay_51
set_option maxHeartbeats 4000000 in
set_option maxRecDepth 100000 in
theorem w_X10_firstDay_13 {x1 : Int32} {x2 : Int32} {x3 : Int32} (hM : xM p c cX10_firstDay m s args RX10 5 D cy xtb a z) (hr : meth.sig.returnType = (some .int)) (hlk : meth.locks = false) {S' : xSt} {v' : Int32} {S : xSt} {q : ((xSt × Int32) ⊕ (xSt × Int32))} (h : f_X10_firstDay_13 x1 x2 S x3 = some q) (k0 : ∀ t0 : xSt × Int32, q = (.inr t0) → t0 = (S', v')) (k1 : ∀ (S : xSt) (x3 : Int32), q = (.inl (S, x3)) → ∀ (H : Heap) (locs : List Loc) (ls : Array Slot), xG D cy xtb a S s H locs → lv_has ls 5 [(0, .ref (a 86)), (1, .int x1), (2, .int x2), (3, .int x3)] → W p l e ({ frames := 4, cells := 0, slots := 0, locals := 102 } : Room) s m args below meth c H locs 0 0 (MQ below (xQi D cy xtb a S' v' s.heap.size) args s 0 0 (xA xtb a s.heap.size)) (F0 m 13 ls [])) {H : Heap} {locs : List Loc} (hG : xG D cy xtb a S s H locs) {ls : Array Slot} (hl : lv_has ls 5 [(0, .ref (a 86)), (1, .int x1), (2, .int x2), (3, .int x3)]) : W p l e ({ frames := 4, cells := 0, slots := 0, locals := 102 } : Room) s m args below meth c H locs 0 0 (MQ below (xQi D cy xtb a S' v' s.heap.size) args s 0 0 (xA xtb a s.heap.size)) (F0 m 13 ls []) := by
  have hx := hM.1
  have hb := hM.2.1
  refine lv_iload_n hx hb dX10_firstDay_13 rfl (lv_at hl 3 rfl) ?_
  refine lv_bipush (v := (40 : Int32)) hx hb dX10_firstDay_14 (by decide) ?_
  refine x_icmp_gt (tgt := 65) hM h dX10_firstDay_16 (by decide) (fun c_1 h => ?_) (fun c_1 h => ?_)
  · refine lv_bipush (v := (-2 : Int32)) hx hb dX10_firstDay_65 (by decide) ?_
    exact x_ri hM hG hr hlk rfl (k0 _ (Option.some.inj h).symm) dX10_firstDay_67
  · refine lv_iload_n hx hb dX10_firstDay_19 rfl (lv_at hl 1 rfl) ?_
    refine x_if_ge (tgt := 33) hM h dX10_firstDay_20 (by decide) (fun c_2 h => ?_) (fun c_2 h => ?_)
    · refine lv_aload_n hx hb dX10_firstDay_33 rfl (lv_at hl 0 rfl) ?_
      refine x_gr (r := 36) hM hG xfl_X10_15 xct_86 (by decide) rfl dX10_firstDay_34 ?_
      refine x_gr (r := 36 + 4) hM hG xfl_X10_31 xih_mind.1 (by decide) rfl dX10_firstDay_37 ?_
      refine lv_iload_n hx hb dX10_firstDay_40 rfl (lv_at hl 1 rfl) ?_
      refine x_iald hM hG xih_mind.2.2.2.2.1 h dX10_firstDay_41 (fun v_3 h => ?_)
      exact w_X10_firstDay_42 hM hr hlk h (fun t0 e => k0 t0 e) (fun S x3 e => k1 S x3 e) hG (lv_sub hl [0, 1, 2, 3] rfl)
    · refine lv_aload_n hx hb dX10_firstDay_23 rfl (lv_at hl 0 rfl) ?_
      refine x_gr (r := 36) hM hG xfl_X10_15 xct_86 (by decide) rfl dX10_firstDay_24 ?_
      refine x_cVi (As := []) (rest := []) hM hG xml_X10_27 xwi_X4_hottestHeat xws_X4_hottestHeat xih_mind.1 (by decide) rfl h (fun S' v e => c_X4_hottestHeat hM.2.2.2.2.2.2.1 xih_mind e _) ⟨Nat.le_of_ble_eq_true rfl, Nat.le_of_ble_eq_true rfl⟩ rfl hl.1 rfl (Nat.le_of_ble_eq_true rfl) dX10_firstDay_27 (fun S_4 v_5 H locs h hG => ?_)
      refine lv_goto (tgt := 42) hx hb dX10_firstDay_30 (by decide) ?_
      exact w_X10_firstDay_42 hM hr hlk h (fun t0 e => k0 t0 e) (fun S x3 e => k1 S x3 e) hG (lv_sub hl [0, 1, 2, 3] rfl)
theorem wl_X10_firstDay_13 {x1 : Int32} {x2 : Int32} (hM : xM p c cX10_firstDay m s args RX10 5 D cy xtb a z) (hr : meth.sig.returnType = (some .int)) (hlk : meth.locks = false) {S' : xSt} {v' : Int32} {q : (xSt × Int32)} (k0 : ∀ t0 : xSt × Int32, q = t0 → t0 = (S', v')) (n : Nat) : ∀ (S : xSt) (x3 : Int32) (H : Heap) (locs : List Loc) (ls : Array Slot), xlp (fun q : (xSt × Int32) => f_X10_firstDay_13 x1 x2 q.1 q.2) n (S, x3) = some q → xG D cy xtb a S s H locs → lv_has ls 5 [(0, .ref (a 86)), (1, .int x1), (2, .int x2), (3, .int x3)] → W p l e ({ frames := 4, cells := 0, slots := 0, locals := 102 } : Room) s m args below meth c H locs 0 0 (MQ below (xQi D cy xtb a S' v' s.heap.size) args s 0 0 (xA xtb a s.heap.size)) (F0 m 13 ls []) := by
  induction n with
  | zero => intro S x3 H locs ls h; exact (xlp_0 h).elim
  | succ n ih =>
    intro S x3 H locs ls h hG hl
    obtain ⟨q1, hq, hc, he⟩ := xlp_at h
    exact w_X10_firstDay_13 hM hr hlk (q := q1) hq (fun t0 e => k0 t0 (he _ e).symm) (fun S x3 e H locs ls hG hl => ih S x3 H locs ls (hc _ e) hG hl) hG hl
set_option maxHeartbeats 4000000 in
set_option maxRecDepth 100000 in
theorem w_X10_firstDay_0 {x1 : Int32} {x2 : Int32} (hM : xM p c cX10_firstDay m s args RX10 5 D cy xtb a z) (hr : meth.sig.returnType = (some .int)) (hlk : meth.locks = false) {S' : xSt} {v' : Int32} {S : xSt} {q : (xSt × Int32)} (h : f_X10_firstDay_0 x1 x2 S = some q) (k0 : ∀ t0 : xSt × Int32, q = t0 → t0 = (S', v')) {H : Heap} {locs : List Loc} (hG : xG D cy xtb a S s H locs) {ls : Array Slot} (hl : lv_has ls 5 [(0, .ref (a 86)), (1, .int x1), (2, .int x2)]) : W p l e ({ frames := 4, cells := 0, slots := 0, locals := 102 } : Room) s m args below meth c H locs 0 0 (MQ below (xQi D cy xtb a S' v' s.heap.size) args s 0 0 (xA xtb a s.heap.size)) (F0 m 0 ls []) := by
  have hx := hM.1
  have hb := hM.2.1
  refine lv_aload_n hx hb dX10_firstDay_0 rfl (lv_at hl 0 rfl) ?_
  refine x_gr (r := 36) hM hG xfl_X10_15 xct_86 (by decide) rfl dX10_firstDay_1 ?_
  refine lv_aload_n hx hb dX10_firstDay_4 rfl (lv_at hl 0 rfl) ?_
  refine x_gr (r := 16) hM hG xfl_X10_9 xct_86 (by decide) rfl dX10_firstDay_5 ?_
  refine x_cVv (As := [.ref (a 16)]) (rest := []) hM hG xml_X10_18 xwi_X4_takeAll xws_X4_takeAll xih_mind.1 (by decide) rfl h (fun S' v e => c_X4_takeAll hM.2.2.2.2.2.2.1 xih_mind xih_hay e _) ⟨Nat.le_of_ble_eq_true rfl, Nat.le_of_ble_eq_true rfl⟩ rfl hl.1 rfl (Nat.le_of_ble_eq_true rfl) dX10_firstDay_8 (fun S_1 v_2 H locs h hG => ?_)
  refine lv_iconst (v := (0 : Int32)) hx hb dX10_firstDay_11 (by decide) ?_
  refine lv_istore_n (lv' := [(3, .int (0 : Int32)), (0, .ref (a 86)), (1, .int x1), (2, .int x2)]) hx hb dX10_firstDay_12 rfl hl (by decide) rfl (fun ls hl => ?_)
  exact wl_X10_firstDay_13 hM hr hlk (fun t0 e => k0 t0 e) 5000 _ _ _ _ _ h hG (lv_sub hl [1, 2, 3, 0] rfl)
set_option maxHeartbeats 4000000 in
set_option maxRecDepth 100000 in
theorem c_X10_firstDay {l : Launch} {D : va_G} {cy : Nat → ClassId} {a z : Nat → Nat} (hI : xI xtb a) {S : xSt} {x1 : Int32} {x2 : Int32} {S' : xSt} {v' : Int32} (hf : f_X10_firstDay S x1 x2 = some (S', v')) (sz : Nat) : Met l yX10_firstDay (Cond.code yX10_firstDay cX10_firstDay 5 (some .int) :: xTB) ({ frames := 4, cells := 0, slots := 0, locals := 102 } : Room) (va_Pc [.ref (a 86), .int x1, .int x2] (xPre D cy xtb a z S sz)) (xQi D cy xtb a S' v' sz) 0 0 (xA xtb a sz) := by
  refine Met.ofW (cc := cX10_firstDay) (maxL := 5) (ret := (some .int)) (by decide) rfl ?_
  intro p e s m args below meth c s₁ B hml hv
  obtain ⟨rfl, hsz, hP, hK, hE⟩ := hv
  subst hsz
  have hl := lv_entry ([.ref (a 86), .int x1, .int x2]) (n := 5) (Nat.le_of_ble_eq_true rfl)
  rw [lg_entry_eq]
  generalize (lg_sl ([.ref (a 86), .int x1, .int x2]) ++ List.replicate (5 - (lg_sl ([.ref (a 86), .int x1, .int x2])).length) Slot.unset).toArray = ls at hl ⊢
  have hl : lv_has ls 5 [(0, .ref (a 86)), (1, .int x1), (2, .int x2)] := hl
  exact w_X10_firstDay_0 ⟨B.exec, B.bytes, hml, findClass_of_methodNamed B.named, fun w hw => atoms_spec (ws := Cond.code yX10_firstDay cX10_firstDay 5 (some .int) :: xTB) B.pre w (List.mem_cons_of_mem _ hw), hK, hI, hE⟩ B.returns B.notSynchronized hf (fun t0 e => e.symm) ⟨hP, va_S.rf⟩ (lv_sub hl [0, 1, 2] rfl)
set_option maxHeartbeats 4000000 in
set_option maxRecDepth 100000 in
theorem w_X10_forget_0 (hM : xM p c cX10_forget m s args RX10 1 D cy xtb a z) (hr : meth.sig.returnType = none) (hlk : meth.locks = false) {S' : xSt} {v' : Unit} {S : xSt} {q : (xSt × Unit)} (h : f_X10_forget_0 S = some q) (k0 : ∀ t0 : xSt × Unit, q = t0 → t0 = (S', v')) {H : Heap} {locs : List Loc} (hG : xG D cy xtb a S s H locs) {ls : Array Slot} (hl : lv_has ls 1 [(0, .ref (a 86))]) : W p l e ({ frames := 0, cells := 0, slots := 0, locals := 0 } : Room) s m args below meth c H locs 0 0 (MQ below (xQv D cy xtb a S' v' s.heap.size) args s 0 0 (xA xtb a s.heap.size)) (F0 m 0 ls []) := by
  have hx := hM.1
  have hb := hM.2.1
  refine lv_aload_n hx hb dX10_forget_0 rfl (lv_at hl 0 rfl) ?_
  refine lv_bipush (v := (-2 : Int32)) hx hb dX10_forget_1 (by decide) ?_
  refine x_pi hM hG xfl_X10_35 xfp_X10_2 xct_86 (by decide) rfl rfl rfl h dX10_forget_3 (fun S_1 H locs h hG => ?_)
  refine lv_aload_n hx hb dX10_forget_6 rfl (lv_at hl 0 rfl) ?_
  refine lv_bipush (v := (-2 : Int32)) hx hb dX10_forget_7 (by decide) ?_
  refine x_pi hM hG xfl_X10_39 xfp_X10_3 xct_86 (by decide) rfl rfl rfl h dX10_forget_9 (fun S_2 H locs h hG => ?_)
  exact x_rv hM hG hr hlk (k0 _ (Option.some.inj h).symm) dX10_forget_12
set_option maxHeartbeats 4000000 in
set_option maxRecDepth 100000 in
theorem c_X10_forget {l : Launch} {D : va_G} {cy : Nat → ClassId} {a z : Nat → Nat} (hI : xI xtb a) {S : xSt} {S' : xSt} {v' : Unit} (hf : f_X10_forget S = some (S', v')) (sz : Nat) : Met l yX10_forget (Cond.code yX10_forget cX10_forget 1 none :: xTB) ({ frames := 0, cells := 0, slots := 0, locals := 0 } : Room) (va_Pc [.ref (a 86)] (xPre D cy xtb a z S sz)) (xQv D cy xtb a S' v' sz) 0 0 (xA xtb a sz) := by
  refine Met.ofW (cc := cX10_forget) (maxL := 1) (ret := none) (by decide) rfl ?_
  intro p e s m args below meth c s₁ B hml hv
  obtain ⟨rfl, hsz, hP, hK, hE⟩ := hv
  subst hsz
  have hl := lv_entry ([.ref (a 86)]) (n := 1) (Nat.le_of_ble_eq_true rfl)
  rw [lg_entry_eq]
  generalize (lg_sl ([.ref (a 86)]) ++ List.replicate (1 - (lg_sl ([.ref (a 86)])).length) Slot.unset).toArray = ls at hl ⊢
  have hl : lv_has ls 1 [(0, .ref (a 86))] := hl
  exact w_X10_forget_0 ⟨B.exec, B.bytes, hml, findClass_of_methodNamed B.named, fun w hw => atoms_spec (ws := Cond.code yX10_forget cX10_forget 1 none :: xTB) B.pre w (List.mem_cons_of_mem _ hw), hK, hI, hE⟩ B.returns B.notSynchronized hf (fun t0 e => e.symm) ⟨hP, va_S.rf⟩ (lv_sub hl [0] rfl)
set_option maxHeartbeats 4000000 in
set_option maxRecDepth 100000 in
theorem w_X10_takeCooler_21 {x1 : Int32} {x2 : Int32} (hM : xM p c cX10_takeCooler m s args RX10 3 D cy xtb a z) (hr : meth.sig.returnType = none) (hlk : meth.locks = false) {S' : xSt} {v' : Unit} {S : xSt} {q : (xSt × Unit)} (h : f_X10_takeCooler_21 x1 x2 S = some q) (k0 : ∀ t0 : xSt × Unit, q = t0 → t0 = (S', v')) {H : Heap} {locs : List Loc} (hG : xG D cy xtb a S s H locs) {ls : Array Slot} (hl : lv_has ls 3 [(0, .ref (a 86)), (1, .int x1), (2, .int x2)]) : W p l e ({ frames := 0, cells := 0, slots := 0, locals := 0 } : Room) s m args below meth c H locs 0 0 (MQ below (xQv D cy xtb a S' v' s.heap.size) args s 0 0 (xA xtb a s.heap.size)) (F0 m 21 ls []) := by
  have hx := hM.1
  have hb := hM.2.1
  refine lv_aload_n hx hb dX10_takeCooler_21 rfl (lv_at hl 0 rfl) ?_
  refine lv_iload_n hx hb dX10_takeCooler_22 rfl (lv_at hl 1 rfl) ?_
  refine x_pi hM hG xfl_X10_35 xfp_X10_2 xct_86 (by decide) rfl rfl rfl h dX10_takeCooler_23 (fun S_1 H locs h hG => ?_)
  refine lv_aload_n hx hb dX10_takeCooler_26 rfl (lv_at hl 0 rfl) ?_
  refine lv_iload_n hx hb dX10_takeCooler_27 rfl (lv_at hl 2 rfl) ?_
  refine x_pi hM hG xfl_X10_39 xfp_X10_3 xct_86 (by decide) rfl rfl rfl h dX10_takeCooler_28 (fun S_2 H locs h hG => ?_)
  exact x_rv hM hG hr hlk (k0 _ (Option.some.inj h).symm) dX10_takeCooler_31
set_option maxHeartbeats 4000000 in
set_option maxRecDepth 100000 in
theorem w_X10_takeCooler_0 {x1 : Int32} {x2 : Int32} (hM : xM p c cX10_takeCooler m s args RX10 3 D cy xtb a z) (hr : meth.sig.returnType = none) (hlk : meth.locks = false) {S' : xSt} {v' : Unit} {S : xSt} {q : (xSt × Unit)} (h : f_X10_takeCooler_0 x1 x2 S = some q) (k0 : ∀ t0 : xSt × Unit, q = t0 → t0 = (S', v')) {H : Heap} {locs : List Loc} (hG : xG D cy xtb a S s H locs) {ls : Array Slot} (hl : lv_has ls 3 [(0, .ref (a 86)), (1, .int x1), (2, .int x2)]) : W p l e ({ frames := 0, cells := 0, slots := 0, locals := 0 } : Room) s m args below meth c H locs 0 0 (MQ below (xQv D cy xtb a S' v' s.heap.size) args s 0 0 (xA xtb a s.heap.size)) (F0 m 0 ls []) := by
  have hx := hM.1
  have hb := hM.2.1
  refine lv_iload_n hx hb dX10_takeCooler_0 rfl (lv_at hl 1 rfl) ?_
  refine x_if_lt (tgt := 31) hM h dX10_takeCooler_1 (by decide) (fun c_1 h => ?_) (fun c_1 h => ?_)
  · exact x_rv hM hG hr hlk (k0 _ (Option.some.inj h).symm) dX10_takeCooler_31
  · refine lv_aload_n hx hb dX10_takeCooler_4 rfl (lv_at hl 0 rfl) ?_
    refine x_gi hM hG xfl_X10_35 xct_86 (by decide) rfl h dX10_takeCooler_5 (fun v_2 h => ?_)
    refine lv_bipush (v := (-2 : Int32)) hx hb dX10_takeCooler_8 (by decide) ?_
    refine x_icmp_eq (tgt := 21) hM h dX10_takeCooler_10 (by decide) (fun c_3 h => ?_) (fun c_3 h => ?_)
    · exact w_X10_takeCooler_21 hM hr hlk h (fun t0 e => k0 t0 e) hG (lv_sub hl [0, 1, 2] rfl)
    · refine lv_iload_n hx hb dX10_takeCooler_13 rfl (lv_at hl 1 rfl) ?_
      refine lv_aload_n hx hb dX10_takeCooler_14 rfl (lv_at hl 0 rfl) ?_
      refine x_gi hM hG xfl_X10_35 xct_86 (by decide) rfl h dX10_takeCooler_15 (fun v_4 h => ?_)
      refine x_icmp_ge (tgt := 31) hM h dX10_takeCooler_18 (by decide) (fun c_5 h => ?_) (fun c_5 h => ?_)
      · exact x_rv hM hG hr hlk (k0 _ (Option.some.inj h).symm) dX10_takeCooler_31
      · exact w_X10_takeCooler_21 hM hr hlk h (fun t0 e => k0 t0 e) hG (lv_sub hl [0, 1, 2] rfl)
set_option maxHeartbeats 4000000 in
set_option maxRecDepth 100000 in
theorem c_X10_takeCooler {l : Launch} {D : va_G} {cy : Nat → ClassId} {a z : Nat → Nat} (hI : xI xtb a) {S : xSt} {x1 : Int32} {x2 : Int32} {S' : xSt} {v' : Unit} (hf : f_X10_takeCooler S x1 x2 = some (S', v')) (sz : Nat) : Met l yX10_takeCooler (Cond.code yX10_takeCooler cX10_takeCooler 3 none :: xTB) ({ frames := 0, cells := 0, slots := 0, locals := 0 } : Room) (va_Pc [.ref (a 86), .int x1, .int x2] (xPre D cy xtb a z S sz)) (xQv D cy xtb a S' v' sz) 0 0 (xA xtb a sz) := by
  refine Met.ofW (cc := cX10_takeCooler) (maxL := 3) (ret := none) (by decide) rfl ?_
  intro p e s m args below meth c s₁ B hml hv
  obtain ⟨rfl, hsz, hP, hK, hE⟩ := hv
  subst hsz
  have hl := lv_entry ([.ref (a 86), .int x1, .int x2]) (n := 3) (Nat.le_of_ble_eq_true rfl)
  rw [lg_entry_eq]
  generalize (lg_sl ([.ref (a 86), .int x1, .int x2]) ++ List.replicate (3 - (lg_sl ([.ref (a 86), .int x1, .int x2])).length) Slot.unset).toArray = ls at hl ⊢
  have hl : lv_has ls 3 [(0, .ref (a 86)), (1, .int x1), (2, .int x2)] := hl
  exact w_X10_takeCooler_0 ⟨B.exec, B.bytes, hml, findClass_of_methodNamed B.named, fun w hw => atoms_spec (ws := Cond.code yX10_takeCooler cX10_takeCooler 3 none :: xTB) B.pre w (List.mem_cons_of_mem _ hw), hK, hI, hE⟩ B.returns B.notSynchronized hf (fun t0 e => e.symm) ⟨hP, va_S.rf⟩ (lv_sub hl [0, 1, 2] rfl)
set_option maxHeartbeats 4000000 in
set_option maxRecDepth 100000 in
theorem w_X10_seekTurn_59 {x1 : Int32} {x2 : Int32} {x3 : Int32} {x4 : Int32} (hM : xM p c cX10_seekTurn m s args RX10 5 D cy xtb a z) (hr : meth.sig.returnType = none) (hlk : meth.locks = false) {S' : xSt} {v' : Unit} {S : xSt} {q : ((xSt × Int32) ⊕ ((xSt × Int32) ⊕ (xSt × Unit)))} (h : f_X10_seekTurn_59 x1 x2 x3 x4 S = some q) (k0 : ∀ t0 : xSt × Unit, q = (.inr (.inr t0)) → t0 = (S', v')) (k1 : ∀ (S : xSt) (x3 : Int32), q = (.inr (.inl (S, x3))) → ∀ (H : Heap) (locs : List Loc) (ls : Array Slot), xG D cy xtb a S s H locs → lv_has ls 5 [(0, .ref (a 86)), (1, .int x1), (2, .int x2), (3, .int x3)] → W p l e ({ frames := 5, cells := 0, slots := 0, locals := 124 } : Room) s m args below meth c H locs 0 0 (MQ below (xQv D cy xtb a S' v' s.heap.size) args s 0 0 (xA xtb a s.heap.size)) (F0 m 6 ls [])) (k2 : ∀ (S : xSt) (x4 : Int32), q = (.inl (S, x4)) → ∀ (H : Heap) (locs : List Loc) (ls : Array Slot), xG D cy xtb a S s H locs → lv_has ls 5 [(0, .ref (a 86)), (1, .int x1), (2, .int x2), (3, .int x3), (4, .int x4)] → W p l e ({ frames := 5, cells := 0, slots := 0, locals := 124 } : Room) s m args below meth c H locs 0 0 (MQ below (xQv D cy xtb a S' v' s.heap.size) args s 0 0 (xA xtb a s.heap.size)) (F0 m 34 ls [])) {H : Heap} {locs : List Loc} (hG : xG D cy xtb a S s H locs) {ls : Array Slot} (hl : lv_has ls 5 [(0, .ref (a 86)), (1, .int x1), (2, .int x2), (3, .int x3), (4, .int x4)]) : W p l e ({ frames := 5, cells := 0, slots := 0, locals := 124 } : Room) s m args below meth c H locs 0 0 (MQ below (xQv D cy xtb a S' v' s.heap.size) args s 0 0 (xA xtb a s.heap.size)) (F0 m 59 ls []) := by
  have hx := hM.1
  have hb := hM.2.1
  refine x_iinc hM (fun v => [(4, .int v), (0, .ref (a 86)), (1, .int x1), (2, .int x2), (3, .int x3)]) h dX10_seekTurn_59 hl (k := 4) rfl (by decide) (by decide) (fun _ => rfl) (fun v_1 ls h hl => ?_)
  refine lv_goto (tgt := 34) hx hb dX10_seekTurn_62 (by decide) ?_
  exact k2 _ _ (Option.some.inj h).symm _ _ _ hG (lv_sub hl [1, 2, 3, 4, 0] rfl)
set_option maxHeartbeats 4000000 in
set_option maxRecDepth 100000 in
theorem w_X10_seekTurn_78 {x1 : Int32} {x2 : Int32} {x3 : Int32} (hM : xM p c cX10_seekTurn m s args RX10 5 D cy xtb a z) (hr : meth.sig.returnType = none) (hlk : meth.locks = false) {S' : xSt} {v' : Unit} {S : xSt} {q : ((xSt × Int32) ⊕ (xSt × Unit))} (h : f_X10_seekTurn_78 x1 x2 x3 S = some q) (k0 : ∀ t0 : xSt × Unit, q = (.inr t0) → t0 = (S', v')) (k1 : ∀ (S : xSt) (x3 : Int32), q = (.inl (S, x3)) → ∀ (H : Heap) (locs : List Loc) (ls : Array Slot), xG D cy xtb a S s H locs → lv_has ls 5 [(0, .ref (a 86)), (1, .int x1), (2, .int x2), (3, .int x3)] → W p l e ({ frames := 5, cells := 0, slots := 0, locals := 124 } : Room) s m args below meth c H locs 0 0 (MQ below (xQv D cy xtb a S' v' s.heap.size) args s 0 0 (xA xtb a s.heap.size)) (F0 m 6 ls [])) {H : Heap} {locs : List Loc} (hG : xG D cy xtb a S s H locs) {ls : Array Slot} (hl : lv_has ls 5 [(0, .ref (a 86)), (1, .int x1), (2, .int x2), (3, .int x3)]) : W p l e ({ frames := 5, cells := 0, slots := 0, locals := 124 } : Room) s m args below meth c H locs 0 0 (MQ below (xQv D cy xtb a S' v' s.heap.size) args s 0 0 (xA xtb a s.heap.size)) (F0 m 78 ls []) := by
  have hx := hM.1
  have hb := hM.2.1
  refine x_iinc hM (fun v => [(3, .int v), (0, .ref (a 86)), (1, .int x1), (2, .int x2)]) h dX10_seekTurn_78 hl (k := 3) rfl (by decide) (by decide) (fun _ => rfl) (fun v_1 ls h hl => ?_)
  refine lv_goto (tgt := 6) hx hb dX10_seekTurn_81 (by decide) ?_
  exact k1 _ _ (Option.some.inj h).symm _ _ _ hG (lv_sub hl [1, 2, 3, 0] rfl)
set_option maxHeartbeats 4000000 in
set_option maxRecDepth 100000 in
theorem w_X10_seekTurn_65 {x1 : Int32} {x2 : Int32} {x3 : Int32} (hM : xM p c cX10_seekTurn m s args RX10 5 D cy xtb a z) (hr : meth.sig.returnType = none) (hlk : meth.locks = false) {S' : xSt} {v' : Unit} {S : xSt} {q : ((xSt × Int32) ⊕ (xSt × Unit))} (h : f_X10_seekTurn_65 x1 x2 x3 S = some q) (k0 : ∀ t0 : xSt × Unit, q = (.inr t0) → t0 = (S', v')) (k1 : ∀ (S : xSt) (x3 : Int32), q = (.inl (S, x3)) → ∀ (H : Heap) (locs : List Loc) (ls : Array Slot), xG D cy xtb a S s H locs → lv_has ls 5 [(0, .ref (a 86)), (1, .int x1), (2, .int x2), (3, .int x3)] → W p l e ({ frames := 5, cells := 0, slots := 0, locals := 124 } : Room) s m args below meth c H locs 0 0 (MQ below (xQv D cy xtb a S' v' s.heap.size) args s 0 0 (xA xtb a s.heap.size)) (F0 m 6 ls [])) {H : Heap} {locs : List Loc} (hG : xG D cy xtb a S s H locs) {ls : Array Slot} (hl : lv_has ls 5 [(0, .ref (a 86)), (1, .int x1), (2, .int x2), (3, .int x3)]) : W p l e ({ frames := 5, cells := 0, slots := 0, locals := 124 } : Room) s m args below meth c H locs 0 0 (MQ below (xQv D cy xtb a S' v' s.heap.size) args s 0 0 (xA xtb a s.heap.size)) (F0 m 65 ls []) := by
  have hx := hM.1
  have hb := hM.2.1
  refine lv_aload_n hx hb dX10_seekTurn_65 rfl (lv_at hl 0 rfl) ?_
  refine lv_aload_n hx hb dX10_seekTurn_66 rfl (lv_at hl 0 rfl) ?_
  refine x_gr (r := 36) hM hG xfl_X10_15 xct_86 (by decide) rfl dX10_seekTurn_67 ?_
  refine lv_iload_n hx hb dX10_seekTurn_70 rfl (lv_at hl 2 rfl) ?_
  refine x_cVi (As := [.int x2]) (rest := [.ref (a 86)]) hM hG xml_X10_55 xwi_X4_hottestBehind xws_X4_hottestBehind xih_mind.1 (by decide) rfl h (fun S' v e => c_X4_hottestBehind hM.2.2.2.2.2.2.1 xih_mind e _) ⟨Nat.le_of_ble_eq_true rfl, Nat.le_of_ble_eq_true rfl⟩ rfl hl.1 rfl (Nat.le_of_ble_eq_true rfl) dX10_seekTurn_71 (fun S_1 v_2 H locs h hG => ?_)
  refine lv_iload_n hx hb dX10_seekTurn_74 rfl (lv_at hl 3 rfl) ?_
  refine x_cVv (As := [.int v_2, .int x3]) (rest := []) hM hG xml_X10_58 xwi_X10_takeCooler xws_X10_takeCooler xct_86 (by decide) rfl h (fun S' v e => c_X10_takeCooler hM.2.2.2.2.2.2.1 e _) ⟨Nat.le_of_ble_eq_true rfl, Nat.le_of_ble_eq_true rfl⟩ rfl hl.1 rfl (Nat.le_of_ble_eq_true rfl) dX10_seekTurn_75 (fun S_3 v_4 H locs h hG => ?_)
  exact w_X10_seekTurn_78 hM hr hlk h (fun t0 e => k0 t0 e) (fun S x3 e => k1 S x3 e) hG (lv_sub hl [0, 1, 2, 3] rfl)
set_option maxHeartbeats 4000000 in
set_option maxRecDepth 100000 in
theorem w_X10_seekTurn_34 {x1 : Int32} {x2 : Int32} {x3 : Int32} {x4 : Int32} (hM : xM p c cX10_seekTurn m s args RX10 5 D cy xtb a z) (hr : meth.sig.returnType = none) (hlk : meth.locks = false) {S' : xSt} {v' : Unit} {S : xSt} {q : ((xSt × Int32) ⊕ ((xSt × Int32) ⊕ (xSt × Unit)))} (h : f_X10_seekTurn_34 x1 x2 x3 S x4 = some q) (k0 : ∀ t0 : xSt × Unit, q = (.inr (.inr t0)) → t0 = (S', v')) (k1 : ∀ (S : xSt) (x3 : Int32), q = (.inr (.inl (S, x3))) → ∀ (H : Heap) (locs : List Loc) (ls : Array Slot), xG D cy xtb a S s H locs → lv_has ls 5 [(0, .ref (a 86)), (1, .int x1), (2, .int x2), (3, .int x3)] → W p l e ({ frames := 5, cells := 0, slots := 0, locals := 124 } : Room) s m args below meth c H locs 0 0 (MQ below (xQv D cy xtb a S' v' s.heap.size) args s 0 0 (xA xtb a s.heap.size)) (F0 m 6 ls [])) (k2 : ∀ (S : xSt) (x4 : Int32), q = (.inl (S, x4)) → ∀ (H : Heap) (locs : List Loc) (ls : Array Slot), xG D cy xtb a S s H locs → lv_has ls 5 [(0, .ref (a 86)), (1, .int x1), (2, .int x2), (3, .int x3), (4, .int x4)] → W p l e ({ frames := 5, cells := 0, slots := 0, locals := 124 } : Room) s m args below meth c H locs 0 0 (MQ below (xQv D cy xtb a S' v' s.heap.size) args s 0 0 (xA xtb a s.heap.size)) (F0 m 34 ls [])) {H : Heap} {locs : List Loc} (hG : xG D cy xtb a S s H locs) {ls : Array Slot} (hl : lv_has ls 5 [(0, .ref (a 86)), (1, .int x1), (2, .int x2), (3, .int x3), (4, .int x4)]) : W p l e ({ frames := 5, cells := 0, slots := 0, locals := 124 } : Room) s m args below meth c H locs 0 0 (MQ below (xQv D cy xtb a S' v' s.heap.size) args s 0 0 (xA xtb a s.heap.size)) (F0 m 34 ls []) := by
  have hx := hM.1
  have hb := hM.2.1
  refine lv_iload hx hb dX10_seekTurn_34 (lv_at hl 4 rfl) ?_
  refine lv_bipush (v := (6 : Int32)) hx hb dX10_seekTurn_36 (by decide) ?_
  refine x_icmp_ge (tgt := 65) hM h dX10_seekTurn_38 (by decide) (fun c_1 h => ?_) (fun c_1 h => ?_)
  · obtain ⟨q1, h, e1⟩ := xmr_at h
    exact w_X10_seekTurn_65 hM hr hlk h (fun t0 e => k0 t0 (by rw [e1, e])) (fun S x3 e => k1 S x3 (by rw [e1, e])) hG (lv_sub hl [0, 1, 2, 3] rfl)
  · refine lv_iload_n hx hb dX10_seekTurn_41 rfl (lv_at hl 3 rfl) ?_
    refine lv_iload hx hb dX10_seekTurn_42 (lv_at hl 4 rfl) ?_
    refine x_ishr hM h dX10_seekTurn_44 (fun v_2 h => ?_)
    refine lv_iconst (v := (1 : Int32)) hx hb dX10_seekTurn_45 (by decide) ?_
    refine x_iand hM h dX10_seekTurn_46 (fun v_3 h => ?_)
    refine x_if_eq (tgt := 59) hM h dX10_seekTurn_47 (by decide) (fun c_4 h => ?_) (fun c_4 h => ?_)
    · exact w_X10_seekTurn_59 hM hr hlk h (fun t0 e => k0 t0 e) (fun S x3 e => k1 S x3 e) (fun S x4 e => k2 S x4 e) hG (lv_sub hl [0, 1, 2, 3, 4] rfl)
    · refine lv_aload_n hx hb dX10_seekTurn_50 rfl (lv_at hl 0 rfl) ?_
      refine x_gr (r := 36) hM hG xfl_X10_15 xct_86 (by decide) rfl dX10_seekTurn_51 ?_
      refine lv_iload hx hb dX10_seekTurn_54 (lv_at hl 4 rfl) ?_
      refine x_cVv (As := [.int x4]) (rest := []) hM hG xml_X10_51 xwi_X4_turnColumn xws_X4_turnColumn xih_mind.1 (by decide) rfl h (fun S' v e => c_X4_turnColumn hM.2.2.2.2.2.2.1 xih_mind e _) ⟨Nat.le_of_ble_eq_true rfl, Nat.le_of_ble_eq_true rfl⟩ rfl hl.1 rfl (Nat.le_of_ble_eq_true rfl) dX10_seekTurn_56 (fun S_5 v_6 H locs h hG => ?_)
      exact w_X10_seekTurn_59 hM hr hlk h (fun t0 e => k0 t0 e) (fun S x3 e => k1 S x3 e) (fun S x4 e => k2 S x4 e) hG (lv_sub hl [0, 1, 2, 3, 4] rfl)
theorem wl_X10_seekTurn_34 {x1 : Int32} {x2 : Int32} {x3 : Int32} (hM : xM p c cX10_seekTurn m s args RX10 5 D cy xtb a z) (hr : meth.sig.returnType = none) (hlk : meth.locks = false) {S' : xSt} {v' : Unit} {q : ((xSt × Int32) ⊕ (xSt × Unit))} (k0 : ∀ t0 : xSt × Unit, q = (.inr t0) → t0 = (S', v')) (k1 : ∀ (S : xSt) (x3 : Int32), q = (.inl (S, x3)) → ∀ (H : Heap) (locs : List Loc) (ls : Array Slot), xG D cy xtb a S s H locs → lv_has ls 5 [(0, .ref (a 86)), (1, .int x1), (2, .int x2), (3, .int x3)] → W p l e ({ frames := 5, cells := 0, slots := 0, locals := 124 } : Room) s m args below meth c H locs 0 0 (MQ below (xQv D cy xtb a S' v' s.heap.size) args s 0 0 (xA xtb a s.heap.size)) (F0 m 6 ls [])) (n : Nat) : ∀ (S : xSt) (x4 : Int32) (H : Heap) (locs : List Loc) (ls : Array Slot), xlp (fun q : (xSt × Int32) => f_X10_seekTurn_34 x1 x2 x3 q.1 q.2) n (S, x4) = some q → xG D cy xtb a S s H locs → lv_has ls 5 [(0, .ref (a 86)), (1, .int x1), (2, .int x2), (3, .int x3), (4, .int x4)] → W p l e ({ frames := 5, cells := 0, slots := 0, locals := 124 } : Room) s m args below meth c H locs 0 0 (MQ below (xQv D cy xtb a S' v' s.heap.size) args s 0 0 (xA xtb a s.heap.size)) (F0 m 34 ls []) := by
  induction n with
  | zero => intro S x4 H locs ls h; exact (xlp_0 h).elim
  | succ n ih =>
    intro S x4 H locs ls h hG hl
    obtain ⟨q1, hq, hc, he⟩ := xlp_at h
    exact w_X10_seekTurn_34 hM hr hlk (q := q1) hq (fun t0 e => k0 t0 (he _ e).symm) (fun S x3 e => k1 S x3 (he _ e).symm) (fun S x4 e H locs ls hG hl => ih S x4 H locs ls (hc _ e) hG hl) hG hl
set_option maxHeartbeats 4000000 in
set_option maxRecDepth 100000 in
theorem w_X10_seekTurn_6 {x1 : Int32} {x2 : Int32} {x3 : Int32} (hM : xM p c cX10_seekTurn m s args RX10 5 D cy xtb a z) (hr : meth.sig.returnType = none) (hlk : meth.locks = false) {S' : xSt} {v' : Unit} {S : xSt} {q : ((xSt × Int32) ⊕ (xSt × Unit))} (h : f_X10_seekTurn_6 x1 x2 S x3 = some q) (k0 : ∀ t0 : xSt × Unit, q = (.inr t0) → t0 = (S', v')) (k1 : ∀ (S : xSt) (x3 : Int32), q = (.inl (S, x3)) → ∀ (H : Heap) (locs : List Loc) (ls : Array Slot), xG D cy xtb a S s H locs → lv_has ls 5 [(0, .ref (a 86)), (1, .int x1), (2, .int x2), (3, .int x3)] → W p l e ({ frames := 5, cells := 0, slots := 0, locals := 124 } : Room) s m args below meth c H locs 0 0 (MQ below (xQv D cy xtb a S' v' s.heap.size) args s 0 0 (xA xtb a s.heap.size)) (F0 m 6 ls [])) {H : Heap} {locs : List Loc} (hG : xG D cy xtb a S s H locs) {ls : Array Slot} (hl : lv_has ls 5 [(0, .ref (a 86)), (1, .int x1), (2, .int x2), (3, .int x3)]) : W p l e ({ frames := 5, cells := 0, slots := 0, locals := 124 } : Room) s m args below meth c H locs 0 0 (MQ below (xQv D cy xtb a S' v' s.heap.size) args s 0 0 (xA xtb a s.heap.size)) (F0 m 6 ls []) := by
  have hx := hM.1
  have hb := hM.2.1
  refine lv_iload_n hx hb dX10_seekTurn_6 rfl (lv_at hl 3 rfl) ?_
  refine lv_bipush (v := (64 : Int32)) hx hb dX10_seekTurn_7 (by decide) ?_
  refine x_icmp_ge (tgt := 84) hM h dX10_seekTurn_9 (by decide) (fun c_1 h => ?_) (fun c_1 h => ?_)
  · exact x_rv hM hG hr hlk (k0 _ (Option.some.inj h).symm) dX10_seekTurn_84
  · refine lv_iload_n hx hb dX10_seekTurn_12 rfl (lv_at hl 3 rfl) ?_
    refine x_cSi (As := [.int x3]) (rest := []) hM hG xml_X10_45 xwt_J6_bitCount_0f7a4 h (fun S' v e => c_J6_bitCount_0f7a4 hM.2.2.2.2.2.2.1 e _) ⟨Nat.le_of_ble_eq_true rfl, Nat.le_of_ble_eq_true rfl⟩ rfl hl.1 rfl (Nat.le_of_ble_eq_true rfl) dX10_seekTurn_13 (fun S_2 v_3 H locs h hG => ?_)
    refine lv_iload_n hx hb dX10_seekTurn_16 rfl (lv_at hl 1 rfl) ?_
    refine x_icmp_ne (tgt := 78) hM h dX10_seekTurn_17 (by decide) (fun c_4 h => ?_) (fun c_4 h => ?_)
    · exact w_X10_seekTurn_78 hM hr hlk h (fun t0 e => k0 t0 e) (fun S x3 e => k1 S x3 e) hG (lv_sub hl [0, 1, 2, 3] rfl)
    · refine lv_aload_n hx hb dX10_seekTurn_20 rfl (lv_at hl 0 rfl) ?_
      refine x_gr (r := 36) hM hG xfl_X10_15 xct_86 (by decide) rfl dX10_seekTurn_21 ?_
      refine lv_aload_n hx hb dX10_seekTurn_24 rfl (lv_at hl 0 rfl) ?_
      refine x_gr (r := 16) hM hG xfl_X10_9 xct_86 (by decide) rfl dX10_seekTurn_25 ?_
      refine x_cVv (As := [.ref (a 16)]) (rest := []) hM hG xml_X10_18 xwi_X4_takeAll xws_X4_takeAll xih_mind.1 (by decide) rfl h (fun S' v e => c_X4_takeAll hM.2.2.2.2.2.2.1 xih_mind xih_hay e _) ⟨Nat.le_of_ble_eq_true rfl, Nat.le_of_ble_eq_true rfl⟩ rfl hl.1 rfl (Nat.le_of_ble_eq_true rfl) dX10_seekTurn_28 (fun S_5 v_6 H locs h hG => ?_)
      refine lv_iconst (v := (0 : Int32)) hx hb dX10_seekTurn_31 (by decide) ?_
      refine lv_istore (lv' := [(4, .int (0 : Int32)), (0, .ref (a 86)), (1, .int x1), (2, .int x2), (3, .int x3)]) hx hb dX10_seekTurn_32 hl (by decide) rfl (fun ls hl => ?_)
      exact wl_X10_seekTurn_34 hM hr hlk (fun t0 e => k0 t0 e) (fun S x3 e => k1 S x3 e) 5000 _ _ _ _ _ h hG (lv_sub hl [1, 2, 3, 4, 0] rfl)
theorem wl_X10_seekTurn_6 {x1 : Int32} {x2 : Int32} (hM : xM p c cX10_seekTurn m s args RX10 5 D cy xtb a z) (hr : meth.sig.returnType = none) (hlk : meth.locks = false) {S' : xSt} {v' : Unit} {q : (xSt × Unit)} (k0 : ∀ t0 : xSt × Unit, q = t0 → t0 = (S', v')) (n : Nat) : ∀ (S : xSt) (x3 : Int32) (H : Heap) (locs : List Loc) (ls : Array Slot), xlp (fun q : (xSt × Int32) => f_X10_seekTurn_6 x1 x2 q.1 q.2) n (S, x3) = some q → xG D cy xtb a S s H locs → lv_has ls 5 [(0, .ref (a 86)), (1, .int x1), (2, .int x2), (3, .int x3)] → W p l e ({ frames := 5, cells := 0, slots := 0, locals := 124 } : Room) s m args below meth c H locs 0 0 (MQ below (xQv D cy xtb a S' v' s.heap.size) args s 0 0 (xA xtb a s.heap.size)) (F0 m 6 ls []) := by
  induction n with
  | zero => intro S x3 H locs ls h; exact (xlp_0 h).elim
  | succ n ih =>
    intro S x3 H locs ls h hG hl
    obtain ⟨q1, hq, hc, he⟩ := xlp_at h
    exact w_X10_seekTurn_6 hM hr hlk (q := q1) hq (fun t0 e => k0 t0 (he _ e).symm) (fun S x3 e H locs ls hG hl => ih S x3 H locs ls (hc _ e) hG hl) hG hl
set_option maxHeartbeats 4000000 in
set_option maxRecDepth 100000 in
theorem w_X10_seekTurn_0 {x1 : Int32} {x2 : Int32} (hM : xM p c cX10_seekTurn m s args RX10 5 D cy xtb a z) (hr : meth.sig.returnType = none) (hlk : meth.locks = false) {S' : xSt} {v' : Unit} {S : xSt} {q : (xSt × Unit)} (h : f_X10_seekTurn_0 x1 x2 S = some q) (k0 : ∀ t0 : xSt × Unit, q = t0 → t0 = (S', v')) {H : Heap} {locs : List Loc} (hG : xG D cy xtb a S s H locs) {ls : Array Slot} (hl : lv_has ls 5 [(0, .ref (a 86)), (1, .int x1), (2, .int x2)]) : W p l e ({ frames := 5, cells := 0, slots := 0, locals := 124 } : Room) s m args below meth c H locs 0 0 (MQ below (xQv D cy xtb a S' v' s.heap.size) args s 0 0 (xA xtb a s.heap.size)) (F0 m 0 ls []) := by
  have hx := hM.1
  have hb := hM.2.1
  refine lv_aload_n hx hb dX10_seekTurn_0 rfl (lv_at hl 0 rfl) ?_
  refine x_cVv (As := []) (rest := []) hM hG xml_X10_42 xwi_X10_forget xws_X10_forget xct_86 (by decide) rfl h (fun S' v e => c_X10_forget hM.2.2.2.2.2.2.1 e _) ⟨Nat.le_of_ble_eq_true rfl, Nat.le_of_ble_eq_true rfl⟩ rfl hl.1 rfl (Nat.le_of_ble_eq_true rfl) dX10_seekTurn_1 (fun S_1 v_2 H locs h hG => ?_)
  refine lv_iconst (v := (0 : Int32)) hx hb dX10_seekTurn_4 (by decide) ?_
  refine lv_istore_n (lv' := [(3, .int (0 : Int32)), (0, .ref (a 86)), (1, .int x1), (2, .int x2)]) hx hb dX10_seekTurn_5 rfl hl (by decide) rfl (fun ls hl => ?_)
  exact wl_X10_seekTurn_6 hM hr hlk (fun t0 e => k0 t0 e) 5000 _ _ _ _ _ h hG (lv_sub hl [1, 2, 3, 0] rfl)
set_option maxHeartbeats 4000000 in
set_option maxRecDepth 100000 in
theorem c_X10_seekTurn {l : Launch} {D : va_G} {cy : Nat → ClassId} {a z : Nat → Nat} (hI : xI xtb a) {S : xSt} {x1 : Int32} {x2 : Int32} {S' : xSt} {v' : Unit} (hf : f_X10_seekTurn S x1 x2 = some (S', v')) (sz : Nat) : Met l yX10_seekTurn (Cond.code yX10_seekTurn cX10_seekTurn 5 none :: xTB) ({ frames := 5, cells := 0, slots := 0, locals := 124 } : Room) (va_Pc [.ref (a 86), .int x1, .int x2] (xPre D cy xtb a z S sz)) (xQv D cy xtb a S' v' sz) 0 0 (xA xtb a sz) := by
  refine Met.ofW (cc := cX10_seekTurn) (maxL := 5) (ret := none) (by decide) rfl ?_
  intro p e s m args below meth c s₁ B hml hv
  obtain ⟨rfl, hsz, hP, hK, hE⟩ := hv
  subst hsz
  have hl := lv_entry ([.ref (a 86), .int x1, .int x2]) (n := 5) (Nat.le_of_ble_eq_true rfl)
  rw [lg_entry_eq]
  generalize (lg_sl ([.ref (a 86), .int x1, .int x2]) ++ List.replicate (5 - (lg_sl ([.ref (a 86), .int x1, .int x2])).length) Slot.unset).toArray = ls at hl ⊢
  have hl : lv_has ls 5 [(0, .ref (a 86)), (1, .int x1), (2, .int x2)] := hl
  exact w_X10_seekTurn_0 ⟨B.exec, B.bytes, hml, findClass_of_methodNamed B.named, fun w hw => atoms_spec (ws := Cond.code yX10_seekTurn cX10_seekTurn 5 none :: xTB) B.pre w (List.mem_cons_of_mem _ hw), hK, hI, hE⟩ B.returns B.notSynchronized hf (fun t0 e => e.symm) ⟨hP, va_S.rf⟩ (lv_sub hl [0, 1, 2] rfl)
set_option maxHeartbeats 4000000 in
set_option maxRecDepth 100000 in
theorem w_X10_seekChimney_58 {x1 : Int32} {x2 : Int32} (hM : xM p c cX10_seekChimney m s args RX10 3 D cy xtb a z) (hr : meth.sig.returnType = none) (hlk : meth.locks = false) {S' : xSt} {v' : Unit} {S : xSt} {q : ((xSt × Int32) ⊕ (xSt × Unit))} (h : f_X10_seekChimney_58 x1 x2 S = some q) (k0 : ∀ t0 : xSt × Unit, q = (.inr t0) → t0 = (S', v')) (k1 : ∀ (S : xSt) (x2 : Int32), q = (.inl (S, x2)) → ∀ (H : Heap) (locs : List Loc) (ls : Array Slot), xG D cy xtb a S s H locs → lv_has ls 3 [(0, .ref (a 86)), (1, .int x1), (2, .int x2)] → W p l e ({ frames := 5, cells := 0, slots := 0, locals := 124 } : Room) s m args below meth c H locs 0 0 (MQ below (xQv D cy xtb a S' v' s.heap.size) args s 0 0 (xA xtb a s.heap.size)) (F0 m 6 ls [])) {H : Heap} {locs : List Loc} (hG : xG D cy xtb a S s H locs) {ls : Array Slot} (hl : lv_has ls 3 [(0, .ref (a 86)), (1, .int x1), (2, .int x2)]) : W p l e ({ frames := 5, cells := 0, slots := 0, locals := 124 } : Room) s m args below meth c H locs 0 0 (MQ below (xQv D cy xtb a S' v' s.heap.size) args s 0 0 (xA xtb a s.heap.size)) (F0 m 58 ls []) := by
  have hx := hM.1
  have hb := hM.2.1
  refine x_iinc hM (fun v => [(2, .int v), (0, .ref (a 86)), (1, .int x1)]) h dX10_seekChimney_58 hl (k := 2) rfl (by decide) (by decide) (fun _ => rfl) (fun v_1 ls h hl => ?_)
  refine lv_goto (tgt := 6) hx hb dX10_seekChimney_61 (by decide) ?_
  exact k1 _ _ (Option.some.inj h).symm _ _ _ hG (lv_sub hl [1, 2, 0] rfl)
set_option maxHeartbeats 4000000 in
set_option maxRecDepth 100000 in
theorem w_X10_seekChimney_6 {x1 : Int32} {x2 : Int32} (hM : xM p c cX10_seekChimney m s args RX10 3 D cy xtb a z) (hr : meth.sig.returnType = none) (hlk : meth.locks = false) {S' : xSt} {v' : Unit} {S : xSt} {q : ((xSt × Int32) ⊕ (xSt × Unit))} (h : f_X10_seekChimney_6 x1 S x2 = some q) (k0 : ∀ t0 : xSt × Unit, q = (.inr t0) → t0 = (S', v')) (k1 : ∀ (S : xSt) (x2 : Int32), q = (.inl (S, x2)) → ∀ (H : Heap) (locs : List Loc) (ls : Array Slot), xG D cy xtb a S s H locs → lv_has ls 3 [(0, .ref (a 86)), (1, .int x1), (2, .int x2)] → W p l e ({ frames := 5, cells := 0, slots := 0, locals := 124 } : Room) s m args below meth c H locs 0 0 (MQ below (xQv D cy xtb a S' v' s.heap.size) args s 0 0 (xA xtb a s.heap.size)) (F0 m 6 ls [])) {H : Heap} {locs : List Loc} (hG : xG D cy xtb a S s H locs) {ls : Array Slot} (hl : lv_has ls 3 [(0, .ref (a 86)), (1, .int x1), (2, .int x2)]) : W p l e ({ frames := 5, cells := 0, slots := 0, locals := 124 } : Room) s m args below meth c H locs 0 0 (MQ below (xQv D cy xtb a S' v' s.heap.size) args s 0 0 (xA xtb a s.heap.size)) (F0 m 6 ls []) := by
  have hx := hM.1
  have hb := hM.2.1
  refine lv_iload_n hx hb dX10_seekChimney_6 rfl (lv_at hl 2 rfl) ?_
  refine lv_bipush (v := (6 : Int32)) hx hb dX10_seekChimney_7 (by decide) ?_
  refine x_icmp_ge (tgt := 64) hM h dX10_seekChimney_9 (by decide) (fun c_1 h => ?_) (fun c_1 h => ?_)
  · exact x_rv hM hG hr hlk (k0 _ (Option.some.inj h).symm) dX10_seekChimney_64
  · refine lv_aload_n hx hb dX10_seekChimney_12 rfl (lv_at hl 0 rfl) ?_
    refine x_gr (r := 16) hM hG xfl_X10_9 xct_86 (by decide) rfl dX10_seekChimney_13 ?_
    refine x_gr (r := 16 + 2) hM hG xfl_X10_62 xih_hay.1 (by decide) rfl dX10_seekChimney_16 ?_
    refine lv_iload_n hx hb dX10_seekChimney_19 rfl (lv_at hl 2 rfl) ?_
    refine x_iald hM hG xih_hay.2.2.1 h dX10_seekChimney_20 (fun v_2 h => ?_)
    refine x_if_ne (tgt := 58) hM h dX10_seekChimney_21 (by decide) (fun c_3 h => ?_) (fun c_3 h => ?_)
    · exact w_X10_seekChimney_58 hM hr hlk h (fun t0 e => k0 t0 e) (fun S x2 e => k1 S x2 e) hG (lv_sub hl [0, 1, 2] rfl)
    · refine lv_aload_n hx hb dX10_seekChimney_24 rfl (lv_at hl 0 rfl) ?_
      refine x_gr (r := 36) hM hG xfl_X10_15 xct_86 (by decide) rfl dX10_seekChimney_25 ?_
      refine lv_aload_n hx hb dX10_seekChimney_28 rfl (lv_at hl 0 rfl) ?_
      refine x_gr (r := 16) hM hG xfl_X10_9 xct_86 (by decide) rfl dX10_seekChimney_29 ?_
      refine x_cVv (As := [.ref (a 16)]) (rest := []) hM hG xml_X10_18 xwi_X4_takeAll xws_X4_takeAll xih_mind.1 (by decide) rfl h (fun S' v e => c_X4_takeAll hM.2.2.2.2.2.2.1 xih_mind xih_hay e _) ⟨Nat.le_of_ble_eq_true rfl, Nat.le_of_ble_eq_true rfl⟩ rfl hl.1 rfl (Nat.le_of_ble_eq_true rfl) dX10_seekChimney_32 (fun S_4 v_5 H locs h hG => ?_)
      refine lv_aload_n hx hb dX10_seekChimney_35 rfl (lv_at hl 0 rfl) ?_
      refine x_gr (r := 36) hM hG xfl_X10_15 xct_86 (by decide) rfl dX10_seekChimney_36 ?_
      refine x_gr (r := 36 + 2) hM hG xfl_X10_62 xih_mind.1 (by decide) rfl dX10_seekChimney_39 ?_
      refine lv_iload_n hx hb dX10_seekChimney_42 rfl (lv_at hl 2 rfl) ?_
      refine lv_iconst (v := (1 : Int32)) hx hb dX10_seekChimney_43 (by decide) ?_
      refine x_iast hM hG xih_mind.2.2.1 h dX10_seekChimney_44 (fun S_6 H locs h hG => ?_)
      refine lv_aload_n hx hb dX10_seekChimney_45 rfl (lv_at hl 0 rfl) ?_
      refine lv_aload_n hx hb dX10_seekChimney_46 rfl (lv_at hl 0 rfl) ?_
      refine x_gr (r := 36) hM hG xfl_X10_15 xct_86 (by decide) rfl dX10_seekChimney_47 ?_
      refine lv_iload_n hx hb dX10_seekChimney_50 rfl (lv_at hl 1 rfl) ?_
      refine x_cVi (As := [.int x1]) (rest := [.ref (a 86)]) hM hG xml_X10_55 xwi_X4_hottestBehind xws_X4_hottestBehind xih_mind.1 (by decide) rfl h (fun S' v e => c_X4_hottestBehind hM.2.2.2.2.2.2.1 xih_mind e _) ⟨Nat.le_of_ble_eq_true rfl, Nat.le_of_ble_eq_true rfl⟩ rfl hl.1 rfl (Nat.le_of_ble_eq_true rfl) dX10_seekChimney_51 (fun S_7 v_8 H locs h hG => ?_)
      refine lv_iload_n hx hb dX10_seekChimney_54 rfl (lv_at hl 2 rfl) ?_
      refine x_cVv (As := [.int v_8, .int x2]) (rest := []) hM hG xml_X10_58 xwi_X10_takeCooler xws_X10_takeCooler xct_86 (by decide) rfl h (fun S' v e => c_X10_takeCooler hM.2.2.2.2.2.2.1 e _) ⟨Nat.le_of_ble_eq_true rfl, Nat.le_of_ble_eq_true rfl⟩ rfl hl.1 rfl (Nat.le_of_ble_eq_true rfl) dX10_seekChimney_55 (fun S_9 v_10 H locs h hG => ?_)
      exact w_X10_seekChimney_58 hM hr hlk h (fun t0 e => k0 t0 e) (fun S x2 e => k1 S x2 e) hG (lv_sub hl [0, 1, 2] rfl)
theorem wl_X10_seekChimney_6 {x1 : Int32} (hM : xM p c cX10_seekChimney m s args RX10 3 D cy xtb a z) (hr : meth.sig.returnType = none) (hlk : meth.locks = false) {S' : xSt} {v' : Unit} {q : (xSt × Unit)} (k0 : ∀ t0 : xSt × Unit, q = t0 → t0 = (S', v')) (n : Nat) : ∀ (S : xSt) (x2 : Int32) (H : Heap) (locs : List Loc) (ls : Array Slot), xlp (fun q : (xSt × Int32) => f_X10_seekChimney_6 x1 q.1 q.2) n (S, x2) = some q → xG D cy xtb a S s H locs → lv_has ls 3 [(0, .ref (a 86)), (1, .int x1), (2, .int x2)] → W p l e ({ frames := 5, cells := 0, slots := 0, locals := 124 } : Room) s m args below meth c H locs 0 0 (MQ below (xQv D cy xtb a S' v' s.heap.size) args s 0 0 (xA xtb a s.heap.size)) (F0 m 6 ls []) := by
  induction n with
  | zero => intro S x2 H locs ls h; exact (xlp_0 h).elim
  | succ n ih =>
    intro S x2 H locs ls h hG hl
    obtain ⟨q1, hq, hc, he⟩ := xlp_at h
    exact w_X10_seekChimney_6 hM hr hlk (q := q1) hq (fun t0 e => k0 t0 (he _ e).symm) (fun S x2 e H locs ls hG hl => ih S x2 H locs ls (hc _ e) hG hl) hG hl
set_option maxHeartbeats 4000000 in
set_option maxRecDepth 100000 in
theorem w_X10_seekChimney_0 {x1 : Int32} (hM : xM p c cX10_seekChimney m s args RX10 3 D cy xtb a z) (hr : meth.sig.returnType = none) (hlk : meth.locks = false) {S' : xSt} {v' : Unit} {S : xSt} {q : (xSt × Unit)} (h : f_X10_seekChimney_0 x1 S = some q) (k0 : ∀ t0 : xSt × Unit, q = t0 → t0 = (S', v')) {H : Heap} {locs : List Loc} (hG : xG D cy xtb a S s H locs) {ls : Array Slot} (hl : lv_has ls 3 [(0, .ref (a 86)), (1, .int x1)]) : W p l e ({ frames := 5, cells := 0, slots := 0, locals := 124 } : Room) s m args below meth c H locs 0 0 (MQ below (xQv D cy xtb a S' v' s.heap.size) args s 0 0 (xA xtb a s.heap.size)) (F0 m 0 ls []) := by
  have hx := hM.1
  have hb := hM.2.1
  refine lv_aload_n hx hb dX10_seekChimney_0 rfl (lv_at hl 0 rfl) ?_
  refine x_cVv (As := []) (rest := []) hM hG xml_X10_42 xwi_X10_forget xws_X10_forget xct_86 (by decide) rfl h (fun S' v e => c_X10_forget hM.2.2.2.2.2.2.1 e _) ⟨Nat.le_of_ble_eq_true rfl, Nat.le_of_ble_eq_true rfl⟩ rfl hl.1 rfl (Nat.le_of_ble_eq_true rfl) dX10_seekChimney_1 (fun S_1 v_2 H locs h hG => ?_)
  refine lv_iconst (v := (0 : Int32)) hx hb dX10_seekChimney_4 (by decide) ?_
  refine lv_istore_n (lv' := [(2, .int (0 : Int32)), (0, .ref (a 86)), (1, .int x1)]) hx hb dX10_seekChimney_5 rfl hl (by decide) rfl (fun ls hl => ?_)
  exact wl_X10_seekChimney_6 hM hr hlk (fun t0 e => k0 t0 e) 5000 _ _ _ _ _ h hG (lv_sub hl [1, 2, 0] rfl)
set_option maxHeartbeats 4000000 in
set_option maxRecDepth 100000 in
theorem c_X10_seekChimney {l : Launch} {D : va_G} {cy : Nat → ClassId} {a z : Nat → Nat} (hI : xI xtb a) {S : xSt} {x1 : Int32} {S' : xSt} {v' : Unit} (hf : f_X10_seekChimney S x1 = some (S', v')) (sz : Nat) : Met l yX10_seekChimney (Cond.code yX10_seekChimney cX10_seekChimney 3 none :: xTB) ({ frames := 5, cells := 0, slots := 0, locals := 124 } : Room) (va_Pc [.ref (a 86), .int x1] (xPre D cy xtb a z S sz)) (xQv D cy xtb a S' v' sz) 0 0 (xA xtb a sz) := by
  refine Met.ofW (cc := cX10_seekChimney) (maxL := 3) (ret := none) (by decide) rfl ?_
  intro p e s m args below meth c s₁ B hml hv
  obtain ⟨rfl, hsz, hP, hK, hE⟩ := hv
  subst hsz
  have hl := lv_entry ([.ref (a 86), .int x1]) (n := 3) (Nat.le_of_ble_eq_true rfl)
  rw [lg_entry_eq]
  generalize (lg_sl ([.ref (a 86), .int x1]) ++ List.replicate (3 - (lg_sl ([.ref (a 86), .int x1])).length) Slot.unset).toArray = ls at hl ⊢
  have hl : lv_has ls 3 [(0, .ref (a 86)), (1, .int x1)] := hl
  exact w_X10_seekChimney_0 ⟨B.exec, B.bytes, hml, findClass_of_methodNamed B.named, fun w hw => atoms_spec (ws := Cond.code yX10_seekChimney cX10_seekChimney 3 none :: xTB) B.pre w (List.mem_cons_of_mem _ hw), hK, hI, hE⟩ B.returns B.notSynchronized hf (fun t0 e => e.symm) ⟨hP, va_S.rf⟩ (lv_sub hl [0, 1] rfl)
set_option maxHeartbeats 4000000 in
set_option maxRecDepth 100000 in
theorem w_X10_staysDarkIfTurned_30 {x2 : Int32} (hM : xM p c cX10_staysDarkIfTurned m s args RX10 3 D cy xtb a z) (hr : meth.sig.returnType = (some .boolean)) (hlk : meth.locks = false) {S' : xSt} {v' : Int32} {S : xSt} {q : ((xSt × Int32) ⊕ (xSt × Int32))} (h : f_X10_staysDarkIfTurned_30 S x2 = some q) (k0 : ∀ t0 : xSt × Int32, q = (.inr t0) → t0 = (S', v')) (k1 : ∀ (S : xSt) (x2 : Int32), q = (.inl (S, x2)) → ∀ (H : Heap) (locs : List Loc) (ls : Array Slot), xG D cy xtb a S s H locs → lv_has ls 3 [(0, .ref (a 86)), (2, .int x2)] → W p l e ({ frames := 5, cells := 0, slots := 0, locals := 124 } : Room) s m args below meth c H locs 0 0 (MQ below (xQi D cy xtb a S' v' s.heap.size) args s 0 0 (xA xtb a s.heap.size)) (F0 m 30 ls [])) {H : Heap} {locs : List Loc} (hG : xG D cy xtb a S s H locs) {ls : Array Slot} (hl : lv_has ls 3 [(0, .ref (a 86)), (2, .int x2)]) : W p l e ({ frames := 5, cells := 0, slots := 0, locals := 124 } : Room) s m args below meth c H locs 0 0 (MQ below (xQi D cy xtb a S' v' s.heap.size) args s 0 0 (xA xtb a s.heap.size)) (F0 m 30 ls []) := by
  have hx := hM.1
  have hb := hM.2.1
  refine lv_iload_n hx hb dX10_staysDarkIfTurned_30 rfl (lv_at hl 1 rfl) ?_
  refine lv_bipush (v := (40 : Int32)) hx hb dX10_staysDarkIfTurned_31 (by decide) ?_
  refine x_icmp_gt (tgt := 61) hM h dX10_staysDarkIfTurned_33 (by decide) (fun c_1 h => ?_) (fun c_1 h => ?_)
  · refine lv_iconst (v := (1 : Int32)) hx hb dX10_staysDarkIfTurned_61 (by decide) ?_
    obtain ⟨hz, h⟩ := xgd_at h
    exact x_ri hM hG hr hlk (x_nz hz) (k0 _ (Option.some.inj h).symm) dX10_staysDarkIfTurned_62
  · refine lv_aload_n hx hb dX10_staysDarkIfTurned_36 rfl (lv_at hl 0 rfl) ?_
    refine x_gr (r := 36) hM hG xfl_X10_15 xct_86 (by decide) rfl dX10_staysDarkIfTurned_37 ?_
    refine x_cVi (As := []) (rest := []) hM hG xml_X10_85 xwi_X4_glowing xws_X4_glowing xih_mind.1 (by decide) rfl h (fun S' v e => c_X4_glowing hM.2.2.2.2.2.2.1 xih_mind e _) ⟨Nat.le_of_ble_eq_true rfl, Nat.le_of_ble_eq_true rfl⟩ rfl hl.1 rfl (Nat.le_of_ble_eq_true rfl) dX10_staysDarkIfTurned_40 (fun S_2 v_3 H locs h hG => ?_)
    refine x_if_le (tgt := 48) hM h dX10_staysDarkIfTurned_43 (by decide) (fun c_4 h => ?_) (fun c_4 h => ?_)
    · refine lv_aload_n hx hb dX10_staysDarkIfTurned_48 rfl (lv_at hl 0 rfl) ?_
      refine x_gr (r := 36) hM hG xfl_X10_15 xct_86 (by decide) rfl dX10_staysDarkIfTurned_49 ?_
      refine x_cVv (As := []) (rest := []) hM hG xml_X10_24 xwi_X4_passDay xws_X4_passDay xih_mind.1 (by decide) rfl h (fun S' v e => c_X4_passDay hM.2.2.2.2.2.2.1 xih_mind e _) ⟨Nat.le_of_ble_eq_true rfl, Nat.le_of_ble_eq_true rfl⟩ rfl hl.1 rfl (Nat.le_of_ble_eq_true rfl) dX10_staysDarkIfTurned_52 (fun S_5 v_6 H locs h hG => ?_)
      refine x_iinc hM (fun v => [(2, .int v), (0, .ref (a 86))]) h dX10_staysDarkIfTurned_55 hl (k := 1) rfl (by decide) (by decide) (fun _ => rfl) (fun v_7 ls h hl => ?_)
      refine lv_goto (tgt := 30) hx hb dX10_staysDarkIfTurned_58 (by decide) ?_
      exact k1 _ _ (Option.some.inj h).symm _ _ _ hG (lv_sub hl [1, 0] rfl)
    · refine lv_iconst (v := (0 : Int32)) hx hb dX10_staysDarkIfTurned_46 (by decide) ?_
      obtain ⟨hz, h⟩ := xgd_at h
      exact x_ri hM hG hr hlk (x_nz hz) (k0 _ (Option.some.inj h).symm) dX10_staysDarkIfTurned_47
theorem wl_X10_staysDarkIfTurned_30 (hM : xM p c cX10_staysDarkIfTurned m s args RX10 3 D cy xtb a z) (hr : meth.sig.returnType = (some .boolean)) (hlk : meth.locks = false) {S' : xSt} {v' : Int32} {q : (xSt × Int32)} (k0 : ∀ t0 : xSt × Int32, q = t0 → t0 = (S', v')) (n : Nat) : ∀ (S : xSt) (x2 : Int32) (H : Heap) (locs : List Loc) (ls : Array Slot), xlp (fun q : (xSt × Int32) => f_X10_staysDarkIfTurned_30 q.1 q.2) n (S, x2) = some q → xG D cy xtb a S s H locs → lv_has ls 3 [(0, .ref (a 86)), (2, .int x2)] → W p l e ({ frames := 5, cells := 0, slots := 0, locals := 124 } : Room) s m args below meth c H locs 0 0 (MQ below (xQi D cy xtb a S' v' s.heap.size) args s 0 0 (xA xtb a s.heap.size)) (F0 m 30 ls []) := by
  induction n with
  | zero => intro S x2 H locs ls h; exact (xlp_0 h).elim
  | succ n ih =>
    intro S x2 H locs ls h hG hl
    obtain ⟨q1, hq, hc, he⟩ := xlp_at h
    exact w_X10_staysDarkIfTurned_30 hM hr hlk (q := q1) hq (fun t0 e => k0 t0 (he _ e).symm) (fun S x2 e H locs ls hG hl => ih S x2 H locs ls (hc _ e) hG hl) hG hl
set_option maxHeartbeats 4000000 in
set_option maxRecDepth 100000 in
theorem w_X10_staysDarkIfTurned_28 {x1 : Int32} (hM : xM p c cX10_staysDarkIfTurned m s args RX10 3 D cy xtb a z) (hr : meth.sig.returnType = (some .boolean)) (hlk : meth.locks = false) {S' : xSt} {v' : Int32} {S : xSt} {q : (xSt × Int32)} (h : f_X10_staysDarkIfTurned_28 x1 S = some q) (k0 : ∀ t0 : xSt × Int32, q = t0 → t0 = (S', v')) {H : Heap} {locs : List Loc} (hG : xG D cy xtb a S s H locs) {ls : Array Slot} (hl : lv_has ls 3 [(0, .ref (a 86)), (1, .int x1)]) : W p l e ({ frames := 5, cells := 0, slots := 0, locals := 124 } : Room) s m args below meth c H locs 0 0 (MQ below (xQi D cy xtb a S' v' s.heap.size) args s 0 0 (xA xtb a s.heap.size)) (F0 m 28 ls []) := by
  have hx := hM.1
  have hb := hM.2.1
  refine lv_iload_n hx hb dX10_staysDarkIfTurned_28 rfl (lv_at hl 1 rfl) ?_
  refine lv_istore_n (lv' := [(2, .int x1), (0, .ref (a 86)), (1, .int x1)]) hx hb dX10_staysDarkIfTurned_29 rfl hl (by decide) rfl (fun ls hl => ?_)
  exact wl_X10_staysDarkIfTurned_30 hM hr hlk (fun t0 e => k0 t0 e) 5000 _ _ _ _ _ h hG (lv_sub hl [1, 0] rfl)
set_option maxHeartbeats 4000000 in
set_option maxRecDepth 100000 in
theorem w_X10_staysDarkIfTurned_8 {x1 : Int32} {x2 : Int32} (hM : xM p c cX10_staysDarkIfTurned m s args RX10 3 D cy xtb a z) (hr : meth.sig.returnType = (some .boolean)) (hlk : meth.locks = false) {S' : xSt} {v' : Int32} {S : xSt} {q : ((xSt × Int32) ⊕ (xSt × Int32))} (h : f_X10_staysDarkIfTurned_8 x1 S x2 = some q) (k0 : ∀ t0 : xSt × Int32, q = (.inr t0) → t0 = (S', v')) (k1 : ∀ (S : xSt) (x2 : Int32), q = (.inl (S, x2)) → ∀ (H : Heap) (locs : List Loc) (ls : Array Slot), xG D cy xtb a S s H locs → lv_has ls 3 [(0, .ref (a 86)), (1, .int x1), (2, .int x2)] → W p l e ({ frames := 5, cells := 0, slots := 0, locals := 124 } : Room) s m args below meth c H locs 0 0 (MQ below (xQi D cy xtb a S' v' s.heap.size) args s 0 0 (xA xtb a s.heap.size)) (F0 m 8 ls [])) {H : Heap} {locs : List Loc} (hG : xG D cy xtb a S s H locs) {ls : Array Slot} (hl : lv_has ls 3 [(0, .ref (a 86)), (1, .int x1), (2, .int x2)]) : W p l e ({ frames := 5, cells := 0, slots := 0, locals := 124 } : Room) s m args below meth c H locs 0 0 (MQ below (xQi D cy xtb a S' v' s.heap.size) args s 0 0 (xA xtb a s.heap.size)) (F0 m 8 ls []) := by
  have hx := hM.1
  have hb := hM.2.1
  refine lv_iload_n hx hb dX10_staysDarkIfTurned_8 rfl (lv_at hl 2 rfl) ?_
  refine lv_bipush (v := (6 : Int32)) hx hb dX10_staysDarkIfTurned_9 (by decide) ?_
  refine x_icmp_ge (tgt := 28) hM h dX10_staysDarkIfTurned_11 (by decide) (fun c_1 h => ?_) (fun c_1 h => ?_)
  · obtain ⟨q1, h, e1⟩ := xmr_at h
    exact w_X10_staysDarkIfTurned_28 hM hr hlk h (fun t0 e => k0 t0 (by rw [e1, e])) hG (lv_sub hl [0, 1] rfl)
  · refine lv_aload_n hx hb dX10_staysDarkIfTurned_14 rfl (lv_at hl 0 rfl) ?_
    refine x_gr (r := 36) hM hG xfl_X10_15 xct_86 (by decide) rfl dX10_staysDarkIfTurned_15 ?_
    refine lv_iload_n hx hb dX10_staysDarkIfTurned_18 rfl (lv_at hl 2 rfl) ?_
    refine x_cVv (As := [.int x2]) (rest := []) hM hG xml_X10_51 xwi_X4_turnColumn xws_X4_turnColumn xih_mind.1 (by decide) rfl h (fun S' v e => c_X4_turnColumn hM.2.2.2.2.2.2.1 xih_mind e _) ⟨Nat.le_of_ble_eq_true rfl, Nat.le_of_ble_eq_true rfl⟩ rfl hl.1 rfl (Nat.le_of_ble_eq_true rfl) dX10_staysDarkIfTurned_19 (fun S_2 v_3 H locs h hG => ?_)
    refine x_iinc hM (fun v => [(2, .int v), (0, .ref (a 86)), (1, .int x1)]) h dX10_staysDarkIfTurned_22 hl (k := 2) rfl (by decide) (by decide) (fun _ => rfl) (fun v_4 ls h hl => ?_)
    refine lv_goto (tgt := 8) hx hb dX10_staysDarkIfTurned_25 (by decide) ?_
    exact k1 _ _ (Option.some.inj h).symm _ _ _ hG (lv_sub hl [1, 2, 0] rfl)
theorem wl_X10_staysDarkIfTurned_8 {x1 : Int32} (hM : xM p c cX10_staysDarkIfTurned m s args RX10 3 D cy xtb a z) (hr : meth.sig.returnType = (some .boolean)) (hlk : meth.locks = false) {S' : xSt} {v' : Int32} {q : (xSt × Int32)} (k0 : ∀ t0 : xSt × Int32, q = t0 → t0 = (S', v')) (n : Nat) : ∀ (S : xSt) (x2 : Int32) (H : Heap) (locs : List Loc) (ls : Array Slot), xlp (fun q : (xSt × Int32) => f_X10_staysDarkIfTurned_8 x1 q.1 q.2) n (S, x2) = some q → xG D cy xtb a S s H locs → lv_has ls 3 [(0, .ref (a 86)), (1, .int x1), (2, .int x2)] → W p l e ({ frames := 5, cells := 0, slots := 0, locals := 124 } : Room) s m args below meth c H locs 0 0 (MQ below (xQi D cy xtb a S' v' s.heap.size) args s 0 0 (xA xtb a s.heap.size)) (F0 m 8 ls []) := by
  induction n with
  | zero => intro S x2 H locs ls h; exact (xlp_0 h).elim
  | succ n ih =>
    intro S x2 H locs ls h hG hl
    obtain ⟨q1, hq, hc, he⟩ := xlp_at h
    exact w_X10_staysDarkIfTurned_8 hM hr hlk (q := q1) hq (fun t0 e => k0 t0 (he _ e).symm) (fun S x2 e H locs ls hG hl => ih S x2 H locs ls (hc _ e) hG hl) hG hl
set_option maxHeartbeats 4000000 in
set_option maxRecDepth 100000 in
theorem w_X10_staysDarkIfTurned_0 {x1 : Int32} (hM : xM p c cX10_staysDarkIfTurned m s args RX10 3 D cy xtb a z) (hr : meth.sig.returnType = (some .boolean)) (hlk : meth.locks = false) {S' : xSt} {v' : Int32} {S : xSt} {q : (xSt × Int32)} (h : f_X10_staysDarkIfTurned_0 x1 S = some q) (k0 : ∀ t0 : xSt × Int32, q = t0 → t0 = (S', v')) {H : Heap} {locs : List Loc} (hG : xG D cy xtb a S s H locs) {ls : Array Slot} (hl : lv_has ls 3 [(0, .ref (a 86)), (1, .int x1)]) : W p l e ({ frames := 5, cells := 0, slots := 0, locals := 124 } : Room) s m args below meth c H locs 0 0 (MQ below (xQi D cy xtb a S' v' s.heap.size) args s 0 0 (xA xtb a s.heap.size)) (F0 m 0 ls []) := by
  have hx := hM.1
  have hb := hM.2.1
  refine lv_aload_n hx hb dX10_staysDarkIfTurned_0 rfl (lv_at hl 0 rfl) ?_
  refine lv_iload_n hx hb dX10_staysDarkIfTurned_1 rfl (lv_at hl 1 rfl) ?_
  refine x_cVr (As := [.int x1]) (rest := []) hM hG xml_X10_81 xwi_X10_behind xws_X10_behind xct_86 (by decide) rfl h (fun S' v e => c_X10_behind hM.2.2.2.2.2.2.1 e _) ⟨Nat.le_of_ble_eq_true rfl, Nat.le_of_ble_eq_true rfl⟩ rfl hl.1 rfl (Nat.le_of_ble_eq_true rfl) dX10_staysDarkIfTurned_2 (fun S_1 v_2 H locs h hG => ?_)
  obtain ⟨rfl, h⟩ := xgd_at h
  refine lv_pop hx hb dX10_staysDarkIfTurned_5 rfl ?_
  refine lv_iconst (v := (0 : Int32)) hx hb dX10_staysDarkIfTurned_6 (by decide) ?_
  refine lv_istore_n (lv' := [(2, .int (0 : Int32)), (0, .ref (a 86)), (1, .int x1)]) hx hb dX10_staysDarkIfTurned_7 rfl hl (by decide) rfl (fun ls hl => ?_)
  exact wl_X10_staysDarkIfTurned_8 hM hr hlk (fun t0 e => k0 t0 e) 5000 _ _ _ _ _ h hG (lv_sub hl [1, 2, 0] rfl)
set_option maxHeartbeats 4000000 in
set_option maxRecDepth 100000 in
theorem c_X10_staysDarkIfTurned {l : Launch} {D : va_G} {cy : Nat → ClassId} {a z : Nat → Nat} (hI : xI xtb a) {S : xSt} {x1 : Int32} {S' : xSt} {v' : Int32} (hf : f_X10_staysDarkIfTurned S x1 = some (S', v')) (sz : Nat) : Met l yX10_staysDarkIfTurned (Cond.code yX10_staysDarkIfTurned cX10_staysDarkIfTurned 3 (some .boolean) :: xTB) ({ frames := 5, cells := 0, slots := 0, locals := 124 } : Room) (va_Pc [.ref (a 86), .int x1] (xPre D cy xtb a z S sz)) (xQi D cy xtb a S' v' sz) 0 0 (xA xtb a sz) := by
  refine Met.ofW (cc := cX10_staysDarkIfTurned) (maxL := 3) (ret := (some .boolean)) (by decide) rfl ?_
  intro p e s m args below meth c s₁ B hml hv
  obtain ⟨rfl, hsz, hP, hK, hE⟩ := hv
  subst hsz
  have hl := lv_entry ([.ref (a 86), .int x1]) (n := 3) (Nat.le_of_ble_eq_true rfl)
  rw [lg_entry_eq]
  generalize (lg_sl ([.ref (a 86), .int x1]) ++ List.replicate (3 - (lg_sl ([.ref (a 86), .int x1])).length) Slot.unset).toArray = ls at hl ⊢
  have hl : lv_has ls 3 [(0, .ref (a 86)), (1, .int x1)] := hl
  exact w_X10_staysDarkIfTurned_0 ⟨B.exec, B.bytes, hml, findClass_of_methodNamed B.named, fun w hw => atoms_spec (ws := Cond.code yX10_staysDarkIfTurned cX10_staysDarkIfTurned 3 (some .boolean) :: xTB) B.pre w (List.mem_cons_of_mem _ hw), hK, hI, hE⟩ B.returns B.notSynchronized hf (fun t0 e => e.symm) ⟨hP, va_S.rf⟩ (lv_sub hl [0, 1] rfl)
set_option maxHeartbeats 4000000 in
set_option maxRecDepth 100000 in
theorem w_X10_latestTurn_22 {x2 : Int32} (hM : xM p c cX10_latestTurn m s args RX10 3 D cy xtb a z) (hr : meth.sig.returnType = (some .int)) (hlk : meth.locks = false) {S' : xSt} {v' : Int32} {S : xSt} {q : ((xSt × Int32) ⊕ (xSt × Int32))} (h : f_X10_latestTurn_22 S x2 = some q) (k0 : ∀ t0 : xSt × Int32, q = (.inr t0) → t0 = (S', v')) (k1 : ∀ (S : xSt) (x2 : Int32), q = (.inl (S, x2)) → ∀ (H : Heap) (locs : List Loc) (ls : Array Slot), xG D cy xtb a S s H locs → lv_has ls 3 [(0, .ref (a 86)), (2, .int x2)] → W p l e ({ frames := 6, cells := 0, slots := 0, locals := 146 } : Room) s m args below meth c H locs 0 0 (MQ below (xQi D cy xtb a S' v' s.heap.size) args s 0 0 (xA xtb a s.heap.size)) (F0 m 22 ls [])) {H : Heap} {locs : List Loc} (hG : xG D cy xtb a S s H locs) {ls : Array Slot} (hl : lv_has ls 3 [(0, .ref (a 86)), (2, .int x2)]) : W p l e ({ frames := 6, cells := 0, slots := 0, locals := 146 } : Room) s m args below meth c H locs 0 0 (MQ below (xQi D cy xtb a S' v' s.heap.size) args s 0 0 (xA xtb a s.heap.size)) (F0 m 22 ls []) := by
  have hx := hM.1
  have hb := hM.2.1
  refine lv_iload_n hx hb dX10_latestTurn_22 rfl (lv_at hl 1 rfl) ?_
  refine x_if_lt (tgt := 42) hM h dX10_latestTurn_23 (by decide) (fun c_1 h => ?_) (fun c_1 h => ?_)
  · refine lv_bipush (v := (-2 : Int32)) hx hb dX10_latestTurn_42 (by decide) ?_
    exact x_ri hM hG hr hlk rfl (k0 _ (Option.some.inj h).symm) dX10_latestTurn_44
  · refine lv_aload_n hx hb dX10_latestTurn_26 rfl (lv_at hl 0 rfl) ?_
    refine lv_iload_n hx hb dX10_latestTurn_27 rfl (lv_at hl 1 rfl) ?_
    refine x_cVi (As := [.int x2]) (rest := []) hM hG xml_X10_77 xwi_X10_staysDarkIfTurned xws_X10_staysDarkIfTurned xct_86 (by decide) rfl h (fun S' v e => c_X10_staysDarkIfTurned hM.2.2.2.2.2.2.1 e _) ⟨Nat.le_of_ble_eq_true rfl, Nat.le_of_ble_eq_true rfl⟩ rfl hl.1 rfl (Nat.le_of_ble_eq_true rfl) dX10_latestTurn_28 (fun S_2 v_3 H locs h hG => ?_)
    refine x_if_eq (tgt := 36) hM h dX10_latestTurn_31 (by decide) (fun c_4 h => ?_) (fun c_4 h => ?_)
    · refine x_iinc hM (fun v => [(2, .int v), (0, .ref (a 86))]) h dX10_latestTurn_36 hl (k := 1) rfl (by decide) (by decide) (fun _ => rfl) (fun v_5 ls h hl => ?_)
      refine lv_goto (tgt := 22) hx hb dX10_latestTurn_39 (by decide) ?_
      exact k1 _ _ (Option.some.inj h).symm _ _ _ hG (lv_sub hl [1, 0] rfl)
    · refine lv_iload_n hx hb dX10_latestTurn_34 rfl (lv_at hl 1 rfl) ?_
      exact x_ri hM hG hr hlk rfl (k0 _ (Option.some.inj h).symm) dX10_latestTurn_35
theorem wl_X10_latestTurn_22 (hM : xM p c cX10_latestTurn m s args RX10 3 D cy xtb a z) (hr : meth.sig.returnType = (some .int)) (hlk : meth.locks = false) {S' : xSt} {v' : Int32} {q : (xSt × Int32)} (k0 : ∀ t0 : xSt × Int32, q = t0 → t0 = (S', v')) (n : Nat) : ∀ (S : xSt) (x2 : Int32) (H : Heap) (locs : List Loc) (ls : Array Slot), xlp (fun q : (xSt × Int32) => f_X10_latestTurn_22 q.1 q.2) n (S, x2) = some q → xG D cy xtb a S s H locs → lv_has ls 3 [(0, .ref (a 86)), (2, .int x2)] → W p l e ({ frames := 6, cells := 0, slots := 0, locals := 146 } : Room) s m args below meth c H locs 0 0 (MQ below (xQi D cy xtb a S' v' s.heap.size) args s 0 0 (xA xtb a s.heap.size)) (F0 m 22 ls []) := by
  induction n with
  | zero => intro S x2 H locs ls h; exact (xlp_0 h).elim
  | succ n ih =>
    intro S x2 H locs ls h hG hl
    obtain ⟨q1, hq, hc, he⟩ := xlp_at h
    exact w_X10_latestTurn_22 hM hr hlk (q := q1) hq (fun t0 e => k0 t0 (he _ e).symm) (fun S x2 e H locs ls hG hl => ih S x2 H locs ls (hc _ e) hG hl) hG hl
set_option maxHeartbeats 4000000 in
set_option maxRecDepth 100000 in
theorem w_X10_latestTurn_0 (hM : xM p c cX10_latestTurn m s args RX10 3 D cy xtb a z) (hr : meth.sig.returnType = (some .int)) (hlk : meth.locks = false) {S' : xSt} {v' : Int32} {S : xSt} {q : (xSt × Int32)} (h : f_X10_latestTurn_0 S = some q) (k0 : ∀ t0 : xSt × Int32, q = t0 → t0 = (S', v')) {H : Heap} {locs : List Loc} (hG : xG D cy xtb a S s H locs) {ls : Array Slot} (hl : lv_has ls 3 [(0, .ref (a 86))]) : W p l e ({ frames := 6, cells := 0, slots := 0, locals := 146 } : Room) s m args below meth c H locs 0 0 (MQ below (xQi D cy xtb a S' v' s.heap.size) args s 0 0 (xA xtb a s.heap.size)) (F0 m 0 ls []) := by
  have hx := hM.1
  have hb := hM.2.1
  refine lv_aload_n hx hb dX10_latestTurn_0 rfl (lv_at hl 0 rfl) ?_
  refine lv_iconst (v := (-1 : Int32)) hx hb dX10_latestTurn_1 (by decide) ?_
  refine lv_aload_n hx hb dX10_latestTurn_2 rfl (lv_at hl 0 rfl) ?_
  refine x_gr (r := 16) hM hG xfl_X10_9 xct_86 (by decide) rfl dX10_latestTurn_3 ?_
  refine x_gi hM hG xfl_X10_65 xih_hay.1 (by decide) rfl h dX10_latestTurn_6 (fun v_1 h => ?_)
  refine x_cVi (As := [.int (-1 : Int32), .int v_1]) (rest := []) hM hG xml_X10_68 xwi_X10_firstDay xws_X10_firstDay xct_86 (by decide) rfl h (fun S' v e => c_X10_firstDay hM.2.2.2.2.2.2.1 e _) ⟨Nat.le_of_ble_eq_true rfl, Nat.le_of_ble_eq_true rfl⟩ rfl hl.1 rfl (Nat.le_of_ble_eq_true rfl) dX10_latestTurn_9 (fun S_2 v_3 H locs h hG => ?_)
  refine lv_istore_n (lv' := [(1, .int v_3), (0, .ref (a 86))]) hx hb dX10_latestTurn_12 rfl hl (by decide) rfl (fun ls hl => ?_)
  refine lv_bipush (v := (20 : Int32)) hx hb dX10_latestTurn_13 (by decide) ?_
  refine lv_iload_n hx hb dX10_latestTurn_15 rfl (lv_at hl 0 rfl) ?_
  refine lv_iconst (v := (1 : Int32)) hx hb dX10_latestTurn_16 (by decide) ?_
  refine x_isub hM h dX10_latestTurn_17 (fun v_4 h => ?_)
  refine x_mmin hM hl.1 xmm_X10_72 h (Nat.le_of_ble_eq_true rfl) (Nat.le_of_ble_eq_true rfl) dX10_latestTurn_18 (fun v_5 h => ?_)
  refine lv_istore_n (lv' := [(2, .int v_5), (1, .int v_3), (0, .ref (a 86))]) hx hb dX10_latestTurn_21 rfl hl (by decide) rfl (fun ls hl => ?_)
  exact wl_X10_latestTurn_22 hM hr hlk (fun t0 e => k0 t0 e) 5000 _ _ _ _ _ h hG (lv_sub hl [2, 0] rfl)
set_option maxHeartbeats 4000000 in
set_option maxRecDepth 100000 in
theorem c_X10_latestTurn {l : Launch} {D : va_G} {cy : Nat → ClassId} {a z : Nat → Nat} (hI : xI xtb a) {S : xSt} {S' : xSt} {v' : Int32} (hf : f_X10_latestTurn S = some (S', v')) (sz : Nat) : Met l yX10_latestTurn (Cond.code yX10_latestTurn cX10_latestTurn 3 (some .int) :: xTB) ({ frames := 6, cells := 0, slots := 0, locals := 146 } : Room) (va_Pc [.ref (a 86)] (xPre D cy xtb a z S sz)) (xQi D cy xtb a S' v' sz) 0 0 (xA xtb a sz) := by
  refine Met.ofW (cc := cX10_latestTurn) (maxL := 3) (ret := (some .int)) (by decide) rfl ?_
  intro p e s m args below meth c s₁ B hml hv
  obtain ⟨rfl, hsz, hP, hK, hE⟩ := hv
  subst hsz
  have hl := lv_entry ([.ref (a 86)]) (n := 3) (Nat.le_of_ble_eq_true rfl)
  rw [lg_entry_eq]
  generalize (lg_sl ([.ref (a 86)]) ++ List.replicate (3 - (lg_sl ([.ref (a 86)])).length) Slot.unset).toArray = ls at hl ⊢
  have hl : lv_has ls 3 [(0, .ref (a 86))] := hl
  exact w_X10_latestTurn_0 ⟨B.exec, B.bytes, hml, findClass_of_methodNamed B.named, fun w hw => atoms_spec (ws := Cond.code yX10_latestTurn cX10_latestTurn 3 (some .int) :: xTB) B.pre w (List.mem_cons_of_mem _ hw), hK, hI, hE⟩ B.returns B.notSynchronized hf (fun t0 e => e.symm) ⟨hP, va_S.rf⟩ (lv_sub hl [0] rfl)
set_option maxHeartbeats 4000000 in
set_option maxRecDepth 100000 in
theorem w_X10_seekSale_74 {x1 : Int32} {x2 : Int32} {x3 : Int32} (hM : xM p c cX10_seekSale m s args RX10 5 D cy xtb a z) (hr : meth.sig.returnType = none) (hlk : meth.locks = false) {S' : xSt} {v' : Unit} {S : xSt} {q : ((xSt × Int32) ⊕ (xSt × Unit))} (h : f_X10_seekSale_74 x1 x2 x3 S = some q) (k0 : ∀ t0 : xSt × Unit, q = (.inr t0) → t0 = (S', v')) (k1 : ∀ (S : xSt) (x3 : Int32), q = (.inl (S, x3)) → ∀ (H : Heap) (locs : List Loc) (ls : Array Slot), xG D cy xtb a S s H locs → lv_has ls 5 [(0, .ref (a 86)), (1, .int x1), (2, .int x2), (3, .int x3)] → W p l e ({ frames := 4, cells := 0, slots := 0, locals := 102 } : Room) s m args below meth c H locs 0 0 (MQ below (xQv D cy xtb a S' v' s.heap.size) args s 0 0 (xA xtb a s.heap.size)) (F0 m 29 ls [])) {H : Heap} {locs : List Loc} (hG : xG D cy xtb a S s H locs) {ls : Array Slot} (hl : lv_has ls 5 [(0, .ref (a 86)), (1, .int x1), (2, .int x2), (3, .int x3)]) : W p l e ({ frames := 4, cells := 0, slots := 0, locals := 102 } : Room) s m args below meth c H locs 0 0 (MQ below (xQv D cy xtb a S' v' s.heap.size) args s 0 0 (xA xtb a s.heap.size)) (F0 m 74 ls []) := by
  have hx := hM.1
  have hb := hM.2.1
  refine x_iinc hM (fun v => [(3, .int v), (0, .ref (a 86)), (1, .int x1), (2, .int x2)]) h dX10_seekSale_74 hl (k := 3) rfl (by decide) (by decide) (fun _ => rfl) (fun v_1 ls h hl => ?_)
  refine lv_goto (tgt := 29) hx hb dX10_seekSale_77 (by decide) ?_
  exact k1 _ _ (Option.some.inj h).symm _ _ _ hG (lv_sub hl [1, 2, 3, 0] rfl)
set_option maxHeartbeats 4000000 in
set_option maxRecDepth 100000 in
theorem w_X10_seekSale_29 {x1 : Int32} {x2 : Int32} {x3 : Int32} (hM : xM p c cX10_seekSale m s args RX10 5 D cy xtb a z) (hr : meth.sig.returnType = none) (hlk : meth.locks = false) {S' : xSt} {v' : Unit} {S : xSt} {q : ((xSt × Int32) ⊕ (xSt × Unit))} (h : f_X10_seekSale_29 x1 x2 S x3 = some q) (k0 : ∀ t0 : xSt × Unit, q = (.inr t0) → t0 = (S', v')) (k1 : ∀ (S : xSt) (x3 : Int32), q = (.inl (S, x3)) → ∀ (H : Heap) (locs : List Loc) (ls : Array Slot), xG D cy xtb a S s H locs → lv_has ls 5 [(0, .ref (a 86)), (1, .int x1), (2, .int x2), (3, .int x3)] → W p l e ({ frames := 4, cells := 0, slots := 0, locals := 102 } : Room) s m args below meth c H locs 0 0 (MQ below (xQv D cy xtb a S' v' s.heap.size) args s 0 0 (xA xtb a s.heap.size)) (F0 m 29 ls [])) {H : Heap} {locs : List Loc} (hG : xG D cy xtb a S s H locs) {ls : Array Slot} (hl : lv_has ls 5 [(0, .ref (a 86)), (1, .int x1), (2, .int x2), (3, .int x3)]) : W p l e ({ frames := 4, cells := 0, slots := 0, locals := 102 } : Room) s m args below meth c H locs 0 0 (MQ below (xQv D cy xtb a S' v' s.heap.size) args s 0 0 (xA xtb a s.heap.size)) (F0 m 29 ls []) := by
  have hx := hM.1
  have hb := hM.2.1
  refine lv_iload_n hx hb dX10_seekSale_29 rfl (lv_at hl 3 rfl) ?_
  refine lv_iload_n hx hb dX10_seekSale_30 rfl (lv_at hl 1 rfl) ?_
  refine x_icmp_gt (tgt := 80) hM h dX10_seekSale_31 (by decide) (fun c_1 h => ?_) (fun c_1 h => ?_)
  · exact x_rv hM hG hr hlk (k0 _ (Option.some.inj h).symm) dX10_seekSale_80
  · refine lv_aload_n hx hb dX10_seekSale_34 rfl (lv_at hl 0 rfl) ?_
    refine x_gr (r := 36) hM hG xfl_X10_15 xct_86 (by decide) rfl dX10_seekSale_35 ?_
    refine x_cVv (As := []) (rest := []) hM hG xml_X10_24 xwi_X4_passDay xws_X4_passDay xih_mind.1 (by decide) rfl h (fun S' v e => c_X4_passDay hM.2.2.2.2.2.2.1 xih_mind e _) ⟨Nat.le_of_ble_eq_true rfl, Nat.le_of_ble_eq_true rfl⟩ rfl hl.1 rfl (Nat.le_of_ble_eq_true rfl) dX10_seekSale_38 (fun S_2 v_3 H locs h hG => ?_)
    refine lv_aload_n hx hb dX10_seekSale_41 rfl (lv_at hl 0 rfl) ?_
    refine x_gr (r := 36) hM hG xfl_X10_15 xct_86 (by decide) rfl dX10_seekSale_42 ?_
    refine x_cVi (As := []) (rest := []) hM hG xml_X10_88 xwi_X4_value xws_X4_value xih_mind.1 (by decide) rfl h (fun S' v e => c_X4_value hM.2.2.2.2.2.2.1 xih_mind e _) ⟨Nat.le_of_ble_eq_true rfl, Nat.le_of_ble_eq_true rfl⟩ rfl hl.1 rfl (Nat.le_of_ble_eq_true rfl) dX10_seekSale_45 (fun S_4 v_5 H locs h hG => ?_)
    refine lv_iload_n hx hb dX10_seekSale_48 rfl (lv_at hl 2 rfl) ?_
    refine lv_iload_n hx hb dX10_seekSale_49 rfl (lv_at hl 3 rfl) ?_
    refine x_imul hM h dX10_seekSale_50 (fun v_6 h => ?_)
    refine x_isub hM h dX10_seekSale_51 (fun v_7 h => ?_)
    refine lv_istore (lv' := [(4, .int v_7), (0, .ref (a 86)), (1, .int x1), (2, .int x2), (3, .int x3)]) hx hb dX10_seekSale_52 hl (by decide) rfl (fun ls hl => ?_)
    refine lv_iload hx hb dX10_seekSale_54 (lv_at hl 0 rfl) ?_
    refine lv_aload_n hx hb dX10_seekSale_56 rfl (lv_at hl 1 rfl) ?_
    refine x_gi hM hG xfl_X10_35 xct_86 (by decide) rfl h dX10_seekSale_57 (fun v_8 h => ?_)
    refine x_icmp_le (tgt := 74) hM h dX10_seekSale_60 (by decide) (fun c_9 h => ?_) (fun c_9 h => ?_)
    · exact w_X10_seekSale_74 hM hr hlk h (fun t0 e => k0 t0 e) (fun S x3 e => k1 S x3 e) hG (lv_sub hl [1, 2, 3, 4] rfl)
    · refine lv_aload_n hx hb dX10_seekSale_63 rfl (lv_at hl 1 rfl) ?_
      refine lv_iload hx hb dX10_seekSale_64 (lv_at hl 0 rfl) ?_
      refine x_pi hM hG xfl_X10_35 xfp_X10_2 xct_86 (by decide) rfl rfl rfl h dX10_seekSale_66 (fun S_10 H locs h hG => ?_)
      refine lv_aload_n hx hb dX10_seekSale_69 rfl (lv_at hl 1 rfl) ?_
      refine lv_iload_n hx hb dX10_seekSale_70 rfl (lv_at hl 4 rfl) ?_
      refine x_pi hM hG xfl_X10_39 xfp_X10_3 xct_86 (by decide) rfl rfl rfl h dX10_seekSale_71 (fun S_11 H locs h hG => ?_)
      exact w_X10_seekSale_74 hM hr hlk h (fun t0 e => k0 t0 e) (fun S x3 e => k1 S x3 e) hG (lv_sub hl [1, 2, 3, 4] rfl)
theorem wl_X10_seekSale_29 {x1 : Int32} {x2 : Int32} (hM : xM p c cX10_seekSale m s args RX10 5 D cy xtb a z) (hr : meth.sig.returnType = none) (hlk : meth.locks = false) {S' : xSt} {v' : Unit} {q : (xSt × Unit)} (k0 : ∀ t0 : xSt × Unit, q = t0 → t0 = (S', v')) (n : Nat) : ∀ (S : xSt) (x3 : Int32) (H : Heap) (locs : List Loc) (ls : Array Slot), xlp (fun q : (xSt × Int32) => f_X10_seekSale_29 x1 x2 q.1 q.2) n (S, x3) = some q → xG D cy xtb a S s H locs → lv_has ls 5 [(0, .ref (a 86)), (1, .int x1), (2, .int x2), (3, .int x3)] → W p l e ({ frames := 4, cells := 0, slots := 0, locals := 102 } : Room) s m args below meth c H locs 0 0 (MQ below (xQv D cy xtb a S' v' s.heap.size) args s 0 0 (xA xtb a s.heap.size)) (F0 m 29 ls []) := by
  induction n with
  | zero => intro S x3 H locs ls h; exact (xlp_0 h).elim
  | succ n ih =>
    intro S x3 H locs ls h hG hl
    obtain ⟨q1, hq, hc, he⟩ := xlp_at h
    exact w_X10_seekSale_29 hM hr hlk (q := q1) hq (fun t0 e => k0 t0 (he _ e).symm) (fun S x3 e H locs ls hG hl => ih S x3 H locs ls (hc _ e) hG hl) hG hl
set_option maxHeartbeats 4000000 in
set_option maxRecDepth 100000 in
theorem w_X10_seekSale_0 {x1 : Int32} {x2 : Int32} (hM : xM p c cX10_seekSale m s args RX10 5 D cy xtb a z) (hr : meth.sig.returnType = none) (hlk : meth.locks = false) {S' : xSt} {v' : Unit} {S : xSt} {q : (xSt × Unit)} (h : f_X10_seekSale_0 x1 x2 S = some q) (k0 : ∀ t0 : xSt × Unit, q = t0 → t0 = (S', v')) {H : Heap} {locs : List Loc} (hG : xG D cy xtb a S s H locs) {ls : Array Slot} (hl : lv_has ls 5 [(0, .ref (a 86)), (1, .int x1), (2, .int x2)]) : W p l e ({ frames := 4, cells := 0, slots := 0, locals := 102 } : Room) s m args below meth c H locs 0 0 (MQ below (xQv D cy xtb a S' v' s.heap.size) args s 0 0 (xA xtb a s.heap.size)) (F0 m 0 ls []) := by
  have hx := hM.1
  have hb := hM.2.1
  refine lv_aload_n hx hb dX10_seekSale_0 rfl (lv_at hl 0 rfl) ?_
  refine x_gr (r := 36) hM hG xfl_X10_15 xct_86 (by decide) rfl dX10_seekSale_1 ?_
  refine lv_aload_n hx hb dX10_seekSale_4 rfl (lv_at hl 0 rfl) ?_
  refine x_gr (r := 16) hM hG xfl_X10_9 xct_86 (by decide) rfl dX10_seekSale_5 ?_
  refine x_cVv (As := [.ref (a 16)]) (rest := []) hM hG xml_X10_18 xwi_X4_takeAll xws_X4_takeAll xih_mind.1 (by decide) rfl h (fun S' v e => c_X4_takeAll hM.2.2.2.2.2.2.1 xih_mind xih_hay e _) ⟨Nat.le_of_ble_eq_true rfl, Nat.le_of_ble_eq_true rfl⟩ rfl hl.1 rfl (Nat.le_of_ble_eq_true rfl) dX10_seekSale_8 (fun S_1 v_2 H locs h hG => ?_)
  refine lv_aload_n hx hb dX10_seekSale_11 rfl (lv_at hl 0 rfl) ?_
  refine lv_aload_n hx hb dX10_seekSale_12 rfl (lv_at hl 0 rfl) ?_
  refine x_gr (r := 36) hM hG xfl_X10_15 xct_86 (by decide) rfl dX10_seekSale_13 ?_
  refine x_cVi (As := []) (rest := [.ref (a 86)]) hM hG xml_X10_88 xwi_X4_value xws_X4_value xih_mind.1 (by decide) rfl h (fun S' v e => c_X4_value hM.2.2.2.2.2.2.1 xih_mind e _) ⟨Nat.le_of_ble_eq_true rfl, Nat.le_of_ble_eq_true rfl⟩ rfl hl.1 rfl (Nat.le_of_ble_eq_true rfl) dX10_seekSale_16 (fun S_3 v_4 H locs h hG => ?_)
  refine x_pi hM hG xfl_X10_35 xfp_X10_2 xct_86 (by decide) rfl rfl rfl h dX10_seekSale_19 (fun S_5 H locs h hG => ?_)
  refine lv_aload_n hx hb dX10_seekSale_22 rfl (lv_at hl 0 rfl) ?_
  refine lv_iconst (v := (0 : Int32)) hx hb dX10_seekSale_23 (by decide) ?_
  refine x_pi hM hG xfl_X10_39 xfp_X10_3 xct_86 (by decide) rfl rfl rfl h dX10_seekSale_24 (fun S_6 H locs h hG => ?_)
  refine lv_iconst (v := (1 : Int32)) hx hb dX10_seekSale_27 (by decide) ?_
  refine lv_istore_n (lv' := [(3, .int (1 : Int32)), (0, .ref (a 86)), (1, .int x1), (2, .int x2)]) hx hb dX10_seekSale_28 rfl hl (by decide) rfl (fun ls hl => ?_)
  exact wl_X10_seekSale_29 hM hr hlk (fun t0 e => k0 t0 e) 5000 _ _ _ _ _ h hG (lv_sub hl [1, 2, 3, 0] rfl)
set_option maxHeartbeats 4000000 in
set_option maxRecDepth 100000 in
theorem c_X10_seekSale {l : Launch} {D : va_G} {cy : Nat → ClassId} {a z : Nat → Nat} (hI : xI xtb a) {S : xSt} {x1 : Int32} {x2 : Int32} {S' : xSt} {v' : Unit} (hf : f_X10_seekSale S x1 x2 = some (S', v')) (sz : Nat) : Met l yX10_seekSale (Cond.code yX10_seekSale cX10_seekSale 5 none :: xTB) ({ frames := 4, cells := 0, slots := 0, locals := 102 } : Room) (va_Pc [.ref (a 86), .int x1, .int x2] (xPre D cy xtb a z S sz)) (xQv D cy xtb a S' v' sz) 0 0 (xA xtb a sz) := by
  refine Met.ofW (cc := cX10_seekSale) (maxL := 5) (ret := none) (by decide) rfl ?_
  intro p e s m args below meth c s₁ B hml hv
  obtain ⟨rfl, hsz, hP, hK, hE⟩ := hv
  subst hsz
  have hl := lv_entry ([.ref (a 86), .int x1, .int x2]) (n := 5) (Nat.le_of_ble_eq_true rfl)
  rw [lg_entry_eq]
  generalize (lg_sl ([.ref (a 86), .int x1, .int x2]) ++ List.replicate (5 - (lg_sl ([.ref (a 86), .int x1, .int x2])).length) Slot.unset).toArray = ls at hl ⊢
  have hl : lv_has ls 5 [(0, .ref (a 86)), (1, .int x1), (2, .int x2)] := hl
  exact w_X10_seekSale_0 ⟨B.exec, B.bytes, hml, findClass_of_methodNamed B.named, fun w hw => atoms_spec (ws := Cond.code yX10_seekSale cX10_seekSale 5 none :: xTB) B.pre w (List.mem_cons_of_mem _ hw), hK, hI, hE⟩ B.returns B.notSynchronized hf (fun t0 e => e.symm) ⟨hP, va_S.rf⟩ (lv_sub hl [0, 1, 2] rfl)
set_option maxHeartbeats 4000000 in
set_option maxRecDepth 100000 in
theorem w_X11_within_14 (hM : xM p c cX11_within m s args RX11 3 D cy xtb a z) (hr : meth.sig.returnType = (some .boolean)) (hlk : meth.locks = false) {S' : xSt} {v' : Int32} {S : xSt} {q : (xSt × Int32)} (h : f_X11_within_14 S = some q) (k0 : ∀ t0 : xSt × Int32, q = t0 → t0 = (S', v')) {H : Heap} {locs : List Loc} (hG : xG D cy xtb a S s H locs) {ls : Array Slot} (hl : lv_has ls 3 []) : W p l e ({ frames := 0, cells := 0, slots := 0, locals := 0 } : Room) s m args below meth c H locs 0 0 (MQ below (xQi D cy xtb a S' v' s.heap.size) args s 0 0 (xA xtb a s.heap.size)) (F0 m 14 ls []) := by
  have hx := hM.1
  have hb := hM.2.1
  refine lv_iconst (v := (0 : Int32)) hx hb dX11_within_14 (by decide) ?_
  obtain ⟨hz, h⟩ := xgd_at h
  exact x_ri hM hG hr hlk (x_nz hz) (k0 _ (Option.some.inj h).symm) dX11_within_15
set_option maxHeartbeats 4000000 in
set_option maxRecDepth 100000 in
theorem w_X11_within_0 {x0 : Int32} {x1 : Int32} {x2 : Int32} (hM : xM p c cX11_within m s args RX11 3 D cy xtb a z) (hr : meth.sig.returnType = (some .boolean)) (hlk : meth.locks = false) {S' : xSt} {v' : Int32} {S : xSt} {q : (xSt × Int32)} (h : f_X11_within_0 x0 x1 x2 S = some q) (k0 : ∀ t0 : xSt × Int32, q = t0 → t0 = (S', v')) {H : Heap} {locs : List Loc} (hG : xG D cy xtb a S s H locs) {ls : Array Slot} (hl : lv_has ls 3 [(0, .int x0), (1, .int x1), (2, .int x2)]) : W p l e ({ frames := 0, cells := 0, slots := 0, locals := 0 } : Room) s m args below meth c H locs 0 0 (MQ below (xQi D cy xtb a S' v' s.heap.size) args s 0 0 (xA xtb a s.heap.size)) (F0 m 0 ls []) := by
  have hx := hM.1
  have hb := hM.2.1
  refine lv_iload_n hx hb dX11_within_0 rfl (lv_at hl 0 rfl) ?_
  refine lv_iload_n hx hb dX11_within_1 rfl (lv_at hl 1 rfl) ?_
  refine x_icmp_lt (tgt := 14) hM h dX11_within_2 (by decide) (fun c_1 h => ?_) (fun c_1 h => ?_)
  · exact w_X11_within_14 hM hr hlk h (fun t0 e => k0 t0 e) hG (lv_sub hl [] rfl)
  · refine lv_iload_n hx hb dX11_within_5 rfl (lv_at hl 0 rfl) ?_
    refine lv_iload_n hx hb dX11_within_6 rfl (lv_at hl 2 rfl) ?_
    refine x_icmp_gt (tgt := 14) hM h dX11_within_7 (by decide) (fun c_2 h => ?_) (fun c_2 h => ?_)
    · exact w_X11_within_14 hM hr hlk h (fun t0 e => k0 t0 e) hG (lv_sub hl [] rfl)
    · refine lv_iconst (v := (1 : Int32)) hx hb dX11_within_10 (by decide) ?_
      refine lv_goto (tgt := 15) hx hb dX11_within_11 (by decide) ?_
      obtain ⟨hz, h⟩ := xgd_at h
      exact x_ri hM hG hr hlk (x_nz hz) (k0 _ (Option.some.inj h).symm) dX11_within_15
set_option maxHeartbeats 4000000 in
set_option maxRecDepth 100000 in
theorem c_X11_within {l : Launch} {D : va_G} {cy : Nat → ClassId} {a z : Nat → Nat} (hI : xI xtb a) {S : xSt} {x0 : Int32} {x1 : Int32} {x2 : Int32} {S' : xSt} {v' : Int32} (hf : f_X11_within S x0 x1 x2 = some (S', v')) (sz : Nat) : Met l yX11_within (Cond.code yX11_within cX11_within 3 (some .boolean) :: xTB) ({ frames := 0, cells := 0, slots := 0, locals := 0 } : Room) (va_Pc [.int x0, .int x1, .int x2] (xPre D cy xtb a z S sz)) (xQi D cy xtb a S' v' sz) 0 0 (xA xtb a sz) := by
  refine Met.ofW (cc := cX11_within) (maxL := 3) (ret := (some .boolean)) (by decide) rfl ?_
  intro p e s m args below meth c s₁ B hml hv
  obtain ⟨rfl, hsz, hP, hK, hE⟩ := hv
  subst hsz
  have hl := lv_entry ([.int x0, .int x1, .int x2]) (n := 3) (Nat.le_of_ble_eq_true rfl)
  rw [lg_entry_eq]
  generalize (lg_sl ([.int x0, .int x1, .int x2]) ++ List.replicate (3 - (lg_sl ([.int x0, .int x1, .int x2])).length) Slot.unset).toArray = ls at hl ⊢
  have hl : lv_has ls 3 [(0, .int x0), (1, .int x1), (2, .int x2)] := hl
  exact w_X11_within_0 ⟨B.exec, B.bytes, hml, findClass_of_methodNamed B.named, fun w hw => atoms_spec (ws := Cond.code yX11_within cX11_within 3 (some .boolean) :: xTB) B.pre w (List.mem_cons_of_mem _ hw), hK, hI, hE⟩ B.returns B.notSynchronized hf (fun t0 e => e.symm) ⟨hP, va_S.rf⟩ (lv_sub hl [0, 1, 2] rfl)
set_option maxHeartbeats 4000000 in
set_option maxRecDepth 100000 in
theorem w_X11_cartOne_0 {x1 : Int32} {x2 : Int32} {x3 : Int32} (hM : xM p c cX11_cartOne m s args RX11 5 D cy xtb a z) (hr : meth.sig.returnType = (some .int)) (hlk : meth.locks = false) {S' : xSt} {v' : Int32} {S : xSt} {q : (xSt × Int32)} (h : f_X11_cartOne_0 x1 x2 x3 S = some q) (k0 : ∀ t0 : xSt × Int32, q = t0 → t0 = (S', v')) {H : Heap} {locs : List Loc} (hG : xG D cy xtb a S s H locs) {ls : Array Slot} (hl : lv_has ls 5 [(0, .ref (a 0)), (1, .int x1), (2, .int x2), (3, .int x3)]) : W p l e ({ frames := 1, cells := 0, slots := 0, locals := 24 } : Room) s m args below meth c H locs 0 0 (MQ below (xQi D cy xtb a S' v' s.heap.size) args s 0 0 (xA xtb a s.heap.size)) (F0 m 0 ls []) := by
  have hx := hM.1
  have hb := hM.2.1
  refine lv_aload_n hx hb dX11_cartOne_0 rfl (lv_at hl 0 rfl) ?_
  refine x_gr (r := 16) hM hG xfl_X11_28 xct_0 (by decide) rfl dX11_cartOne_1 ?_
  refine lv_iload_n hx hb dX11_cartOne_4 rfl (lv_at hl 1 rfl) ?_
  refine lv_iload_n hx hb dX11_cartOne_5 rfl (lv_at hl 2 rfl) ?_
  refine lv_iload_n hx hb dX11_cartOne_6 rfl (lv_at hl 3 rfl) ?_
  refine x_cVi (As := [.int x1, .int x2, .int x3]) (rest := []) hM hG xml_X11_368 xwi_X4_pileOn xws_X4_pileOn xih_hay.1 (by decide) rfl h (fun S' v e => c_X4_pileOn hM.2.2.2.2.2.2.1 xih_hay e _) ⟨Nat.le_of_ble_eq_true rfl, Nat.le_of_ble_eq_true rfl⟩ rfl hl.1 rfl (Nat.le_of_ble_eq_true rfl) dX11_cartOne_7 (fun S_1 v_2 H locs h hG => ?_)
  refine lv_istore (lv' := [(4, .int v_2), (0, .ref (a 0)), (1, .int x1), (2, .int x2), (3, .int x3)]) hx hb dX11_cartOne_10 hl (by decide) rfl (fun ls hl => ?_)
  refine lv_iload hx hb dX11_cartOne_12 (lv_at hl 0 rfl) ?_
  refine x_if_lt (tgt := 30) hM h dX11_cartOne_14 (by decide) (fun c_3 h => ?_) (fun c_3 h => ?_)
  · refine lv_iload hx hb dX11_cartOne_30 (lv_at hl 0 rfl) ?_
    exact x_ri hM hG hr hlk rfl (k0 _ (Option.some.inj h).symm) dX11_cartOne_32
  · refine lv_aload_n hx hb dX11_cartOne_17 rfl (lv_at hl 1 rfl) ?_
    refine x_gr (r := 16) hM hG xfl_X11_28 xct_0 (by decide) rfl dX11_cartOne_18 ?_
    refine x_gr (r := 16 + 8) hM hG xfl_X11_267 xih_hay.1 (by decide) rfl dX11_cartOne_21 ?_
    refine lv_iconst (v := (0 : Int32)) hx hb dX11_cartOne_24 (by decide) ?_
    refine lv_dup2_11 hx hb dX11_cartOne_25 rfl rfl ?_
    refine x_iald hM hG xih_hay.2.2.2.2.2.2.2.2.1 h dX11_cartOne_26 (fun v_4 h => ?_)
    refine lv_iconst (v := (1 : Int32)) hx hb dX11_cartOne_27 (by decide) ?_
    refine x_iadd hM h dX11_cartOne_28 (fun v_5 h => ?_)
    refine x_iast hM hG xih_hay.2.2.2.2.2.2.2.2.1 h dX11_cartOne_29 (fun S_6 H locs h hG => ?_)
    refine lv_iload hx hb dX11_cartOne_30 (lv_at hl 0 rfl) ?_
    exact x_ri hM hG hr hlk rfl (k0 _ (Option.some.inj h).symm) dX11_cartOne_32
set_option maxHeartbeats 4000000 in
set_option maxRecDepth 100000 in
theorem c_X11_cartOne {l : Launch} {D : va_G} {cy : Nat → ClassId} {a z : Nat → Nat} (hI : xI xtb a) {S : xSt} {x1 : Int32} {x2 : Int32} {x3 : Int32} {S' : xSt} {v' : Int32} (hf : f_X11_cartOne S x1 x2 x3 = some (S', v')) (sz : Nat) : Met l yX11_cartOne (Cond.code yX11_cartOne cX11_cartOne 5 (some .int) :: xTB) ({ frames := 1, cells := 0, slots := 0, locals := 24 } : Room) (va_Pc [.ref (a 0), .int x1, .int x2, .int x3] (xPre D cy xtb a z S sz)) (xQi D cy xtb a S' v' sz) 0 0 (xA xtb a sz) := by
  refine Met.ofW (cc := cX11_cartOne) (maxL := 5) (ret := (some .int)) (by decide) rfl ?_
  intro p e s m args below meth c s₁ B hml hv
  obtain ⟨rfl, hsz, hP, hK, hE⟩ := hv
  subst hsz
  have hl := lv_entry ([.ref (a 0), .int x1, .int x2, .int x3]) (n := 5) (Nat.le_of_ble_eq_true rfl)
  rw [lg_entry_eq]
  generalize (lg_sl ([.ref (a 0), .int x1, .int x2, .int x3]) ++ List.replicate (5 - (lg_sl ([.ref (a 0), .int x1, .int x2, .int x3])).length) Slot.unset).toArray = ls at hl ⊢
  have hl : lv_has ls 5 [(0, .ref (a 0)), (1, .int x1), (2, .int x2), (3, .int x3)] := hl
  exact w_X11_cartOne_0 ⟨B.exec, B.bytes, hml, findClass_of_methodNamed B.named, fun w hw => atoms_spec (ws := Cond.code yX11_cartOne cX11_cartOne 5 (some .int) :: xTB) B.pre w (List.mem_cons_of_mem _ hw), hK, hI, hE⟩ B.returns B.notSynchronized hf (fun t0 e => e.symm) ⟨hP, va_S.rf⟩ (lv_sub hl [0, 1, 2, 3] rfl)
set_option maxHeartbeats 4000000 in
set_option maxRecDepth 100000 in
theorem w_X11_cart_0 {x1 : Int32} {x2 : Int32} (hM : xM p c cX11_cart m s args RX11 3 D cy xtb a z) (hr : meth.sig.returnType = (some .int)) (hlk : meth.locks = false) {S' : xSt} {v' : Int32} {S : xSt} {q : (xSt × Int32)} (h : f_X11_cart_0 x1 x2 S = some q) (k0 : ∀ t0 : xSt × Int32, q = t0 → t0 = (S', v')) {H : Heap} {locs : List Loc} (hG : xG D cy xtb a S s H locs) {ls : Array Slot} (hl : lv_has ls 3 [(0, .ref (a 0)), (1, .int x1), (2, .int x2)]) : W p l e ({ frames := 2, cells := 0, slots := 0, locals := 48 } : Room) s m args below meth c H locs 0 0 (MQ below (xQi D cy xtb a S' v' s.heap.size) args s 0 0 (xA xtb a s.heap.size)) (F0 m 0 ls []) := by
  have hx := hM.1
  have hb := hM.2.1
  refine lv_iload_n hx hb dX11_cart_0 rfl (lv_at hl 1 rfl) ?_
  refine lv_iconst (v := (0 : Int32)) hx hb dX11_cart_1 (by decide) ?_
  refine lv_iconst (v := (5 : Int32)) hx hb dX11_cart_2 (by decide) ?_
  refine x_cSi (As := [.int x1, .int (0 : Int32), .int (5 : Int32)]) (rest := []) hM hG xml_X11_97 xwt_X11_within h (fun S' v e => c_X11_within hM.2.2.2.2.2.2.1 e _) ⟨Nat.le_of_ble_eq_true rfl, Nat.le_of_ble_eq_true rfl⟩ rfl hl.1 rfl (Nat.le_of_ble_eq_true rfl) dX11_cart_3 (fun S_1 v_2 H locs h hG => ?_)
  refine x_if_eq (tgt := 19) hM h dX11_cart_6 (by decide) (fun c_3 h => ?_) (fun c_3 h => ?_)
  · refine lv_iconst (v := (-1 : Int32)) hx hb dX11_cart_19 (by decide) ?_
    exact x_ri hM hG hr hlk rfl (k0 _ (Option.some.inj h).symm) dX11_cart_20
  · refine lv_iload_n hx hb dX11_cart_9 rfl (lv_at hl 2 rfl) ?_
    refine lv_iconst (v := (0 : Int32)) hx hb dX11_cart_10 (by decide) ?_
    refine lv_bipush (v := (99 : Int32)) hx hb dX11_cart_11 (by decide) ?_
    refine x_cSi (As := [.int x2, .int (0 : Int32), .int (99 : Int32)]) (rest := []) hM hG xml_X11_97 xwt_X11_within h (fun S' v e => c_X11_within hM.2.2.2.2.2.2.1 e _) ⟨Nat.le_of_ble_eq_true rfl, Nat.le_of_ble_eq_true rfl⟩ rfl hl.1 rfl (Nat.le_of_ble_eq_true rfl) dX11_cart_13 (fun S_4 v_5 H locs h hG => ?_)
    refine x_if_ne (tgt := 21) hM h dX11_cart_16 (by decide) (fun c_6 h => ?_) (fun c_6 h => ?_)
    · refine lv_aload_n hx hb dX11_cart_21 rfl (lv_at hl 0 rfl) ?_
      refine lv_iload_n hx hb dX11_cart_22 rfl (lv_at hl 1 rfl) ?_
      refine lv_iload_n hx hb dX11_cart_23 rfl (lv_at hl 2 rfl) ?_
      refine lv_bipush (v := (10 : Int32)) hx hb dX11_cart_24 (by decide) ?_
      refine x_idiv hM h dX11_cart_26 (fun v_7 h => ?_)
      refine lv_iload_n hx hb dX11_cart_27 rfl (lv_at hl 2 rfl) ?_
      refine lv_bipush (v := (10 : Int32)) hx hb dX11_cart_28 (by decide) ?_
      refine x_irem hM h dX11_cart_30 (fun v_8 h => ?_)
      refine x_cVi (As := [.int x1, .int v_7, .int v_8]) (rest := []) hM hG xml_X11_101 xwi_X11_cartOne xws_X11_cartOne xct_0 (by decide) rfl h (fun S' v e => c_X11_cartOne hM.2.2.2.2.2.2.1 e _) ⟨Nat.le_of_ble_eq_true rfl, Nat.le_of_ble_eq_true rfl⟩ rfl hl.1 rfl (Nat.le_of_ble_eq_true rfl) dX11_cart_31 (fun S_9 v_10 H locs h hG => ?_)
      exact x_ri hM hG hr hlk rfl (k0 _ (Option.some.inj h).symm) dX11_cart_34
    · refine lv_iconst (v := (-1 : Int32)) hx hb dX11_cart_19 (by decide) ?_
      exact x_ri hM hG hr hlk rfl (k0 _ (Option.some.inj h).symm) dX11_cart_20
set_option maxHeartbeats 4000000 in
set_option maxRecDepth 100000 in
theorem c_X11_cart {l : Launch} {D : va_G} {cy : Nat → ClassId} {a z : Nat → Nat} (hI : xI xtb a) {S : xSt} {x1 : Int32} {x2 : Int32} {S' : xSt} {v' : Int32} (hf : f_X11_cart S x1 x2 = some (S', v')) (sz : Nat) : Met l yX11_cart (Cond.code yX11_cart cX11_cart 3 (some .int) :: xTB) ({ frames := 2, cells := 0, slots := 0, locals := 48 } : Room) (va_Pc [.ref (a 0), .int x1, .int x2] (xPre D cy xtb a z S sz)) (xQi D cy xtb a S' v' sz) 0 0 (xA xtb a sz) := by
  refine Met.ofW (cc := cX11_cart) (maxL := 3) (ret := (some .int)) (by decide) rfl ?_
  intro p e s m args below meth c s₁ B hml hv
  obtain ⟨rfl, hsz, hP, hK, hE⟩ := hv
  subst hsz
  have hl := lv_entry ([.ref (a 0), .int x1, .int x2]) (n := 3) (Nat.le_of_ble_eq_true rfl)
  rw [lg_entry_eq]
  generalize (lg_sl ([.ref (a 0), .int x1, .int x2]) ++ List.replicate (3 - (lg_sl ([.ref (a 0), .int x1, .int x2])).length) Slot.unset).toArray = ls at hl ⊢
  have hl : lv_has ls 3 [(0, .ref (a 0)), (1, .int x1), (2, .int x2)] := hl
  exact w_X11_cart_0 ⟨B.exec, B.bytes, hml, findClass_of_methodNamed B.named, fun w hw => atoms_spec (ws := Cond.code yX11_cart cX11_cart 3 (some .int) :: xTB) B.pre w (List.mem_cons_of_mem _ hw), hK, hI, hE⟩ B.returns B.notSynchronized hf (fun t0 e => e.symm) ⟨hP, va_S.rf⟩ (lv_sub hl [0, 1, 2] rfl)
set_option maxHeartbeats 4000000 in
set_option maxRecDepth 100000 in
theorem w_X11_isNumber_0 {x1 : Int32} {x2 : Int32} (hM : xM p c cX11_isNumber m s args RX11 3 D cy xtb a z) (hr : meth.sig.returnType = (some .boolean)) (hlk : meth.locks = false) {S' : xSt} {v' : Int32} {S : xSt} {q : (xSt × Int32)} (h : f_X11_isNumber_0 x1 x2 S = some q) (k0 : ∀ t0 : xSt × Int32, q = t0 → t0 = (S', v')) {H : Heap} {locs : List Loc} (hG : xG D cy xtb a S s H locs) {ls : Array Slot} (hl : lv_has ls 3 [(0, .ref (a 0)), (1, .int x1), (2, .int x2)]) : W p l e ({ frames := 1, cells := 0, slots := 0, locals := 22 } : Room) s m args below meth c H locs 0 0 (MQ below (xQi D cy xtb a S' v' s.heap.size) args s 0 0 (xA xtb a s.heap.size)) (F0 m 0 ls []) := by
  have hx := hM.1
  have hb := hM.2.1
  refine lv_iload_n hx hb dX11_isNumber_0 rfl (lv_at hl 2 rfl) ?_
  refine lv_iconst (v := (0 : Int32)) hx hb dX11_isNumber_1 (by decide) ?_
  refine lv_bipush (v := (7 : Int32)) hx hb dX11_isNumber_2 (by decide) ?_
  refine x_cSi (As := [.int x2, .int (0 : Int32), .int (7 : Int32)]) (rest := []) hM hG xml_X11_97 xwt_X11_within h (fun S' v e => c_X11_within hM.2.2.2.2.2.2.1 e _) ⟨Nat.le_of_ble_eq_true rfl, Nat.le_of_ble_eq_true rfl⟩ rfl hl.1 rfl (Nat.le_of_ble_eq_true rfl) dX11_isNumber_4 (fun S_1 v_2 H locs h hG => ?_)
  refine x_if_ne (tgt := 12) hM h dX11_isNumber_7 (by decide) (fun c_3 h => ?_) (fun c_3 h => ?_)
  · refine lv_iload_n hx hb dX11_isNumber_12 rfl (lv_at hl 2 rfl) ?_
    refine lv_iconst (v := (4 : Int32)) hx hb dX11_isNumber_13 (by decide) ?_
    refine x_icmp_gt (tgt := 26) hM h dX11_isNumber_14 (by decide) (fun c_4 h => ?_) (fun c_4 h => ?_)
    · refine lv_iload_n hx hb dX11_isNumber_26 rfl (lv_at hl 2 rfl) ?_
      refine lv_iconst (v := (5 : Int32)) hx hb dX11_isNumber_27 (by decide) ?_
      refine x_icmp_ne (tgt := 40) hM h dX11_isNumber_28 (by decide) (fun c_5 h => ?_) (fun c_5 h => ?_)
      · refine lv_iload_n hx hb dX11_isNumber_40 rfl (lv_at hl 1 rfl) ?_
        refine x_if_ne (tgt := 48) hM h dX11_isNumber_41 (by decide) (fun c_6 h => ?_) (fun c_6 h => ?_)
        · refine lv_iconst (v := (0 : Int32)) hx hb dX11_isNumber_48 (by decide) ?_
          obtain ⟨hz, h⟩ := xgd_at h
          exact x_ri hM hG hr hlk (x_nz hz) (k0 _ (Option.some.inj h).symm) dX11_isNumber_49
        · refine lv_iconst (v := (1 : Int32)) hx hb dX11_isNumber_44 (by decide) ?_
          refine lv_goto (tgt := 49) hx hb dX11_isNumber_45 (by decide) ?_
          obtain ⟨hz, h⟩ := xgd_at h
          exact x_ri hM hG hr hlk (x_nz hz) (k0 _ (Option.some.inj h).symm) dX11_isNumber_49
      · refine lv_iload_n hx hb dX11_isNumber_31 rfl (lv_at hl 1 rfl) ?_
        refine lv_iconst (v := (0 : Int32)) hx hb dX11_isNumber_32 (by decide) ?_
        refine lv_iconst (v := (5 : Int32)) hx hb dX11_isNumber_33 (by decide) ?_
        refine x_cSi (As := [.int x1, .int (0 : Int32), .int (5 : Int32)]) (rest := []) hM hG xml_X11_97 xwt_X11_within h (fun S' v e => c_X11_within hM.2.2.2.2.2.2.1 e _) ⟨Nat.le_of_ble_eq_true rfl, Nat.le_of_ble_eq_true rfl⟩ rfl hl.1 rfl (Nat.le_of_ble_eq_true rfl) dX11_isNumber_34 (fun S_7 v_8 H locs h hG => ?_)
        refine lv_goto (tgt := 49) hx hb dX11_isNumber_37 (by decide) ?_
        obtain ⟨hz, h⟩ := xgd_at h
        exact x_ri hM hG hr hlk (x_nz hz) (k0 _ (Option.some.inj h).symm) dX11_isNumber_49
    · refine lv_aload_n hx hb dX11_isNumber_17 rfl (lv_at hl 0 rfl) ?_
      refine x_gr (r := 16) hM hG xfl_X11_28 xct_0 (by decide) rfl dX11_isNumber_18 ?_
      refine lv_iload_n hx hb dX11_isNumber_21 rfl (lv_at hl 1 rfl) ?_
      refine x_cVi (As := [.int x1]) (rest := []) hM hG xml_X11_156 xwi_X4_has xws_X4_has xih_hay.1 (by decide) rfl h (fun S' v e => c_X4_has hM.2.2.2.2.2.2.1 xih_hay e _) ⟨Nat.le_of_ble_eq_true rfl, Nat.le_of_ble_eq_true rfl⟩ rfl hl.1 rfl (Nat.le_of_ble_eq_true rfl) dX11_isNumber_22 (fun S_9 v_10 H locs h hG => ?_)
      obtain ⟨hz, h⟩ := xgd_at h
      exact x_ri hM hG hr hlk (x_nz hz) (k0 _ (Option.some.inj h).symm) dX11_isNumber_25
  · refine lv_iconst (v := (0 : Int32)) hx hb dX11_isNumber_10 (by decide) ?_
    obtain ⟨hz, h⟩ := xgd_at h
    exact x_ri hM hG hr hlk (x_nz hz) (k0 _ (Option.some.inj h).symm) dX11_isNumber_11
set_option maxHeartbeats 4000000 in
set_option maxRecDepth 100000 in
theorem c_X11_isNumber {l : Launch} {D : va_G} {cy : Nat → ClassId} {a z : Nat → Nat} (hI : xI xtb a) {S : xSt} {x1 : Int32} {x2 : Int32} {S' : xSt} {v' : Int32} (hf : f_X11_isNumber S x1 x2 = some (S', v')) (sz : Nat) : Met l yX11_isNumber (Cond.code yX11_isNumber cX11_isNumber 3 (some .boolean) :: xTB) ({ frames := 1, cells := 0, slots := 0, locals := 22 } : Room) (va_Pc [.ref (a 0), .int x1, .int x2] (xPre D cy xtb a z S sz)) (xQi D cy xtb a S' v' sz) 0 0 (xA xtb a sz) := by
  refine Met.ofW (cc := cX11_isNumber) (maxL := 3) (ret := (some .boolean)) (by decide) rfl ?_
  intro p e s m args below meth c s₁ B hml hv
  obtain ⟨rfl, hsz, hP, hK, hE⟩ := hv
  subst hsz
  have hl := lv_entry ([.ref (a 0), .int x1, .int x2]) (n := 3) (Nat.le_of_ble_eq_true rfl)
  rw [lg_entry_eq]
  generalize (lg_sl ([.ref (a 0), .int x1, .int x2]) ++ List.replicate (3 - (lg_sl ([.ref (a 0), .int x1, .int x2])).length) Slot.unset).toArray = ls at hl ⊢
  have hl : lv_has ls 3 [(0, .ref (a 0)), (1, .int x1), (2, .int x2)] := hl
  exact w_X11_isNumber_0 ⟨B.exec, B.bytes, hml, findClass_of_methodNamed B.named, fun w hw => atoms_spec (ws := Cond.code yX11_isNumber cX11_isNumber 3 (some .boolean) :: xTB) B.pre w (List.mem_cons_of_mem _ hw), hK, hI, hE⟩ B.returns B.notSynchronized hf (fun t0 e => e.symm) ⟨hP, va_S.rf⟩ (lv_sub hl [0, 1, 2] rfl)
set_option maxHeartbeats 4000000 in
set_option maxRecDepth 100000 in
theorem w_X11_mend_0 {x1 : Int32} {x2 : Int32} {x3 : Int32} (hM : xM p c cX11_mend m s args RX11 5 D cy xtb a z) (hr : meth.sig.returnType = (some .int)) (hlk : meth.locks = false) {S' : xSt} {v' : Int32} {S : xSt} {q : (xSt × Int32)} (h : f_X11_mend_0 x1 x2 x3 S = some q) (k0 : ∀ t0 : xSt × Int32, q = t0 → t0 = (S', v')) {H : Heap} {locs : List Loc} (hG : xG D cy xtb a S s H locs) {ls : Array Slot} (hl : lv_has ls 5 [(0, .ref (a 0)), (1, .int x1), (2, .int x2), (3, .int x3)]) : W p l e ({ frames := 3, cells := 0, slots := 0, locals := 70 } : Room) s m args below meth c H locs 0 0 (MQ below (xQi D cy xtb a S' v' s.heap.size) args s 0 0 (xA xtb a s.heap.size)) (F0 m 0 ls []) := by
  have hx := hM.1
  have hb := hM.2.1
  refine lv_aload_n hx hb dX11_mend_0 rfl (lv_at hl 0 rfl) ?_
  refine lv_iload_n hx hb dX11_mend_1 rfl (lv_at hl 1 rfl) ?_
  refine lv_iload_n hx hb dX11_mend_2 rfl (lv_at hl 2 rfl) ?_
  refine x_cVi (As := [.int x1, .int x2]) (rest := []) hM hG xml_X11_117 xwi_X11_isNumber xws_X11_isNumber xct_0 (by decide) rfl h (fun S' v e => c_X11_isNumber hM.2.2.2.2.2.2.1 e _) ⟨Nat.le_of_ble_eq_true rfl, Nat.le_of_ble_eq_true rfl⟩ rfl hl.1 rfl (Nat.le_of_ble_eq_true rfl) dX11_mend_3 (fun S_1 v_2 H locs h hG => ?_)
  refine x_if_eq (tgt := 26) hM h dX11_mend_6 (by decide) (fun c_3 h => ?_) (fun c_3 h => ?_)
  · refine lv_iconst (v := (-1 : Int32)) hx hb dX11_mend_26 (by decide) ?_
    exact x_ri hM hG hr hlk rfl (k0 _ (Option.some.inj h).symm) dX11_mend_27
  · refine lv_iload_n hx hb dX11_mend_9 rfl (lv_at hl 3 rfl) ?_
    refine x_gs hM hG hM.2.2.2.2.2.2.2.2.1 xsl_X11_121 dX11_mend_10 ?_
    refine lv_iload_n hx hb dX11_mend_13 rfl (lv_at hl 2 rfl) ?_
    refine x_tald hM hG hM.2.2.2.2.2.2.2.2.1 h dX11_mend_14 (fun v_4 h => ?_)
    refine x_gs hM hG hM.2.2.2.2.2.2.2.2.2 xsl_X11_125 dX11_mend_15 ?_
    refine lv_iload_n hx hb dX11_mend_18 rfl (lv_at hl 2 rfl) ?_
    refine x_tald hM hG hM.2.2.2.2.2.2.2.2.2 h dX11_mend_19 (fun v_5 h => ?_)
    refine x_cSi (As := [.int x3, .int v_4, .int v_5]) (rest := []) hM hG xml_X11_97 xwt_X11_within h (fun S' v e => c_X11_within hM.2.2.2.2.2.2.1 e _) ⟨Nat.le_of_ble_eq_true rfl, Nat.le_of_ble_eq_true rfl⟩ rfl hl.1 rfl (Nat.le_of_ble_eq_true rfl) dX11_mend_20 (fun S_6 v_7 H locs h hG => ?_)
    refine x_if_ne (tgt := 28) hM h dX11_mend_23 (by decide) (fun c_8 h => ?_) (fun c_8 h => ?_)
    · refine lv_aload_n hx hb dX11_mend_28 rfl (lv_at hl 0 rfl) ?_
      refine x_gr (r := 16) hM hG xfl_X11_28 xct_0 (by decide) rfl dX11_mend_29 ?_
      refine lv_iload_n hx hb dX11_mend_32 rfl (lv_at hl 1 rfl) ?_
      refine lv_iload_n hx hb dX11_mend_33 rfl (lv_at hl 2 rfl) ?_
      refine x_cVi (As := [.int x1, .int x2]) (rest := []) hM hG xml_X11_128 xwi_X4_numberOf xws_X4_numberOf xih_hay.1 (by decide) rfl h (fun S' v e => c_X4_numberOf hM.2.2.2.2.2.2.1 xih_hay e _) ⟨Nat.le_of_ble_eq_true rfl, Nat.le_of_ble_eq_true rfl⟩ rfl hl.1 rfl (Nat.le_of_ble_eq_true rfl) dX11_mend_34 (fun S_9 v_10 H locs h hG => ?_)
      refine lv_istore (lv' := [(4, .int v_10), (0, .ref (a 0)), (1, .int x1), (2, .int x2), (3, .int x3)]) hx hb dX11_mend_37 hl (by decide) rfl (fun ls hl => ?_)
      refine lv_iload hx hb dX11_mend_39 (lv_at hl 0 rfl) ?_
      refine lv_iload_n hx hb dX11_mend_41 rfl (lv_at hl 4 rfl) ?_
      refine x_icmp_eq (tgt := 67) hM h dX11_mend_42 (by decide) (fun c_11 h => ?_) (fun c_11 h => ?_)
      · refine lv_iload hx hb dX11_mend_67 (lv_at hl 0 rfl) ?_
        exact x_ri hM hG hr hlk rfl (k0 _ (Option.some.inj h).symm) dX11_mend_69
      · refine lv_aload_n hx hb dX11_mend_45 rfl (lv_at hl 1 rfl) ?_
        refine x_gr (r := 16) hM hG xfl_X11_28 xct_0 (by decide) rfl dX11_mend_46 ?_
        refine lv_iload_n hx hb dX11_mend_49 rfl (lv_at hl 2 rfl) ?_
        refine lv_iload_n hx hb dX11_mend_50 rfl (lv_at hl 3 rfl) ?_
        refine lv_iload_n hx hb dX11_mend_51 rfl (lv_at hl 4 rfl) ?_
        refine x_cVv (As := [.int x1, .int x2, .int x3]) (rest := []) hM hG xml_X11_132 xwi_X4_tell xws_X4_tell xih_hay.1 (by decide) rfl h (fun S' v e => c_X4_tell hM.2.2.2.2.2.2.1 xih_hay e _) ⟨Nat.le_of_ble_eq_true rfl, Nat.le_of_ble_eq_true rfl⟩ rfl hl.1 rfl (Nat.le_of_ble_eq_true rfl) dX11_mend_52 (fun S_12 v_13 H locs h hG => ?_)
        refine lv_aload_n hx hb dX11_mend_55 rfl (lv_at hl 1 rfl) ?_
        refine x_gr (r := 96) hM hG xfl_X11_79 xct_0 (by decide) rfl dX11_mend_56 ?_
        refine lv_iload_n hx hb dX11_mend_59 rfl (lv_at hl 2 rfl) ?_
        refine lv_iload_n hx hb dX11_mend_60 rfl (lv_at hl 3 rfl) ?_
        refine lv_iload hx hb dX11_mend_61 (lv_at hl 0 rfl) ?_
        refine lv_iload_n hx hb dX11_mend_63 rfl (lv_at hl 4 rfl) ?_
        refine x_cVv (As := [.int x1, .int x2, .int v_10, .int x3]) (rest := []) hM hG xml_X11_136 xwi_X2_add xws_X2_add xct_96 (by decide) rfl h (fun S' v e => c_X2_add hM.2.2.2.2.2.2.1 e _) ⟨Nat.le_of_ble_eq_true rfl, Nat.le_of_ble_eq_true rfl⟩ rfl hl.1 rfl (Nat.le_of_ble_eq_true rfl) dX11_mend_64 (fun S_14 v_15 H locs h hG => ?_)
        refine lv_iload hx hb dX11_mend_67 (lv_at hl 0 rfl) ?_
        exact x_ri hM hG hr hlk rfl (k0 _ (Option.some.inj h).symm) dX11_mend_69
    · refine lv_iconst (v := (-1 : Int32)) hx hb dX11_mend_26 (by decide) ?_
      exact x_ri hM hG hr hlk rfl (k0 _ (Option.some.inj h).symm) dX11_mend_27
set_option maxHeartbeats 4000000 in
set_option maxRecDepth 100000 in
theorem c_X11_mend {l : Launch} {D : va_G} {cy : Nat → ClassId} {a z : Nat → Nat} (hI : xI xtb a) {S : xSt} {x1 : Int32} {x2 : Int32} {x3 : Int32} {S' : xSt} {v' : Int32} (hf : f_X11_mend S x1 x2 x3 = some (S', v')) (sz : Nat) : Met l yX11_mend (Cond.code yX11_mend cX11_mend 5 (some .int) :: xTB) ({ frames := 3, cells := 0, slots := 0, locals := 70 } : Room) (va_Pc [.ref (a 0), .int x1, .int x2, .int x3] (xPre D cy xtb a z S sz)) (xQi D cy xtb a S' v' sz) 0 0 (xA xtb a sz) := by
  refine Met.ofW (cc := cX11_mend) (maxL := 5) (ret := (some .int)) (by decide) rfl ?_
  intro p e s m args below meth c s₁ B hml hv
  obtain ⟨rfl, hsz, hP, hK, hE⟩ := hv
  subst hsz
  have hl := lv_entry ([.ref (a 0), .int x1, .int x2, .int x3]) (n := 5) (Nat.le_of_ble_eq_true rfl)
  rw [lg_entry_eq]
  generalize (lg_sl ([.ref (a 0), .int x1, .int x2, .int x3]) ++ List.replicate (5 - (lg_sl ([.ref (a 0), .int x1, .int x2, .int x3])).length) Slot.unset).toArray = ls at hl ⊢
  have hl : lv_has ls 5 [(0, .ref (a 0)), (1, .int x1), (2, .int x2), (3, .int x3)] := hl
  exact w_X11_mend_0 ⟨B.exec, B.bytes, hml, findClass_of_methodNamed B.named, fun w hw => atoms_spec (ws := Cond.code yX11_mend cX11_mend 5 (some .int) :: xTB) B.pre w (List.mem_cons_of_mem _ hw), hK, hI, hE⟩ B.returns B.notSynchronized hf (fun t0 e => e.symm) ⟨hP, va_S.rf⟩ (lv_sub hl [0, 1, 2, 3] rfl)
set_option maxHeartbeats 4000000 in
set_option maxRecDepth 100000 in
theorem w_X11_of_0 {x1 : Int32} {x2 : Int32} (hM : xM p c cX11_of m s args RX11 3 D cy xtb a z) (hr : meth.sig.returnType = (some .int)) (hlk : meth.locks = false) {S' : xSt} {v' : Int32} {S : xSt} {q : (xSt × Int32)} (h : f_X11_of_0 x1 x2 S = some q) (k0 : ∀ t0 : xSt × Int32, q = t0 → t0 = (S', v')) {H : Heap} {locs : List Loc} (hG : xG D cy xtb a S s H locs) {ls : Array Slot} (hl : lv_has ls 3 [(0, .ref (a 0)), (1, .int x1), (2, .int x2)]) : W p l e ({ frames := 2, cells := 0, slots := 0, locals := 44 } : Room) s m args below meth c H locs 0 0 (MQ below (xQi D cy xtb a S' v' s.heap.size) args s 0 0 (xA xtb a s.heap.size)) (F0 m 0 ls []) := by
  have hx := hM.1
  have hb := hM.2.1
  refine lv_iload_n hx hb dX11_of_0 rfl (lv_at hl 2 rfl) ?_
  refine lv_bipush (v := (8 : Int32)) hx hb dX11_of_1 (by decide) ?_
  refine x_icmp_ne (tgt := 29) hM h dX11_of_3 (by decide) (fun c_1 h => ?_) (fun c_1 h => ?_)
  · refine lv_aload_n hx hb dX11_of_29 rfl (lv_at hl 0 rfl) ?_
    refine lv_iload_n hx hb dX11_of_30 rfl (lv_at hl 1 rfl) ?_
    refine lv_iload_n hx hb dX11_of_31 rfl (lv_at hl 2 rfl) ?_
    refine x_cVi (As := [.int x1, .int x2]) (rest := []) hM hG xml_X11_117 xwi_X11_isNumber xws_X11_isNumber xct_0 (by decide) rfl h (fun S' v e => c_X11_isNumber hM.2.2.2.2.2.2.1 e _) ⟨Nat.le_of_ble_eq_true rfl, Nat.le_of_ble_eq_true rfl⟩ rfl hl.1 rfl (Nat.le_of_ble_eq_true rfl) dX11_of_32 (fun S_2 v_3 H locs h hG => ?_)
    refine x_if_eq (tgt := 50) hM h dX11_of_35 (by decide) (fun c_4 h => ?_) (fun c_4 h => ?_)
    · refine lv_iconst (v := (-1 : Int32)) hx hb dX11_of_50 (by decide) ?_
      exact x_ri hM hG hr hlk rfl (k0 _ (Option.some.inj h).symm) dX11_of_51
    · refine lv_aload_n hx hb dX11_of_38 rfl (lv_at hl 0 rfl) ?_
      refine x_gr (r := 16) hM hG xfl_X11_28 xct_0 (by decide) rfl dX11_of_39 ?_
      refine lv_iload_n hx hb dX11_of_42 rfl (lv_at hl 1 rfl) ?_
      refine lv_iload_n hx hb dX11_of_43 rfl (lv_at hl 2 rfl) ?_
      refine x_cVi (As := [.int x1, .int x2]) (rest := []) hM hG xml_X11_128 xwi_X4_numberOf xws_X4_numberOf xih_hay.1 (by decide) rfl h (fun S' v e => c_X4_numberOf hM.2.2.2.2.2.2.1 xih_hay e _) ⟨Nat.le_of_ble_eq_true rfl, Nat.le_of_ble_eq_true rfl⟩ rfl hl.1 rfl (Nat.le_of_ble_eq_true rfl) dX11_of_44 (fun S_5 v_6 H locs h hG => ?_)
      refine lv_goto (tgt := 51) hx hb dX11_of_47 (by decide) ?_
      exact x_ri hM hG hr hlk rfl (k0 _ (Option.some.inj h).symm) dX11_of_51
  · refine lv_iload_n hx hb dX11_of_6 rfl (lv_at hl 1 rfl) ?_
    refine lv_iconst (v := (0 : Int32)) hx hb dX11_of_7 (by decide) ?_
    refine lv_iconst (v := (5 : Int32)) hx hb dX11_of_8 (by decide) ?_
    refine x_cSi (As := [.int x1, .int (0 : Int32), .int (5 : Int32)]) (rest := []) hM hG xml_X11_97 xwt_X11_within h (fun S' v e => c_X11_within hM.2.2.2.2.2.2.1 e _) ⟨Nat.le_of_ble_eq_true rfl, Nat.le_of_ble_eq_true rfl⟩ rfl hl.1 rfl (Nat.le_of_ble_eq_true rfl) dX11_of_9 (fun S_7 v_8 H locs h hG => ?_)
    refine x_if_eq (tgt := 27) hM h dX11_of_12 (by decide) (fun c_9 h => ?_) (fun c_9 h => ?_)
    · refine lv_iconst (v := (-1 : Int32)) hx hb dX11_of_27 (by decide) ?_
      exact x_ri hM hG hr hlk rfl (k0 _ (Option.some.inj h).symm) dX11_of_28
    · refine lv_aload_n hx hb dX11_of_15 rfl (lv_at hl 0 rfl) ?_
      refine x_gr (r := 16) hM hG xfl_X11_28 xct_0 (by decide) rfl dX11_of_16 ?_
      refine x_gr (r := 16 + 1) hM hG xfl_X11_140 xih_hay.1 (by decide) rfl dX11_of_19 ?_
      refine lv_iload_n hx hb dX11_of_22 rfl (lv_at hl 1 rfl) ?_
      refine x_iald hM hG xih_hay.2.1 h dX11_of_23 (fun v_10 h => ?_)
      refine lv_goto (tgt := 28) hx hb dX11_of_24 (by decide) ?_
      exact x_ri hM hG hr hlk rfl (k0 _ (Option.some.inj h).symm) dX11_of_28
set_option maxHeartbeats 4000000 in
set_option maxRecDepth 100000 in
theorem c_X11_of {l : Launch} {D : va_G} {cy : Nat → ClassId} {a z : Nat → Nat} (hI : xI xtb a) {S : xSt} {x1 : Int32} {x2 : Int32} {S' : xSt} {v' : Int32} (hf : f_X11_of S x1 x2 = some (S', v')) (sz : Nat) : Met l yX11_of (Cond.code yX11_of cX11_of 3 (some .int) :: xTB) ({ frames := 2, cells := 0, slots := 0, locals := 44 } : Room) (va_Pc [.ref (a 0), .int x1, .int x2] (xPre D cy xtb a z S sz)) (xQi D cy xtb a S' v' sz) 0 0 (xA xtb a sz) := by
  refine Met.ofW (cc := cX11_of) (maxL := 3) (ret := (some .int)) (by decide) rfl ?_
  intro p e s m args below meth c s₁ B hml hv
  obtain ⟨rfl, hsz, hP, hK, hE⟩ := hv
  subst hsz
  have hl := lv_entry ([.ref (a 0), .int x1, .int x2]) (n := 3) (Nat.le_of_ble_eq_true rfl)
  rw [lg_entry_eq]
  generalize (lg_sl ([.ref (a 0), .int x1, .int x2]) ++ List.replicate (3 - (lg_sl ([.ref (a 0), .int x1, .int x2])).length) Slot.unset).toArray = ls at hl ⊢
  have hl : lv_has ls 3 [(0, .ref (a 0)), (1, .int x1), (2, .int x2)] := hl
  exact w_X11_of_0 ⟨B.exec, B.bytes, hml, findClass_of_methodNamed B.named, fun w hw => atoms_spec (ws := Cond.code yX11_of cX11_of 3 (some .int) :: xTB) B.pre w (List.mem_cons_of_mem _ hw), hK, hI, hE⟩ B.returns B.notSynchronized hf (fun t0 e => e.symm) ⟨hP, va_S.rf⟩ (lv_sub hl [0, 1, 2] rfl)
set_option maxHeartbeats 4000000 in
set_option maxRecDepth 100000 in
theorem w_X11_feed_0 {x1 : Int32} (hM : xM p c cX11_feed m s args RX11 2 D cy xtb a z) (hr : meth.sig.returnType = (some .int)) (hlk : meth.locks = false) {S' : xSt} {v' : Int32} {S : xSt} {q : (xSt × Int32)} (h : f_X11_feed_0 x1 S = some q) (k0 : ∀ t0 : xSt × Int32, q = t0 → t0 = (S', v')) {H : Heap} {locs : List Loc} (hG : xG D cy xtb a S s H locs) {ls : Array Slot} (hl : lv_has ls 2 [(0, .ref (a 0)), (1, .int x1)]) : W p l e ({ frames := 1, cells := 0, slots := 0, locals := 22 } : Room) s m args below meth c H locs 0 0 (MQ below (xQi D cy xtb a S' v' s.heap.size) args s 0 0 (xA xtb a s.heap.size)) (F0 m 0 ls []) := by
  have hx := hM.1
  have hb := hM.2.1
  refine lv_iload_n hx hb dX11_feed_0 rfl (lv_at hl 1 rfl) ?_
  refine lv_iconst (v := (0 : Int32)) hx hb dX11_feed_1 (by decide) ?_
  refine lv_sipush (v := (255 : Int32)) hx hb dX11_feed_2 (by decide) ?_
  refine x_cSi (As := [.int x1, .int (0 : Int32), .int (255 : Int32)]) (rest := []) hM hG xml_X11_97 xwt_X11_within h (fun S' v e => c_X11_within hM.2.2.2.2.2.2.1 e _) ⟨Nat.le_of_ble_eq_true rfl, Nat.le_of_ble_eq_true rfl⟩ rfl hl.1 rfl (Nat.le_of_ble_eq_true rfl) dX11_feed_5 (fun S_1 v_2 H locs h hG => ?_)
  refine x_if_eq (tgt := 22) hM h dX11_feed_8 (by decide) (fun c_3 h => ?_) (fun c_3 h => ?_)
  · refine lv_iconst (v := (-1 : Int32)) hx hb dX11_feed_22 (by decide) ?_
    exact x_ri hM hG hr hlk rfl (k0 _ (Option.some.inj h).symm) dX11_feed_23
  · refine lv_aload_n hx hb dX11_feed_11 rfl (lv_at hl 0 rfl) ?_
    refine x_gr (r := 2) hM hG xfl_X11_10 xct_0 (by decide) rfl dX11_feed_12 ?_
    refine lv_iload_n hx hb dX11_feed_15 rfl (lv_at hl 1 rfl) ?_
    refine x_cVi (As := [.int x1]) (rest := []) hM hG xml_X11_143 xwi_X9_add xws_X9_add xct_2 (by decide) rfl h (fun S' v e => c_X9_add hM.2.2.2.2.2.2.1 e _) ⟨Nat.le_of_ble_eq_true rfl, Nat.le_of_ble_eq_true rfl⟩ rfl hl.1 rfl (Nat.le_of_ble_eq_true rfl) dX11_feed_16 (fun S_4 v_5 H locs h hG => ?_)
    refine lv_goto (tgt := 23) hx hb dX11_feed_19 (by decide) ?_
    exact x_ri hM hG hr hlk rfl (k0 _ (Option.some.inj h).symm) dX11_feed_23
set_option maxHeartbeats 4000000 in
set_option maxRecDepth 100000 in
theorem c_X11_feed {l : Launch} {D : va_G} {cy : Nat → ClassId} {a z : Nat → Nat} (hI : xI xtb a) {S : xSt} {x1 : Int32} {S' : xSt} {v' : Int32} (hf : f_X11_feed S x1 = some (S', v')) (sz : Nat) : Met l yX11_feed (Cond.code yX11_feed cX11_feed 2 (some .int) :: xTB) ({ frames := 1, cells := 0, slots := 0, locals := 22 } : Room) (va_Pc [.ref (a 0), .int x1] (xPre D cy xtb a z S sz)) (xQi D cy xtb a S' v' sz) 0 0 (xA xtb a sz) := by
  refine Met.ofW (cc := cX11_feed) (maxL := 2) (ret := (some .int)) (by decide) rfl ?_
  intro p e s m args below meth c s₁ B hml hv
  obtain ⟨rfl, hsz, hP, hK, hE⟩ := hv
  subst hsz
  have hl := lv_entry ([.ref (a 0), .int x1]) (n := 2) (Nat.le_of_ble_eq_true rfl)
  rw [lg_entry_eq]
  generalize (lg_sl ([.ref (a 0), .int x1]) ++ List.replicate (2 - (lg_sl ([.ref (a 0), .int x1])).length) Slot.unset).toArray = ls at hl ⊢
  have hl : lv_has ls 2 [(0, .ref (a 0)), (1, .int x1)] := hl
  exact w_X11_feed_0 ⟨B.exec, B.bytes, hml, findClass_of_methodNamed B.named, fun w hw => atoms_spec (ws := Cond.code yX11_feed cX11_feed 2 (some .int) :: xTB) B.pre w (List.mem_cons_of_mem _ hw), hK, hI, hE⟩ B.returns B.notSynchronized hf (fun t0 e => e.symm) ⟨hP, va_S.rf⟩ (lv_sub hl [0, 1] rfl)
set_option maxHeartbeats 4000000 in
set_option maxRecDepth 100000 in
theorem w_X11_law_23 {x1 : Int32} (hM : xM p c cX11_law m s args RX11 2 D cy xtb a z) (hr : meth.sig.returnType = (some .int)) (hlk : meth.locks = false) {S' : xSt} {v' : Int32} {S : xSt} {q : (xSt × Int32)} (h : f_X11_law_23 x1 S = some q) (k0 : ∀ t0 : xSt × Int32, q = t0 → t0 = (S', v')) {H : Heap} {locs : List Loc} (hG : xG D cy xtb a S s H locs) {ls : Array Slot} (hl : lv_has ls 2 [(0, .ref (a 0)), (1, .int x1)]) : W p l e ({ frames := 75, cells := 0, slots := 0, locals := 1862 } : Room) s m args below meth c H locs 0 0 (MQ below (xQi D cy xtb a S' v' s.heap.size) args s 0 0 (xA xtb a s.heap.size)) (F0 m 23 ls []) := by
  have hx := hM.1
  have hb := hM.2.1
  refine lv_aload_n hx hb dX11_law_23 rfl (lv_at hl 0 rfl) ?_
  refine x_gr (r := 2) hM hG xfl_X11_10 xct_0 (by decide) rfl dX11_law_24 ?_
  refine x_cVv (As := []) (rest := []) hM hG xml_X11_153 xwi_X9_clear xws_X9_clear xct_2 (by decide) rfl h (fun S' v e => c_X9_clear hM.2.2.2.2.2.2.1 e _) ⟨Nat.le_of_ble_eq_true rfl, Nat.le_of_ble_eq_true rfl⟩ rfl hl.1 rfl (Nat.le_of_ble_eq_true rfl) dX11_law_27 (fun S_1 v_2 H locs h hG => ?_)
  refine lv_iload_n hx hb dX11_law_30 rfl (lv_at hl 1 rfl) ?_
  refine x_if_ge (tgt := 38) hM h dX11_law_31 (by decide) (fun c_3 h => ?_) (fun c_3 h => ?_)
  · refine lv_bipush (v := (-100 : Int32)) hx hb dX11_law_38 (by decide) ?_
    refine lv_iload_n hx hb dX11_law_40 rfl (lv_at hl 1 rfl) ?_
    refine x_isub hM h dX11_law_41 (fun v_4 h => ?_)
    exact x_ri hM hG hr hlk rfl (k0 _ (Option.some.inj h).symm) dX11_law_42
  · refine lv_iconst (v := (1 : Int32)) hx hb dX11_law_34 (by decide) ?_
    refine lv_goto (tgt := 42) hx hb dX11_law_35 (by decide) ?_
    exact x_ri hM hG hr hlk rfl (k0 _ (Option.some.inj h).symm) dX11_law_42
set_option maxHeartbeats 4000000 in
set_option maxRecDepth 100000 in
theorem w_X11_law_0 (hM : xM p c cX11_law m s args RX11 2 D cy xtb a z) (hr : meth.sig.returnType = (some .int)) (hlk : meth.locks = false) {S' : xSt} {v' : Int32} {S : xSt} {q : (xSt × Int32)} (h : f_X11_law_0 S = some q) (k0 : ∀ t0 : xSt × Int32, q = t0 → t0 = (S', v')) {H : Heap} {locs : List Loc} (hG : xG D cy xtb a S s H locs) {ls : Array Slot} (hl : lv_has ls 2 [(0, .ref (a 0))]) : W p l e ({ frames := 75, cells := 0, slots := 0, locals := 1862 } : Room) s m args below meth c H locs 0 0 (MQ below (xQi D cy xtb a S' v' s.heap.size) args s 0 0 (xA xtb a s.heap.size)) (F0 m 0 ls []) := by
  have hx := hM.1
  have hb := hM.2.1
  refine lv_aload_n hx hb dX11_law_0 rfl (lv_at hl 0 rfl) ?_
  refine x_gr (r := 2) hM hG xfl_X11_10 xct_0 (by decide) rfl dX11_law_1 ?_
  refine x_cVi (As := []) (rest := []) hM hG xml_X11_146 xwi_X9_understand xws_X9_understand xct_2 (by decide) rfl h (fun S' v e => c_X9_understand hM.2.2.2.2.2.2.1 e _) ⟨Nat.le_of_ble_eq_true rfl, Nat.le_of_ble_eq_true rfl⟩ rfl hl.1 rfl (Nat.le_of_ble_eq_true rfl) dX11_law_4 (fun S_1 v_2 H locs h hG => ?_)
  refine lv_istore_n (lv' := [(1, .int v_2), (0, .ref (a 0))]) hx hb dX11_law_7 rfl hl (by decide) rfl (fun ls hl => ?_)
  refine lv_iload_n hx hb dX11_law_8 rfl (lv_at hl 0 rfl) ?_
  refine x_if_ge (tgt := 23) hM h dX11_law_9 (by decide) (fun c_3 h => ?_) (fun c_3 h => ?_)
  · exact w_X11_law_23 hM hr hlk h (fun t0 e => k0 t0 e) hG (lv_sub hl [1, 0] rfl)
  · refine lv_aload_n hx hb dX11_law_12 rfl (lv_at hl 1 rfl) ?_
    refine x_gr (r := 8) hM hG xfl_X11_19 xct_0 (by decide) rfl dX11_law_13 ?_
    refine lv_aload_n hx hb dX11_law_16 rfl (lv_at hl 1 rfl) ?_
    refine x_gr (r := 2) hM hG xfl_X11_10 xct_0 (by decide) rfl dX11_law_17 ?_
    refine x_cVv (As := [.ref (a 2)]) (rest := []) hM hG xml_X11_149 xwi_X5_become xws_X5_become xct_8 (by decide) rfl h (fun S' v e => c_X5_become hM.2.2.2.2.2.2.1 e _) ⟨Nat.le_of_ble_eq_true rfl, Nat.le_of_ble_eq_true rfl⟩ rfl hl.1 rfl (Nat.le_of_ble_eq_true rfl) dX11_law_20 (fun S_4 v_5 H locs h hG => ?_)
    exact w_X11_law_23 hM hr hlk h (fun t0 e => k0 t0 e) hG (lv_sub hl [1, 0] rfl)
set_option maxHeartbeats 4000000 in
set_option maxRecDepth 100000 in
theorem c_X11_law {l : Launch} {D : va_G} {cy : Nat → ClassId} {a z : Nat → Nat} (hI : xI xtb a) {S : xSt} {S' : xSt} {v' : Int32} (hf : f_X11_law S = some (S', v')) (sz : Nat) : Met l yX11_law (Cond.code yX11_law cX11_law 2 (some .int) :: xTB) ({ frames := 75, cells := 0, slots := 0, locals := 1862 } : Room) (va_Pc [.ref (a 0)] (xPre D cy xtb a z S sz)) (xQi D cy xtb a S' v' sz) 0 0 (xA xtb a sz) := by
  refine Met.ofW (cc := cX11_law) (maxL := 2) (ret := (some .int)) (by decide) rfl ?_
  intro p e s m args below meth c s₁ B hml hv
  obtain ⟨rfl, hsz, hP, hK, hE⟩ := hv
  subst hsz
  have hl := lv_entry ([.ref (a 0)]) (n := 2) (Nat.le_of_ble_eq_true rfl)
  rw [lg_entry_eq]
  generalize (lg_sl ([.ref (a 0)]) ++ List.replicate (2 - (lg_sl ([.ref (a 0)])).length) Slot.unset).toArray = ls at hl ⊢
  have hl : lv_has ls 2 [(0, .ref (a 0))] := hl
  exact w_X11_law_0 ⟨B.exec, B.bytes, hml, findClass_of_methodNamed B.named, fun w hw => atoms_spec (ws := Cond.code yX11_law cX11_law 2 (some .int) :: xTB) B.pre w (List.mem_cons_of_mem _ hw), hK, hI, hE⟩ B.returns B.notSynchronized hf (fun t0 e => e.symm) ⟨hP, va_S.rf⟩ (lv_sub hl [0] rfl)
set_option maxHeartbeats 4000000 in
set_option maxRecDepth 100000 in
theorem w_X11_stack_0 {x1 : Int32} {x2 : Int32} (hM : xM p c cX11_stack m s args RX11 4 D cy xtb a z) (hr : meth.sig.returnType = (some .int)) (hlk : meth.locks = false) {S' : xSt} {v' : Int32} {S : xSt} {q : (xSt × Int32)} (h : f_X11_stack_0 x1 x2 S = some q) (k0 : ∀ t0 : xSt × Int32, q = t0 → t0 = (S', v')) {H : Heap} {locs : List Loc} (hG : xG D cy xtb a S s H locs) {ls : Array Slot} (hl : lv_has ls 4 [(0, .ref (a 0)), (1, .int x1), (2, .int x2)]) : W p l e ({ frames := 5, cells := 0, slots := 0, locals := 124 } : Room) s m args below meth c H locs 0 0 (MQ below (xQi D cy xtb a S' v' s.heap.size) args s 0 0 (xA xtb a s.heap.size)) (F0 m 0 ls []) := by
  have hx := hM.1
  have hb := hM.2.1
  refine lv_iload_n hx hb dX11_stack_0 rfl (lv_at hl 1 rfl) ?_
  refine lv_iconst (v := (0 : Int32)) hx hb dX11_stack_1 (by decide) ?_
  refine lv_bipush (v := (40 : Int32)) hx hb dX11_stack_2 (by decide) ?_
  refine x_cSi (As := [.int x1, .int (0 : Int32), .int (40 : Int32)]) (rest := []) hM hG xml_X11_97 xwt_X11_within h (fun S' v e => c_X11_within hM.2.2.2.2.2.2.1 e _) ⟨Nat.le_of_ble_eq_true rfl, Nat.le_of_ble_eq_true rfl⟩ rfl hl.1 rfl (Nat.le_of_ble_eq_true rfl) dX11_stack_4 (fun S_1 v_2 H locs h hG => ?_)
  refine x_if_eq (tgt := 19) hM h dX11_stack_7 (by decide) (fun c_3 h => ?_) (fun c_3 h => ?_)
  · refine lv_iconst (v := (-1 : Int32)) hx hb dX11_stack_19 (by decide) ?_
    exact x_ri hM hG hr hlk rfl (k0 _ (Option.some.inj h).symm) dX11_stack_20
  · refine lv_iload_n hx hb dX11_stack_10 rfl (lv_at hl 2 rfl) ?_
    refine lv_iconst (v := (0 : Int32)) hx hb dX11_stack_11 (by decide) ?_
    refine lv_iconst (v := (3 : Int32)) hx hb dX11_stack_12 (by decide) ?_
    refine x_cSi (As := [.int x2, .int (0 : Int32), .int (3 : Int32)]) (rest := []) hM hG xml_X11_97 xwt_X11_within h (fun S' v e => c_X11_within hM.2.2.2.2.2.2.1 e _) ⟨Nat.le_of_ble_eq_true rfl, Nat.le_of_ble_eq_true rfl⟩ rfl hl.1 rfl (Nat.le_of_ble_eq_true rfl) dX11_stack_13 (fun S_4 v_5 H locs h hG => ?_)
    refine x_if_ne (tgt := 21) hM h dX11_stack_16 (by decide) (fun c_6 h => ?_) (fun c_6 h => ?_)
    · refine lv_aload_n hx hb dX11_stack_21 rfl (lv_at hl 0 rfl) ?_
      refine x_gr (r := 86) hM hG xfl_X11_40 xct_0 (by decide) rfl dX11_stack_22 ?_
      refine lv_iload_n hx hb dX11_stack_25 rfl (lv_at hl 1 rfl) ?_
      refine x_cVr (As := [.int x1]) (rest := []) hM hG xml_X11_164 xwi_X10_behind xws_X10_behind xct_86 (by decide) rfl h (fun S' v e => c_X10_behind hM.2.2.2.2.2.2.1 e _) ⟨Nat.le_of_ble_eq_true rfl, Nat.le_of_ble_eq_true rfl⟩ rfl hl.1 rfl (Nat.le_of_ble_eq_true rfl) dX11_stack_26 (fun S_7 v_8 H locs h hG => ?_)
      obtain ⟨rfl, h⟩ := xgd_at h
      refine lv_astore_n (lv' := [(3, .ref (a 36)), (0, .ref (a 0)), (1, .int x1), (2, .int x2)]) hx hb dX11_stack_29 rfl hl (by decide) rfl (fun ls hl => ?_)
      refine lv_iload_n hx hb dX11_stack_30 rfl (lv_at hl 3 rfl) ?_
      by_cases c_9 : x2 = (0 : Int32)
      · have h := (if_pos c_9).symm.trans h
        refine lv_tableIn (off := 25) (tgt := 56) hx hb dX11_stack_31 (by rw [c_9]; decide) (by rw [c_9]; decide) (by rw [c_9]; rfl) (by decide) ?_
        refine lv_aload_n hx hb dX11_stack_56 rfl (lv_at hl 0 rfl) ?_
        refine x_cVi (As := []) (rest := []) hM hG xml_X11_177 xwi_X4_hottestCell xws_X4_hottestCell xih_mind.1 (by decide) rfl h (fun S' v e => c_X4_hottestCell hM.2.2.2.2.2.2.1 xih_mind e _) ⟨Nat.le_of_ble_eq_true rfl, Nat.le_of_ble_eq_true rfl⟩ rfl hl.1 rfl (Nat.le_of_ble_eq_true rfl) dX11_stack_57 (fun S_10 v_11 H locs h hG => ?_)
        exact x_ri hM hG hr hlk rfl (k0 _ (Option.some.inj h).symm) dX11_stack_60
      · have h := (if_neg c_9).symm.trans h
        by_cases c_12 : x2 = (1 : Int32)
        · have h := (if_pos c_12).symm.trans h
          refine lv_tableIn (off := 30) (tgt := 61) hx hb dX11_stack_31 (by rw [c_12]; decide) (by rw [c_12]; decide) (by rw [c_12]; rfl) (by decide) ?_
          refine lv_aload_n hx hb dX11_stack_61 rfl (lv_at hl 0 rfl) ?_
          refine x_cVi (As := []) (rest := []) hM hG xml_X11_180 xwi_X4_hottestHeat xws_X4_hottestHeat xih_mind.1 (by decide) rfl h (fun S' v e => c_X4_hottestHeat hM.2.2.2.2.2.2.1 xih_mind e _) ⟨Nat.le_of_ble_eq_true rfl, Nat.le_of_ble_eq_true rfl⟩ rfl hl.1 rfl (Nat.le_of_ble_eq_true rfl) dX11_stack_62 (fun S_13 v_14 H locs h hG => ?_)
          exact x_ri hM hG hr hlk rfl (k0 _ (Option.some.inj h).symm) dX11_stack_65
        · have h := (if_neg c_12).symm.trans h
          by_cases c_15 : x2 = (2 : Int32)
          · have h := (if_pos c_15).symm.trans h
            refine lv_tableIn (off := 35) (tgt := 66) hx hb dX11_stack_31 (by rw [c_15]; decide) (by rw [c_15]; decide) (by rw [c_15]; rfl) (by decide) ?_
            refine lv_aload_n hx hb dX11_stack_66 rfl (lv_at hl 0 rfl) ?_
            refine x_cVi (As := []) (rest := []) hM hG xml_X11_183 xwi_X4_glowing xws_X4_glowing xih_mind.1 (by decide) rfl h (fun S' v e => c_X4_glowing hM.2.2.2.2.2.2.1 xih_mind e _) ⟨Nat.le_of_ble_eq_true rfl, Nat.le_of_ble_eq_true rfl⟩ rfl hl.1 rfl (Nat.le_of_ble_eq_true rfl) dX11_stack_67 (fun S_16 v_17 H locs h hG => ?_)
            exact x_ri hM hG hr hlk rfl (k0 _ (Option.some.inj h).symm) dX11_stack_70
          · have h := (if_neg c_15).symm.trans h
            refine lv_tableOut (tgt := 71) hx hb dX11_stack_31 (x_tout [(0 : Int32), (1 : Int32), (2 : Int32)] 0 (by decide) (by decide) (List.forall_mem_cons.mpr ⟨c_9, (List.forall_mem_cons.mpr ⟨c_12, (List.forall_mem_cons.mpr ⟨c_15, (fun _ h => absurd h List.not_mem_nil)⟩)⟩)⟩)) (by decide) ?_
            refine lv_aload_n hx hb dX11_stack_71 rfl (lv_at hl 0 rfl) ?_
            refine x_cVi (As := []) (rest := []) hM hG xml_X11_186 xwi_X4_goodOfAll xws_X4_goodOfAll xih_mind.1 (by decide) rfl h (fun S' v e => c_X4_goodOfAll hM.2.2.2.2.2.2.1 xih_mind e _) ⟨Nat.le_of_ble_eq_true rfl, Nat.le_of_ble_eq_true rfl⟩ rfl hl.1 rfl (Nat.le_of_ble_eq_true rfl) dX11_stack_72 (fun S_18 v_19 H locs h hG => ?_)
            exact x_ri hM hG hr hlk rfl (k0 _ (Option.some.inj h).symm) dX11_stack_75
    · refine lv_iconst (v := (-1 : Int32)) hx hb dX11_stack_19 (by decide) ?_
      exact x_ri hM hG hr hlk rfl (k0 _ (Option.some.inj h).symm) dX11_stack_20
set_option maxHeartbeats 4000000 in
set_option maxRecDepth 100000 in
theorem c_X11_stack {l : Launch} {D : va_G} {cy : Nat → ClassId} {a z : Nat → Nat} (hI : xI xtb a) {S : xSt} {x1 : Int32} {x2 : Int32} {S' : xSt} {v' : Int32} (hf : f_X11_stack S x1 x2 = some (S', v')) (sz : Nat) : Met l yX11_stack (Cond.code yX11_stack cX11_stack 4 (some .int) :: xTB) ({ frames := 5, cells := 0, slots := 0, locals := 124 } : Room) (va_Pc [.ref (a 0), .int x1, .int x2] (xPre D cy xtb a z S sz)) (xQi D cy xtb a S' v' sz) 0 0 (xA xtb a sz) := by
  refine Met.ofW (cc := cX11_stack) (maxL := 4) (ret := (some .int)) (by decide) rfl ?_
  intro p e s m args below meth c s₁ B hml hv
  obtain ⟨rfl, hsz, hP, hK, hE⟩ := hv
  subst hsz
  have hl := lv_entry ([.ref (a 0), .int x1, .int x2]) (n := 4) (Nat.le_of_ble_eq_true rfl)
  rw [lg_entry_eq]
  generalize (lg_sl ([.ref (a 0), .int x1, .int x2]) ++ List.replicate (4 - (lg_sl ([.ref (a 0), .int x1, .int x2])).length) Slot.unset).toArray = ls at hl ⊢
  have hl : lv_has ls 4 [(0, .ref (a 0)), (1, .int x1), (2, .int x2)] := hl
  exact w_X11_stack_0 ⟨B.exec, B.bytes, hml, findClass_of_methodNamed B.named, fun w hw => atoms_spec (ws := Cond.code yX11_stack cX11_stack 4 (some .int) :: xTB) B.pre w (List.mem_cons_of_mem _ hw), hK, hI, hE⟩ B.returns B.notSynchronized hf (fun t0 e => e.symm) ⟨hP, va_S.rf⟩ (lv_sub hl [0, 1, 2] rfl)
set_option maxHeartbeats 4000000 in
set_option maxRecDepth 100000 in
theorem w_X11_rods_0 {x1 : Int32} (hM : xM p c cX11_rods m s args RX11 2 D cy xtb a z) (hr : meth.sig.returnType = (some .int)) (hlk : meth.locks = false) {S' : xSt} {v' : Int32} {S : xSt} {q : (xSt × Int32)} (h : f_X11_rods_0 x1 S = some q) (k0 : ∀ t0 : xSt × Int32, q = t0 → t0 = (S', v')) {H : Heap} {locs : List Loc} (hG : xG D cy xtb a S s H locs) {ls : Array Slot} (hl : lv_has ls 2 [(0, .ref (a 0)), (1, .int x1)]) : W p l e ({ frames := 10, cells := 0, slots := 0, locals := 238 } : Room) s m args below meth c H locs 0 0 (MQ below (xQi D cy xtb a S' v' s.heap.size) args s 0 0 (xA xtb a s.heap.size)) (F0 m 0 ls []) := by
  have hx := hM.1
  have hb := hM.2.1
  refine lv_iload_n hx hb dX11_rods_0 rfl (lv_at hl 1 rfl) ?_
  refine lv_iconst (v := (0 : Int32)) hx hb dX11_rods_1 (by decide) ?_
  refine lv_bipush (v := (99 : Int32)) hx hb dX11_rods_2 (by decide) ?_
  refine x_cSi (As := [.int x1, .int (0 : Int32), .int (99 : Int32)]) (rest := []) hM hG xml_X11_97 xwt_X11_within h (fun S' v e => c_X11_within hM.2.2.2.2.2.2.1 e _) ⟨Nat.le_of_ble_eq_true rfl, Nat.le_of_ble_eq_true rfl⟩ rfl hl.1 rfl (Nat.le_of_ble_eq_true rfl) dX11_rods_4 (fun S_1 v_2 H locs h hG => ?_)
  refine x_if_eq (tgt := 21) hM h dX11_rods_7 (by decide) (fun c_3 h => ?_) (fun c_3 h => ?_)
  · refine lv_iconst (v := (-1 : Int32)) hx hb dX11_rods_21 (by decide) ?_
    exact x_ri hM hG hr hlk rfl (k0 _ (Option.some.inj h).symm) dX11_rods_22
  · refine lv_aload_n hx hb dX11_rods_10 rfl (lv_at hl 0 rfl) ?_
    refine x_gr (r := 87) hM hG xfl_X11_49 xct_0 (by decide) rfl dX11_rods_11 ?_
    refine lv_iload_n hx hb dX11_rods_14 rfl (lv_at hl 1 rfl) ?_
    refine x_cVi (As := [.int x1]) (rest := []) hM hG xml_X11_192 xwi_X7_fewest xws_X7_fewest xct_87 (by decide) rfl h (fun S' v e => c_X7_fewest hM.2.2.2.2.2.2.1 e _) ⟨Nat.le_of_ble_eq_true rfl, Nat.le_of_ble_eq_true rfl⟩ rfl hl.1 rfl (Nat.le_of_ble_eq_true rfl) dX11_rods_15 (fun S_4 v_5 H locs h hG => ?_)
    refine lv_goto (tgt := 22) hx hb dX11_rods_18 (by decide) ?_
    exact x_ri hM hG hr hlk rfl (k0 _ (Option.some.inj h).symm) dX11_rods_22
set_option maxHeartbeats 4000000 in
set_option maxRecDepth 100000 in
theorem c_X11_rods {l : Launch} {D : va_G} {cy : Nat → ClassId} {a z : Nat → Nat} (hI : xI xtb a) {S : xSt} {x1 : Int32} {S' : xSt} {v' : Int32} (hf : f_X11_rods S x1 = some (S', v')) (sz : Nat) : Met l yX11_rods (Cond.code yX11_rods cX11_rods 2 (some .int) :: xTB) ({ frames := 10, cells := 0, slots := 0, locals := 238 } : Room) (va_Pc [.ref (a 0), .int x1] (xPre D cy xtb a z S sz)) (xQi D cy xtb a S' v' sz) 0 0 (xA xtb a sz) := by
  refine Met.ofW (cc := cX11_rods) (maxL := 2) (ret := (some .int)) (by decide) rfl ?_
  intro p e s m args below meth c s₁ B hml hv
  obtain ⟨rfl, hsz, hP, hK, hE⟩ := hv
  subst hsz
  have hl := lv_entry ([.ref (a 0), .int x1]) (n := 2) (Nat.le_of_ble_eq_true rfl)
  rw [lg_entry_eq]
  generalize (lg_sl ([.ref (a 0), .int x1]) ++ List.replicate (2 - (lg_sl ([.ref (a 0), .int x1])).length) Slot.unset).toArray = ls at hl ⊢
  have hl : lv_has ls 2 [(0, .ref (a 0)), (1, .int x1)] := hl
  exact w_X11_rods_0 ⟨B.exec, B.bytes, hml, findClass_of_methodNamed B.named, fun w hw => atoms_spec (ws := Cond.code yX11_rods cX11_rods 2 (some .int) :: xTB) B.pre w (List.mem_cons_of_mem _ hw), hK, hI, hE⟩ B.returns B.notSynchronized hf (fun t0 e => e.symm) ⟨hP, va_S.rf⟩ (lv_sub hl [0, 1] rfl)
set_option maxHeartbeats 4000000 in
set_option maxRecDepth 100000 in
theorem w_X11_rodsAt_0 {x1 : Int32} (hM : xM p c cX11_rodsAt m s args RX11 2 D cy xtb a z) (hr : meth.sig.returnType = (some .long)) (hlk : meth.locks = false) {S' : xSt} {v' : Int64} {S : xSt} {q : (xSt × Int64)} (h : f_X11_rodsAt_0 x1 S = some q) (k0 : ∀ t0 : xSt × Int64, q = t0 → t0 = (S', v')) {H : Heap} {locs : List Loc} (hG : xG D cy xtb a S s H locs) {ls : Array Slot} (hl : lv_has ls 2 [(0, .ref (a 0)), (1, .int x1)]) : W p l e ({ frames := 10, cells := 0, slots := 0, locals := 238 } : Room) s m args below meth c H locs 0 0 (MQ below (xQl D cy xtb a S' v' s.heap.size) args s 0 0 (xA xtb a s.heap.size)) (F0 m 0 ls []) := by
  have hx := hM.1
  have hb := hM.2.1
  refine lv_iload_n hx hb dX11_rodsAt_0 rfl (lv_at hl 1 rfl) ?_
  refine lv_iconst (v := (0 : Int32)) hx hb dX11_rodsAt_1 (by decide) ?_
  refine lv_bipush (v := (99 : Int32)) hx hb dX11_rodsAt_2 (by decide) ?_
  refine x_cSi (As := [.int x1, .int (0 : Int32), .int (99 : Int32)]) (rest := []) hM hG xml_X11_97 xwt_X11_within h (fun S' v e => c_X11_within hM.2.2.2.2.2.2.1 e _) ⟨Nat.le_of_ble_eq_true rfl, Nat.le_of_ble_eq_true rfl⟩ rfl hl.1 rfl (Nat.le_of_ble_eq_true rfl) dX11_rodsAt_4 (fun S_1 v_2 H locs h hG => ?_)
  refine x_if_ne (tgt := 14) hM h dX11_rodsAt_7 (by decide) (fun c_3 h => ?_) (fun c_3 h => ?_)
  · refine lv_aload_n hx hb dX11_rodsAt_14 rfl (lv_at hl 0 rfl) ?_
    refine x_gr (r := 87) hM hG xfl_X11_49 xct_0 (by decide) rfl dX11_rodsAt_15 ?_
    refine lv_iload_n hx hb dX11_rodsAt_18 rfl (lv_at hl 1 rfl) ?_
    refine x_cVi (As := [.int x1]) (rest := []) hM hG xml_X11_192 xwi_X7_fewest xws_X7_fewest xct_87 (by decide) rfl h (fun S' v e => c_X7_fewest hM.2.2.2.2.2.2.1 e _) ⟨Nat.le_of_ble_eq_true rfl, Nat.le_of_ble_eq_true rfl⟩ rfl hl.1 rfl (Nat.le_of_ble_eq_true rfl) dX11_rodsAt_19 (fun S_4 v_5 H locs h hG => ?_)
    refine lv_bipush (v := (-2 : Int32)) hx hb dX11_rodsAt_22 (by decide) ?_
    refine x_icmp_ne (tgt := 33) hM h dX11_rodsAt_24 (by decide) (fun c_6 h => ?_) (fun c_6 h => ?_)
    · refine lv_aload_n hx hb dX11_rodsAt_33 rfl (lv_at hl 0 rfl) ?_
      refine x_gr (r := 87) hM hG xfl_X11_49 xct_0 (by decide) rfl dX11_rodsAt_34 ?_
      refine x_gi hM hG xfl_X11_201 xct_87 (by decide) rfl h dX11_rodsAt_37 (fun v_7 h => ?_)
      refine x_i2l hM h dX11_rodsAt_40 (fun v_8 h => ?_)
      exact x_rl hM hG hr hlk (k0 _ (Option.some.inj h).symm) dX11_rodsAt_41
    · refine lv_ldc2 (v := (-2 : Int64)) hx hb hM.2.2.2.1 (hM.2.2.2.2.1 _ xcn_X11_199) dX11_rodsAt_27 ?_
      refine lv_goto (tgt := 41) hx hb dX11_rodsAt_30 (by decide) ?_
      exact x_rl hM hG hr hlk (k0 _ (Option.some.inj h).symm) dX11_rodsAt_41
  · refine lv_ldc2 (v := (-9223372036854775808 : Int64)) hx hb hM.2.2.2.1 (hM.2.2.2.2.1 _ xcn_X11_197) dX11_rodsAt_10 ?_
    exact x_rl hM hG hr hlk (k0 _ (Option.some.inj h).symm) dX11_rodsAt_13
set_option maxHeartbeats 4000000 in
set_option maxRecDepth 100000 in
theorem c_X11_rodsAt {l : Launch} {D : va_G} {cy : Nat → ClassId} {a z : Nat → Nat} (hI : xI xtb a) {S : xSt} {x1 : Int32} {S' : xSt} {v' : Int64} (hf : f_X11_rodsAt S x1 = some (S', v')) (sz : Nat) : Met l yX11_rodsAt (Cond.code yX11_rodsAt cX11_rodsAt 2 (some .long) :: xTB) ({ frames := 10, cells := 0, slots := 0, locals := 238 } : Room) (va_Pc [.ref (a 0), .int x1] (xPre D cy xtb a z S sz)) (xQl D cy xtb a S' v' sz) 0 0 (xA xtb a sz) := by
  refine Met.ofW (cc := cX11_rodsAt) (maxL := 2) (ret := (some .long)) (by decide) rfl ?_
  intro p e s m args below meth c s₁ B hml hv
  obtain ⟨rfl, hsz, hP, hK, hE⟩ := hv
  subst hsz
  have hl := lv_entry ([.ref (a 0), .int x1]) (n := 2) (Nat.le_of_ble_eq_true rfl)
  rw [lg_entry_eq]
  generalize (lg_sl ([.ref (a 0), .int x1]) ++ List.replicate (2 - (lg_sl ([.ref (a 0), .int x1])).length) Slot.unset).toArray = ls at hl ⊢
  have hl : lv_has ls 2 [(0, .ref (a 0)), (1, .int x1)] := hl
  exact w_X11_rodsAt_0 ⟨B.exec, B.bytes, hml, findClass_of_methodNamed B.named, fun w hw => atoms_spec (ws := Cond.code yX11_rodsAt cX11_rodsAt 2 (some .long) :: xTB) B.pre w (List.mem_cons_of_mem _ hw), hK, hI, hE⟩ B.returns B.notSynchronized hf (fun t0 e => e.symm) ⟨hP, va_S.rf⟩ (lv_sub hl [0, 1] rfl)
end XWwalkX2
